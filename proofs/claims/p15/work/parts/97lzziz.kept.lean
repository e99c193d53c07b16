def kc_128n : pj_KT := ([(53, 1), (53, 2), (57, 0), (57, 5), (57, 7), (57, 8), (63, 0), (63, 5), (63, 7), (63, 8), (69, 0), (69, 5), (69, 7), (69, 8), (75, 0), (75, 5), (75, 7), (75, 8), (81, 0), (81, 5), (81, 7), (81, 8), (87, 0), (87, 5), (87, 7), (87, 8), (93, 0), (93, 5), (93, 7), (93, 8), (99, 0), (99, 5), (99, 7), (99, 8), (105, 0), (105, 5), (105, 7), (105, 8), (111, 0), (111, 5), (111, 7), (111, 8), (117, 0), (117, 5), (117, 7), (117, 8), (123, 0), (123, 5), (123, 7), (123, 8), (129, 0), (129, 5), (129, 7), (129, 8), (135, 0), (135, 5), (135, 7), (135, 8), (141, 0), (141, 5), (141, 7), (141, 8), (147, 0), (147, 5), (147, 7), (147, 8)], [22, 23, 30, 33, 53, 57, 58, 59, 60, 61, 62, 63, 64, 65, 66, 67, 68, 69, 70, 71, 72, 73, 74, 75, 76, 77, 78, 79, 80, 81, 82, 83, 84, 85, 86, 87, 88, 89, 90, 91, 92, 93, 94, 95, 96, 97, 98, 99, 100, 101, 102, 103, 104, 105, 106, 107, 108, 109, 110, 111, 112, 113, 114, 115, 116, 117, 118, 119, 120, 121, 122, 123, 124, 125, 126, 127, 128, 129, 130, 131, 132, 133, 134, 135, 136, 137, 138, 139, 140, 141, 142, 143, 144, 145, 146, 147, 148, 149, 150, 151, 152], [22, 23, 30, 33, 58, 59, 60, 61, 62, 64, 65, 66, 67, 68, 70, 71, 72, 73, 74, 76, 77, 78, 79, 80, 82, 83, 84, 85, 86, 88, 89, 90, 91, 92, 94, 95, 96, 97, 98, 100, 101, 102, 103, 104, 106, 107, 108, 109, 110, 112, 113, 114, 115, 116, 118, 119, 120, 121, 122, 124, 125, 126, 127, 128, 130, 131, 132, 133, 134, 136, 137, 138, 139, 140, 142, 143, 144, 145, 146, 148, 149, 150, 151, 152])
theorem ct_128n (G0 : pj_G) (hI : pj_Inv G0) (b : Int32) (c : Int32) : pj_Y 6 128 [.ref 1, .int b, .int c] G0 (fun v G' => ∃ y : Int32, v = some (.int y) ∧ pj_Inv G' ∧ pj_kpt kc_128n G0 G' ∧ ((-2147483648 : Int) ≤ y.toInt ∧ y.toInt ≤ 2147483647) ∧ (mr_PC G0 G')) := by
  have c0_ : (Int32.ofInt 0).toInt = 0 := by decide
  have c1_ : (Int32.ofInt 1).toInt = 1 := by decide
  refine pj_Y_X (M := pj_m128) rfl rfl (Nat.le_of_ble_eq_true rfl) ?_
  have hK : pj_kpt kc_128n G0 G0 := pj_kpt_r _ _
  show pj_X _ _ G0 0 [(0, .ref 1), (1, .int b), (2, .int c)] [] _
  refine pj_X_of (fun r h => pj_R_to (G0, 1, [(0, .ref 1), (1, .int b), (2, .int c)], [.ref 1], 0, 0) 1 2 (fun _ => rfl) h) ?_
  refine pj_X_of (fun r h => pj_T_gr hI rfl rfl rfl h) ?_
  refine pj_X_of (fun r h => pj_R_to (G0, 5, [(0, .ref 1), (1, .int b), (2, .int c)], [.ref 1, .ref 53], 0, 0) 5 2 (fun _ => rfl) h) ?_
  refine pj_X_of (fun r h => pj_T_gr hI rfl rfl rfl h) ?_
  refine pj_X_of (fun r h => pj_T_gr hI rfl rfl rfl h) ?_
  refine pj_X_ca (vs := [.ref 53, .ref 21]) rfl (fun _ => rfl) ⟨Nat.le_of_ble_eq_true rfl, Nat.le_of_ble_eq_true rfl, pj_T_rcv hI rfl⟩ ⟨rfl, rfl⟩ (pj_Y_up (by decide) (ct_33n G0 hI)) ?_
  rintro _ G2 ⟨rfl, iG2, jG2, eG2⟩
  have kG2 : pj_kpt kc_128n G0 G2 := pj_kpt_t hK (pj_kpt_s jG2 rfl)
  show pj_X _ _ G2 14 [(0, .ref 1), (1, .int b), (2, .int c)] [] _
  refine pj_X_of (fun r h => pj_R_to (G2, 15, [(0, .ref 1), (1, .int b), (2, .int c)], [.ref 1], 0, 0) 15 2 (fun _ => rfl) h) ?_
  refine pj_X_of (fun r h => pj_T_gr iG2 rfl rfl rfl h) ?_
  refine pj_X_of (fun r h => pj_R_to (G2, 20, [(0, .ref 1), (1, .int b), (2, .int c)], [.int c, .int b, .ref 6], 0, 0) 20 3 (fun _ => rfl) h) ?_
  refine pj_X_ca (vs := [.ref 6, .int b, .int c]) rfl (fun _ => rfl) ⟨Nat.le_of_ble_eq_true rfl, Nat.le_of_ble_eq_true rfl, pj_T_rcv iG2 rfl⟩ ⟨rfl, rfl⟩ (pj_Y_up (by decide) (ct_102x G2 iG2 b c)) ?_
  rintro _ G4 ⟨y3, rfl, iG4, jG4, ry3, fy3⟩
  have kG4 : pj_kpt kc_128n G0 G4 := pj_kpt_t kG2 (pj_kpt_s jG4 rfl)
  show pj_X _ _ G4 23 [(0, .ref 1), (1, .int b), (2, .int c)] [.int y3] _
  refine pj_X_of (fun r h => pj_R_to (G4, 25, [(3, .int y3), (0, .ref 1), (1, .int b), (2, .int c)], [.ref 1], 0, 0) 25 3 (fun _ => rfl) h) ?_
  refine pj_X_of (fun r h => pj_T_gr iG4 rfl rfl rfl h) ?_
  refine pj_X_of (fun r h => pj_R_to (G4, 29, [(3, .int y3), (0, .ref 1), (1, .int b), (2, .int c)], [.int y3, .ref 53], 0, 0) 29 2 (fun _ => rfl) h) ?_
  cases b5 : pj_c1 .lt y3 0 with
  | true =>
    have ub5 := pj_u0_ltT b5
    refine pj_X_of (fun r h => pj_R_ifT 36 rfl rfl b5 h) ?_
    refine pj_X_of (fun r h => pj_R_to (G4, 37, [(3, .int y3), (0, .ref 1), (1, .int b), (2, .int c)], [.int (Int32.ofInt 0), .ref 53], 0, 0) 37 2 (fun _ => rfl) h) ?_
    refine pj_X_ca (vs := [.ref 53, .int (Int32.ofInt 0)]) rfl (fun _ => rfl) ⟨Nat.le_of_ble_eq_true rfl, Nat.le_of_ble_eq_true rfl, pj_T_rcv iG4 rfl⟩ ⟨rfl, rfl⟩ (pj_Y_up (by decide) (ct_34n G4 iG4 (Int32.ofInt 0) ⟨by omega, by omega⟩)) ?_
    rintro _ G7 ⟨rfl, iG7, jG7, eG7⟩
    have kG7 : pj_kpt kc_128n G0 G7 := pj_kpt_t kG4 (pj_kpt_s jG7 rfl)
    show pj_X _ _ G7 40 [(3, .int y3), (0, .ref 1), (1, .int b), (2, .int c)] [] _
    refine pj_X_of (fun r h => pj_R_to (G7, 41, [(3, .int y3), (0, .ref 1), (1, .int b), (2, .int c)], [.int y3], 0, 0) 41 2 (fun _ => rfl) h) ?_
    exact pj_X_rt rfl rfl ⟨_, rfl, iG7, kG7, pj_i32 _, mr_deed hI eG2 jG2 rfl jG4 rfl jG7 rfl (by omega)⟩
  | false =>
    have ub5 := pj_u0_ltF b5
    refine pj_X_of (fun r h => pj_R_ifF rfl b5 h) ?_
    refine pj_X_of (fun r h => pj_R_to (G4, 37, [(3, .int y3), (0, .ref 1), (1, .int b), (2, .int c)], [.int (Int32.ofInt 1), .ref 53], 0, 0) 37 3 (fun _ => rfl) h) ?_
    refine pj_X_ca (vs := [.ref 53, .int (Int32.ofInt 1)]) rfl (fun _ => rfl) ⟨Nat.le_of_ble_eq_true rfl, Nat.le_of_ble_eq_true rfl, pj_T_rcv iG4 rfl⟩ ⟨rfl, rfl⟩ (pj_Y_up (by decide) (ct_34n G4 iG4 (Int32.ofInt 1) ⟨by omega, by omega⟩)) ?_
    rintro _ G9 ⟨rfl, iG9, jG9, eG9⟩
    have kG9 : pj_kpt kc_128n G0 G9 := pj_kpt_t kG4 (pj_kpt_s jG9 rfl)
    show pj_X _ _ G9 40 [(3, .int y3), (0, .ref 1), (1, .int b), (2, .int c)] [] _
    refine pj_X_of (fun r h => pj_R_to (G9, 41, [(3, .int y3), (0, .ref 1), (1, .int b), (2, .int c)], [.int y3], 0, 0) 41 2 (fun _ => rfl) h) ?_
    exact pj_X_rt rfl rfl ⟨_, rfl, iG9, kG9, pj_i32 _, mr_deed hI eG2 jG2 rfl jG4 rfl jG9 rfl (by omega)⟩
def kc_129n : pj_KT := ([(53, 1), (53, 2), (57, 0), (57, 5), (57, 7), (57, 8), (63, 0), (63, 5), (63, 7), (63, 8), (69, 0), (69, 5), (69, 7), (69, 8), (75, 0), (75, 5), (75, 7), (75, 8), (81, 0), (81, 5), (81, 7), (81, 8), (87, 0), (87, 5), (87, 7), (87, 8), (93, 0), (93, 5), (93, 7), (93, 8), (99, 0), (99, 5), (99, 7), (99, 8), (105, 0), (105, 5), (105, 7), (105, 8), (111, 0), (111, 5), (111, 7), (111, 8), (117, 0), (117, 5), (117, 7), (117, 8), (123, 0), (123, 5), (123, 7), (123, 8), (129, 0), (129, 5), (129, 7), (129, 8), (135, 0), (135, 5), (135, 7), (135, 8), (141, 0), (141, 5), (141, 7), (141, 8), (147, 0), (147, 5), (147, 7), (147, 8)], [25, 53, 57, 58, 59, 60, 61, 62, 63, 64, 65, 66, 67, 68, 69, 70, 71, 72, 73, 74, 75, 76, 77, 78, 79, 80, 81, 82, 83, 84, 85, 86, 87, 88, 89, 90, 91, 92, 93, 94, 95, 96, 97, 98, 99, 100, 101, 102, 103, 104, 105, 106, 107, 108, 109, 110, 111, 112, 113, 114, 115, 116, 117, 118, 119, 120, 121, 122, 123, 124, 125, 126, 127, 128, 129, 130, 131, 132, 133, 134, 135, 136, 137, 138, 139, 140, 141, 142, 143, 144, 145, 146, 147, 148, 149, 150, 151, 152], [25, 58, 59, 60, 61, 62, 64, 65, 66, 67, 68, 70, 71, 72, 73, 74, 76, 77, 78, 79, 80, 82, 83, 84, 85, 86, 88, 89, 90, 91, 92, 94, 95, 96, 97, 98, 100, 101, 102, 103, 104, 106, 107, 108, 109, 110, 112, 113, 114, 115, 116, 118, 119, 120, 121, 122, 124, 125, 126, 127, 128, 130, 131, 132, 133, 134, 136, 137, 138, 139, 140, 142, 143, 144, 145, 146, 148, 149, 150, 151, 152])
theorem ct_129n (G0 : pj_G) (hI : pj_Inv G0) (b : Int32) (hr : Int32) : pj_Y 5 129 [.ref 1, .int b, .int hr] G0 (fun v G' => ∃ y : Int32, v = some (.int y) ∧ pj_Inv G' ∧ pj_kpt kc_129n G0 G' ∧ ((-2147483648 : Int) ≤ y.toInt ∧ y.toInt ≤ 2147483647) ∧ (mr_PC G0 G')) := by
  have c0_ : (Int32.ofInt (-1)).toInt = -1 := by decide
  have c1_ : (Int32.ofInt 0).toInt = 0 := by decide
  have c2_ : (Int32.ofInt 1).toInt = 1 := by decide
  refine pj_Y_X (M := pj_m129) rfl rfl (Nat.le_of_ble_eq_true rfl) ?_
  have hK : pj_kpt kc_129n G0 G0 := pj_kpt_r _ _
  show pj_X _ _ G0 0 [(0, .ref 1), (1, .int b), (2, .int hr)] [] _
  refine pj_X_of (fun r h => pj_R_to (G0, 1, [(0, .ref 1), (1, .int b), (2, .int hr)], [.ref 1], 0, 0) 1 2 (fun _ => rfl) h) ?_
  refine pj_X_of (fun r h => pj_T_gr hI rfl rfl rfl h) ?_
  refine pj_X_of (fun r h => pj_R_to (G0, 5, [(0, .ref 1), (1, .int b), (2, .int hr)], [.ref 1, .ref 53], 0, 0) 5 2 (fun _ => rfl) h) ?_
  refine pj_X_of (fun r h => pj_T_gr hI rfl rfl rfl h) ?_
  refine pj_X_of (fun r h => pj_T_gr hI rfl rfl rfl h) ?_
  refine pj_X_ca (vs := [.ref 53, .ref 21]) rfl (fun _ => rfl) ⟨Nat.le_of_ble_eq_true rfl, Nat.le_of_ble_eq_true rfl, pj_T_rcv hI rfl⟩ ⟨rfl, rfl⟩ (pj_Y_up (by decide) (ct_33n G0 hI)) ?_
  rintro _ G2 ⟨rfl, iG2, jG2, eG2⟩
  have kG2 : pj_kpt kc_129n G0 G2 := pj_kpt_t hK (pj_kpt_s jG2 rfl)
  show pj_X _ _ G2 14 [(0, .ref 1), (1, .int b), (2, .int hr)] [] _
  refine pj_X_of (fun r h => pj_R_to (G2, 15, [(0, .ref 1), (1, .int b), (2, .int hr)], [.ref 1], 0, 0) 15 2 (fun _ => rfl) h) ?_
  refine pj_X_of (fun r h => pj_T_gr iG2 rfl rfl rfl h) ?_
  refine pj_X_of (fun r h => pj_R_to (G2, 20, [(0, .ref 1), (1, .int b), (2, .int hr)], [.int hr, .int b, .ref 6], 0, 0) 20 3 (fun _ => rfl) h) ?_
  refine pj_X_ca (vs := [.ref 6, .int b, .int hr]) rfl (fun _ => rfl) ⟨Nat.le_of_ble_eq_true rfl, Nat.le_of_ble_eq_true rfl, pj_T_rcv iG2 rfl⟩ ⟨rfl, rfl⟩ (pj_Y_up (by decide) (ct_103x G2 iG2 b hr)) ?_
  rintro _ G4 ⟨y3, rfl, iG4, jG4, ry3, fy3⟩
  have kG4 : pj_kpt kc_129n G0 G4 := pj_kpt_t kG2 (pj_kpt_s jG4 rfl)
  show pj_X _ _ G4 23 [(0, .ref 1), (1, .int b), (2, .int hr)] [.int y3] _
  refine pj_X_of (fun r h => pj_R_to (G4, 25, [(3, .int y3), (0, .ref 1), (1, .int b), (2, .int hr)], [.ref 1], 0, 0) 25 3 (fun _ => rfl) h) ?_
  refine pj_X_of (fun r h => pj_T_gr iG4 rfl rfl rfl h) ?_
  refine pj_X_of (fun r h => pj_R_to (G4, 30, [(3, .int y3), (0, .ref 1), (1, .int b), (2, .int hr)], [.int (Int32.ofInt (-1)), .int y3, .ref 53], 0, 0) 30 3 (fun _ => rfl) h) ?_
  cases b5 : pj_c1 .lt y3 (Int32.ofInt (-1)) with
  | true =>
    have ub5 := pj_u_ltT b5
    refine pj_X_of (fun r h => pj_R_icT 37 rfl rfl b5 h) ?_
    refine pj_X_of (fun r h => pj_R_to (G4, 38, [(3, .int y3), (0, .ref 1), (1, .int b), (2, .int hr)], [.int (Int32.ofInt 0), .ref 53], 0, 0) 38 2 (fun _ => rfl) h) ?_
    refine pj_X_ca (vs := [.ref 53, .int (Int32.ofInt 0)]) rfl (fun _ => rfl) ⟨Nat.le_of_ble_eq_true rfl, Nat.le_of_ble_eq_true rfl, pj_T_rcv iG4 rfl⟩ ⟨rfl, rfl⟩ (pj_Y_up (by decide) (ct_34n G4 iG4 (Int32.ofInt 0) ⟨by omega, by omega⟩)) ?_
    rintro _ G7 ⟨rfl, iG7, jG7, eG7⟩
    have kG7 : pj_kpt kc_129n G0 G7 := pj_kpt_t kG4 (pj_kpt_s jG7 rfl)
    show pj_X _ _ G7 41 [(3, .int y3), (0, .ref 1), (1, .int b), (2, .int hr)] [] _
    refine pj_X_of (fun r h => pj_R_to (G7, 42, [(3, .int y3), (0, .ref 1), (1, .int b), (2, .int hr)], [.int y3], 0, 0) 42 2 (fun _ => rfl) h) ?_
    exact pj_X_rt rfl rfl ⟨_, rfl, iG7, kG7, pj_i32 _, mr_deed hI eG2 jG2 rfl jG4 rfl jG7 rfl (by omega)⟩
  | false =>
    have ub5 := pj_u_ltF b5
    refine pj_X_of (fun r h => pj_R_icF rfl b5 h) ?_
    refine pj_X_of (fun r h => pj_R_to (G4, 38, [(3, .int y3), (0, .ref 1), (1, .int b), (2, .int hr)], [.int (Int32.ofInt 1), .ref 53], 0, 0) 38 3 (fun _ => rfl) h) ?_
    refine pj_X_ca (vs := [.ref 53, .int (Int32.ofInt 1)]) rfl (fun _ => rfl) ⟨Nat.le_of_ble_eq_true rfl, Nat.le_of_ble_eq_true rfl, pj_T_rcv iG4 rfl⟩ ⟨rfl, rfl⟩ (pj_Y_up (by decide) (ct_34n G4 iG4 (Int32.ofInt 1) ⟨by omega, by omega⟩)) ?_
    rintro _ G9 ⟨rfl, iG9, jG9, eG9⟩
    have kG9 : pj_kpt kc_129n G0 G9 := pj_kpt_t kG4 (pj_kpt_s jG9 rfl)
    show pj_X _ _ G9 41 [(3, .int y3), (0, .ref 1), (1, .int b), (2, .int hr)] [] _
    refine pj_X_of (fun r h => pj_R_to (G9, 42, [(3, .int y3), (0, .ref 1), (1, .int b), (2, .int hr)], [.int y3], 0, 0) 42 2 (fun _ => rfl) h) ?_
    exact pj_X_rt rfl rfl ⟨_, rfl, iG9, kG9, pj_i32 _, mr_deed hI eG2 jG2 rfl jG4 rfl jG9 rfl (by omega)⟩
def kc_130n : pj_KT := ([(53, 1), (53, 2), (57, 0), (57, 5), (57, 7), (57, 8), (63, 0), (63, 5), (63, 7), (63, 8), (69, 0), (69, 5), (69, 7), (69, 8), (75, 0), (75, 5), (75, 7), (75, 8), (81, 0), (81, 5), (81, 7), (81, 8), (87, 0), (87, 5), (87, 7), (87, 8), (93, 0), (93, 5), (93, 7), (93, 8), (99, 0), (99, 5), (99, 7), (99, 8), (105, 0), (105, 5), (105, 7), (105, 8), (111, 0), (111, 5), (111, 7), (111, 8), (117, 0), (117, 5), (117, 7), (117, 8), (123, 0), (123, 5), (123, 7), (123, 8), (129, 0), (129, 5), (129, 7), (129, 8), (135, 0), (135, 5), (135, 7), (135, 8), (141, 0), (141, 5), (141, 7), (141, 8), (147, 0), (147, 5), (147, 7), (147, 8)], [24, 26, 53, 57, 58, 59, 60, 61, 62, 63, 64, 65, 66, 67, 68, 69, 70, 71, 72, 73, 74, 75, 76, 77, 78, 79, 80, 81, 82, 83, 84, 85, 86, 87, 88, 89, 90, 91, 92, 93, 94, 95, 96, 97, 98, 99, 100, 101, 102, 103, 104, 105, 106, 107, 108, 109, 110, 111, 112, 113, 114, 115, 116, 117, 118, 119, 120, 121, 122, 123, 124, 125, 126, 127, 128, 129, 130, 131, 132, 133, 134, 135, 136, 137, 138, 139, 140, 141, 142, 143, 144, 145, 146, 147, 148, 149, 150, 151, 152], [24, 26, 58, 59, 60, 61, 62, 64, 65, 66, 67, 68, 70, 71, 72, 73, 74, 76, 77, 78, 79, 80, 82, 83, 84, 85, 86, 88, 89, 90, 91, 92, 94, 95, 96, 97, 98, 100, 101, 102, 103, 104, 106, 107, 108, 109, 110, 112, 113, 114, 115, 116, 118, 119, 120, 121, 122, 124, 125, 126, 127, 128, 130, 131, 132, 133, 134, 136, 137, 138, 139, 140, 142, 143, 144, 145, 146, 148, 149, 150, 151, 152])
theorem ct_130n (G0 : pj_G) (hI : pj_Inv G0) (p : Int32) (c : Int32) : pj_Y 5 130 [.ref 1, .int p, .int c] G0 (fun v G' => ∃ y : Int32, v = some (.int y) ∧ pj_Inv G' ∧ pj_kpt kc_130n G0 G' ∧ ((-2147483648 : Int) ≤ y.toInt ∧ y.toInt ≤ 2147483647) ∧ (mr_PC G0 G')) := by
  have c0_ : (Int32.ofInt 0).toInt = 0 := by decide
  have c1_ : (Int32.ofInt 1).toInt = 1 := by decide
  refine pj_Y_X (M := pj_m130) rfl rfl (Nat.le_of_ble_eq_true rfl) ?_
  have hK : pj_kpt kc_130n G0 G0 := pj_kpt_r _ _
  show pj_X _ _ G0 0 [(0, .ref 1), (1, .int p), (2, .int c)] [] _
  refine pj_X_of (fun r h => pj_R_to (G0, 1, [(0, .ref 1), (1, .int p), (2, .int c)], [.ref 1], 0, 0) 1 2 (fun _ => rfl) h) ?_
  refine pj_X_of (fun r h => pj_T_gr hI rfl rfl rfl h) ?_
  refine pj_X_of (fun r h => pj_R_to (G0, 5, [(0, .ref 1), (1, .int p), (2, .int c)], [.ref 1, .ref 53], 0, 0) 5 2 (fun _ => rfl) h) ?_
  refine pj_X_of (fun r h => pj_T_gr hI rfl rfl rfl h) ?_
  refine pj_X_of (fun r h => pj_T_gr hI rfl rfl rfl h) ?_
  refine pj_X_ca (vs := [.ref 53, .ref 21]) rfl (fun _ => rfl) ⟨Nat.le_of_ble_eq_true rfl, Nat.le_of_ble_eq_true rfl, pj_T_rcv hI rfl⟩ ⟨rfl, rfl⟩ (pj_Y_up (by decide) (ct_33n G0 hI)) ?_
  rintro _ G2 ⟨rfl, iG2, jG2, eG2⟩
  have kG2 : pj_kpt kc_130n G0 G2 := pj_kpt_t hK (pj_kpt_s jG2 rfl)
  show pj_X _ _ G2 14 [(0, .ref 1), (1, .int p), (2, .int c)] [] _
  refine pj_X_of (fun r h => pj_R_to (G2, 15, [(0, .ref 1), (1, .int p), (2, .int c)], [.ref 1], 0, 0) 15 2 (fun _ => rfl) h) ?_
  refine pj_X_of (fun r h => pj_T_gr iG2 rfl rfl rfl h) ?_
  refine pj_X_of (fun r h => pj_R_to (G2, 20, [(0, .ref 1), (1, .int p), (2, .int c)], [.int c, .int p, .ref 6], 0, 0) 20 3 (fun _ => rfl) h) ?_
  refine pj_X_ca (vs := [.ref 6, .int p, .int c]) rfl (fun _ => rfl) ⟨Nat.le_of_ble_eq_true rfl, Nat.le_of_ble_eq_true rfl, pj_T_rcv iG2 rfl⟩ ⟨rfl, rfl⟩ (pj_Y_up (by decide) (ct_104x G2 iG2 p c)) ?_
  rintro _ G4 ⟨y3, rfl, iG4, jG4, ry3, fy3⟩
  have kG4 : pj_kpt kc_130n G0 G4 := pj_kpt_t kG2 (pj_kpt_s jG4 rfl)
  show pj_X _ _ G4 23 [(0, .ref 1), (1, .int p), (2, .int c)] [.int y3] _
  refine pj_X_of (fun r h => pj_R_to (G4, 25, [(3, .int y3), (0, .ref 1), (1, .int p), (2, .int c)], [.ref 1], 0, 0) 25 3 (fun _ => rfl) h) ?_
  refine pj_X_of (fun r h => pj_T_gr iG4 rfl rfl rfl h) ?_
  refine pj_X_of (fun r h => pj_R_to (G4, 29, [(3, .int y3), (0, .ref 1), (1, .int p), (2, .int c)], [.int y3, .ref 53], 0, 0) 29 2 (fun _ => rfl) h) ?_
  cases b5 : pj_c1 .lt y3 0 with
  | true =>
    have ub5 := pj_u0_ltT b5
    refine pj_X_of (fun r h => pj_R_ifT 36 rfl rfl b5 h) ?_
    refine pj_X_of (fun r h => pj_R_to (G4, 37, [(3, .int y3), (0, .ref 1), (1, .int p), (2, .int c)], [.int (Int32.ofInt 0), .ref 53], 0, 0) 37 2 (fun _ => rfl) h) ?_
    refine pj_X_ca (vs := [.ref 53, .int (Int32.ofInt 0)]) rfl (fun _ => rfl) ⟨Nat.le_of_ble_eq_true rfl, Nat.le_of_ble_eq_true rfl, pj_T_rcv iG4 rfl⟩ ⟨rfl, rfl⟩ (pj_Y_up (by decide) (ct_34n G4 iG4 (Int32.ofInt 0) ⟨by omega, by omega⟩)) ?_
    rintro _ G7 ⟨rfl, iG7, jG7, eG7⟩
    have kG7 : pj_kpt kc_130n G0 G7 := pj_kpt_t kG4 (pj_kpt_s jG7 rfl)
    show pj_X _ _ G7 40 [(3, .int y3), (0, .ref 1), (1, .int p), (2, .int c)] [] _
    refine pj_X_of (fun r h => pj_R_to (G7, 41, [(3, .int y3), (0, .ref 1), (1, .int p), (2, .int c)], [.int y3], 0, 0) 41 2 (fun _ => rfl) h) ?_
    exact pj_X_rt rfl rfl ⟨_, rfl, iG7, kG7, pj_i32 _, mr_deed hI eG2 jG2 rfl jG4 rfl jG7 rfl (by omega)⟩
  | false =>
    have ub5 := pj_u0_ltF b5
    refine pj_X_of (fun r h => pj_R_ifF rfl b5 h) ?_
    refine pj_X_of (fun r h => pj_R_to (G4, 37, [(3, .int y3), (0, .ref 1), (1, .int p), (2, .int c)], [.int (Int32.ofInt 1), .ref 53], 0, 0) 37 3 (fun _ => rfl) h) ?_
    refine pj_X_ca (vs := [.ref 53, .int (Int32.ofInt 1)]) rfl (fun _ => rfl) ⟨Nat.le_of_ble_eq_true rfl, Nat.le_of_ble_eq_true rfl, pj_T_rcv iG4 rfl⟩ ⟨rfl, rfl⟩ (pj_Y_up (by decide) (ct_34n G4 iG4 (Int32.ofInt 1) ⟨by omega, by omega⟩)) ?_
    rintro _ G9 ⟨rfl, iG9, jG9, eG9⟩
    have kG9 : pj_kpt kc_130n G0 G9 := pj_kpt_t kG4 (pj_kpt_s jG9 rfl)
    show pj_X _ _ G9 40 [(3, .int y3), (0, .ref 1), (1, .int p), (2, .int c)] [] _
    refine pj_X_of (fun r h => pj_R_to (G9, 41, [(3, .int y3), (0, .ref 1), (1, .int p), (2, .int c)], [.int y3], 0, 0) 41 2 (fun _ => rfl) h) ?_
    exact pj_X_rt rfl rfl ⟨_, rfl, iG9, kG9, pj_i32 _, mr_deed hI eG2 jG2 rfl jG4 rfl jG9 rfl (by omega)⟩
def kc_131n : pj_KT := ([(4, 1), (6, 7), (6, 8), (21, 7), (21, 8), (53, 1), (53, 2), (57, 0), (57, 5), (57, 7), (57, 8), (63, 0), (63, 5), (63, 7), (63, 8), (69, 0), (69, 5), (69, 7), (69, 8), (75, 0), (75, 5), (75, 7), (75, 8), (81, 0), (81, 5), (81, 7), (81, 8), (87, 0), (87, 5), (87, 7), (87, 8), (93, 0), (93, 5), (93, 7), (93, 8), (99, 0), (99, 5), (99, 7), (99, 8), (105, 0), (105, 5), (105, 7), (105, 8), (111, 0), (111, 5), (111, 7), (111, 8), (117, 0), (117, 5), (117, 7), (117, 8), (123, 0), (123, 5), (123, 7), (123, 8), (129, 0), (129, 5), (129, 7), (129, 8), (135, 0), (135, 5), (135, 7), (135, 8), (141, 0), (141, 5), (141, 7), (141, 8), (147, 0), (147, 5), (147, 7), (147, 8)], [4, 5, 6, 21, 23, 25, 53, 57, 58, 59, 60, 61, 62, 63, 64, 65, 66, 67, 68, 69, 70, 71, 72, 73, 74, 75, 76, 77, 78, 79, 80, 81, 82, 83, 84, 85, 86, 87, 88, 89, 90, 91, 92, 93, 94, 95, 96, 97, 98, 99, 100, 101, 102, 103, 104, 105, 106, 107, 108, 109, 110, 111, 112, 113, 114, 115, 116, 117, 118, 119, 120, 121, 122, 123, 124, 125, 126, 127, 128, 129, 130, 131, 132, 133, 134, 135, 136, 137, 138, 139, 140, 141, 142, 143, 144, 145, 146, 147, 148, 149, 150, 151, 152], [23, 25, 58, 59, 60, 61, 62, 64, 65, 66, 67, 68, 70, 71, 72, 73, 74, 76, 77, 78, 79, 80, 82, 83, 84, 85, 86, 88, 89, 90, 91, 92, 94, 95, 96, 97, 98, 100, 101, 102, 103, 104, 106, 107, 108, 109, 110, 112, 113, 114, 115, 116, 118, 119, 120, 121, 122, 124, 125, 126, 127, 128, 130, 131, 132, 133, 134, 136, 137, 138, 139, 140, 142, 143, 144, 145, 146, 148, 149, 150, 151, 152])
theorem ct_131n (G0 : pj_G) (hI : pj_Inv G0) (n : Int32) : pj_Y 5 131 [.ref 1, .int n] G0 (fun v G' => ∃ y : Int32, v = some (.int y) ∧ pj_Inv G' ∧ pj_kpt kc_131n G0 G' ∧ ((-2147483648 : Int) ≤ y.toInt ∧ y.toInt ≤ 2147483647) ∧ (mr_PC G0 G')) := by
  have c0_ : ((Int8.ofInt 99).toInt32).toInt = 99 := by decide
  have c1_ : (Int32.ofInt (-1)).toInt = -1 := by decide
  have c2_ : (Int32.ofInt 1).toInt = 1 := by decide
  refine pj_Y_X (M := pj_m131) rfl rfl (Nat.le_of_ble_eq_true rfl) ?_
  have hK : pj_kpt kc_131n G0 G0 := pj_kpt_r _ _
  show pj_X _ _ G0 0 [(0, .ref 1), (1, .int n)] [] _
  refine pj_X_of (fun r h => pj_R_to (G0, 1, [(0, .ref 1), (1, .int n)], [.int n], 0, 0) 1 2 (fun _ => rfl) h) ?_
  cases b1 : pj_c1 .lt n 0 with
  | true =>
    have ub1 := pj_u0_ltT b1
    refine pj_X_of (fun r h => pj_R_ifT 10 rfl rfl b1 h) ?_
    refine pj_X_of (fun r h => pj_R_to (G0, 11, [(0, .ref 1), (1, .int n)], [.int (Int32.ofInt (-1))], 0, 0) 11 2 (fun _ => rfl) h) ?_
    exact pj_X_rt rfl rfl ⟨_, rfl, hI, hK, pj_i32 _, mr_PC_r _⟩
  | false =>
    have ub1 := pj_u0_ltF b1
    refine pj_X_of (fun r h => pj_R_ifF rfl b1 h) ?_
    refine pj_X_of (fun r h => pj_R_to (G0, 7, [(0, .ref 1), (1, .int n)], [.int ((Int8.ofInt 99).toInt32), .int n], 0, 0) 7 3 (fun _ => rfl) h) ?_
    cases b2 : pj_c1 .le n ((Int8.ofInt 99).toInt32) with
    | true =>
      have ub2 := pj_u_leT b2
      refine pj_X_of (fun r h => pj_R_icT 12 rfl rfl b2 h) ?_
      refine pj_X_of (fun r h => pj_R_to (G0, 13, [(0, .ref 1), (1, .int n)], [.ref 1], 0, 0) 13 2 (fun _ => rfl) h) ?_
      refine pj_X_of (fun r h => pj_T_gr hI rfl rfl rfl h) ?_
      refine pj_X_of (fun r h => pj_R_to (G0, 17, [(0, .ref 1), (1, .int n)], [.ref 1, .ref 53], 0, 0) 17 2 (fun _ => rfl) h) ?_
      refine pj_X_of (fun r h => pj_T_gr hI rfl rfl rfl h) ?_
      refine pj_X_of (fun r h => pj_T_gr hI rfl rfl rfl h) ?_
      refine pj_X_ca (vs := [.ref 53, .ref 21]) rfl (fun _ => rfl) ⟨Nat.le_of_ble_eq_true rfl, Nat.le_of_ble_eq_true rfl, pj_T_rcv hI rfl⟩ ⟨rfl, rfl⟩ (pj_Y_up (by decide) (ct_33n G0 hI)) ?_
      rintro _ G4 ⟨rfl, iG4, jG4, eG4⟩
      have kG4 : pj_kpt kc_131n G0 G4 := pj_kpt_t hK (pj_kpt_s jG4 rfl)
      show pj_X _ _ G4 26 [(0, .ref 1), (1, .int n)] [] _
      refine pj_X_of (fun r h => pj_R_to (G4, 27, [(0, .ref 1), (1, .int n)], [.ref 1], 0, 0) 27 2 (fun _ => rfl) h) ?_
      refine pj_X_of (fun r h => pj_T_gr iG4 rfl rfl rfl h) ?_
      refine pj_X_of (fun r h => pj_R_to (G4, 31, [(0, .ref 1), (1, .int n)], [.int n, .ref 6], 0, 0) 31 2 (fun _ => rfl) h) ?_
      refine pj_X_ca (vs := [.ref 6, .int n]) rfl (fun _ => rfl) ⟨Nat.le_of_ble_eq_true rfl, Nat.le_of_ble_eq_true rfl, pj_T_rcv iG4 rfl⟩ ⟨rfl, rfl⟩ (pj_Y_up (by decide) (ct_105x G4 iG4 n ⟨by omega, by omega⟩)) ?_
      rintro _ G6 ⟨rfl, iG6, jG6, fy5⟩
      have kG6 : pj_kpt kc_131n G0 G6 := pj_kpt_t kG4 (pj_kpt_s jG6 rfl)
      show pj_X _ _ G6 34 [(0, .ref 1), (1, .int n)] [] _
      refine pj_X_of (fun r h => pj_R_to (G6, 35, [(0, .ref 1), (1, .int n)], [.ref 1], 0, 0) 35 2 (fun _ => rfl) h) ?_
      refine pj_X_of (fun r h => pj_T_gr iG6 rfl rfl rfl h) ?_
      refine pj_X_of (fun r h => pj_R_to (G6, 39, [(0, .ref 1), (1, .int n)], [.int (Int32.ofInt 1), .ref 53], 0, 0) 39 2 (fun _ => rfl) h) ?_
      refine pj_X_ca (vs := [.ref 53, .int (Int32.ofInt 1)]) rfl (fun _ => rfl) ⟨Nat.le_of_ble_eq_true rfl, Nat.le_of_ble_eq_true rfl, pj_T_rcv iG6 rfl⟩ ⟨rfl, rfl⟩ (pj_Y_up (by decide) (ct_34n G6 iG6 (Int32.ofInt 1) ⟨by omega, by omega⟩)) ?_
      rintro _ G8 ⟨rfl, iG8, jG8, eG8⟩
      have kG8 : pj_kpt kc_131n G0 G8 := pj_kpt_t kG6 (pj_kpt_s jG8 rfl)
      show pj_X _ _ G8 42 [(0, .ref 1), (1, .int n)] [] _
      refine pj_X_of (fun r h => pj_R_to (G8, 43, [(0, .ref 1), (1, .int n)], [.ref 1], 0, 0) 43 2 (fun _ => rfl) h) ?_
      refine pj_X_of (fun r h => pj_T_gr iG8 rfl rfl rfl h) ?_
      refine pj_X_of (fun r h => pj_R_to (G8, 47, [(0, .ref 1), (1, .int n)], [.ref 1, .ref 4], 0, 0) 47 2 (fun _ => rfl) h) ?_
      refine pj_X_of (fun r h => pj_T_gr iG8 rfl rfl rfl h) ?_
      refine pj_X_of (fun r h => pj_T_gi iG8 rfl rfl h) ?_
      show pj_X _ _ G8 53 [(0, .ref 1), (1, .int n)] [.int (pj_fi G8 6 7), .ref 4] _
      obtain ⟨y9, hy9⟩ : ∃ z : Int32, z = pj_fi G8 6 7 := ⟨_, rfl⟩
      refine pj_X_eqi hy9.symm ?_
      have ey9 : (pj_fi G8 6 7).toInt = y9.toInt := by rw [hy9]
      refine pj_X_of (fun r h => pj_R_to (G8, 55, [(0, .ref 1), (1, .int n)], [.ref 1, .long y9.toInt64, .ref 4], 0, 0) 55 3 (fun _ => rfl) h) ?_
      refine pj_X_of (fun r h => pj_T_gr iG8 rfl rfl rfl h) ?_
      refine pj_X_of (fun r h => pj_T_gi iG8 rfl rfl h) ?_
      show pj_X _ _ G8 61 [(0, .ref 1), (1, .int n)] [.int (pj_fi G8 6 8), .long y9.toInt64, .ref 4] _
      obtain ⟨y10, hy10⟩ : ∃ z : Int32, z = pj_fi G8 6 8 := ⟨_, rfl⟩
      refine pj_X_eqi hy10.symm ?_
      have ey10 : (pj_fi G8 6 8).toInt = y10.toInt := by rw [hy10]
      refine pj_X_of (fun r h => pj_R_to (G8, 62, [(0, .ref 1), (1, .int n)], [.long y10.toInt64, .long y9.toInt64, .ref 4], 0, 0) 62 2 (fun _ => rfl) h) ?_
      have lc11 : (y9.toInt64).toInt = y9.toInt := Int32.toInt_toInt64 _
      have lc12 : (y10.toInt64).toInt = y10.toInt := Int32.toInt_toInt64 _
      refine pj_X_ca (vs := [.ref 4, .long y9.toInt64, .long y10.toInt64]) rfl (fun _ => rfl) ⟨Nat.le_of_ble_eq_true rfl, Nat.le_of_ble_eq_true rfl, pj_T_rcv iG8 rfl⟩ ⟨rfl, rfl⟩ (pj_Y_up (by decide) (ct_56x G8 iG8 y9.toInt64 y10.toInt64)) ?_
      rintro _ G14 ⟨rfl, iG14, jG14, fy13⟩
      have kG14 : pj_kpt kc_131n G0 G14 := pj_kpt_t kG8 (pj_kpt_s jG14 rfl)
      show pj_X _ _ G14 65 [(0, .ref 1), (1, .int n)] [] _
      refine pj_X_of (fun r h => pj_R_to (G14, 66, [(0, .ref 1), (1, .int n)], [.ref 1], 0, 0) 66 2 (fun _ => rfl) h) ?_
      refine pj_X_of (fun r h => pj_T_gr iG14 rfl rfl rfl h) ?_
      refine pj_X_of (fun r h => pj_T_gr iG14 rfl rfl rfl h) ?_
      refine pj_X_of (fun r h => pj_T_gi iG14 rfl rfl h) ?_
      show pj_X _ _ G14 75 [(0, .ref 1), (1, .int n)] [.int (pj_fi G14 21 7)] _
      obtain ⟨y15, hy15⟩ : ∃ z : Int32, z = pj_fi G14 21 7 := ⟨_, rfl⟩
      refine pj_X_eqi hy15.symm ?_
      have ey15 : (pj_fi G14 21 7).toInt = y15.toInt := by rw [hy15]
      exact pj_X_rt rfl rfl ⟨_, rfl, iG14, kG14, pj_i32 _, mr_PC_t (mr_deed hI eG4 jG4 rfl jG6 rfl jG8 rfl (by omega)) (mr_PC_k jG14 rfl)⟩
    | false =>
      have ub2 := pj_u_leF b2
      refine pj_X_of (fun r h => pj_R_icF rfl b2 h) ?_
      refine pj_X_of (fun r h => pj_R_to (G0, 11, [(0, .ref 1), (1, .int n)], [.int (Int32.ofInt (-1))], 0, 0) 11 2 (fun _ => rfl) h) ?_
      exact pj_X_rt rfl rfl ⟨_, rfl, hI, hK, pj_i32 _, mr_PC_r _⟩
def kc_133n : pj_KT := ([(21, 0), (21, 5), (21, 7), (21, 8), (53, 1), (53, 2)], [21, 22, 23, 24, 25, 26, 53], [22, 23, 24, 25, 26])
theorem ct_133n (G0 : pj_G) (hI : pj_Inv G0) : pj_Y 2 133 [.ref 1] G0 (fun v G' => ∃ y : Int32, v = some (.int y) ∧ pj_Inv G' ∧ pj_kpt kc_133n G0 G' ∧ ((-2147483648 : Int) ≤ y.toInt ∧ y.toInt ≤ 2147483647) ∧ (mr_PC G0 G')) := by
  have c0_ : (Int32.ofInt (-1)).toInt = -1 := by decide
  refine pj_Y_X (M := pj_m133) rfl rfl (Nat.le_of_ble_eq_true rfl) ?_
  have hK : pj_kpt kc_133n G0 G0 := pj_kpt_r _ _
  show pj_X _ _ G0 0 [(0, .ref 1)] [] _
  refine pj_X_of (fun r h => pj_R_to (G0, 1, [(0, .ref 1)], [.ref 1], 0, 0) 1 2 (fun _ => rfl) h) ?_
  refine pj_X_of (fun r h => pj_T_gr hI rfl rfl rfl h) ?_
  refine pj_X_of (fun r h => pj_T_gi hI rfl rfl h) ?_
  show pj_X _ _ G0 7 [(0, .ref 1)] [.int (pj_fi G0 53 2)] _
  obtain ⟨y1, hy1⟩ : ∃ z : Int32, z = pj_fi G0 53 2 := ⟨_, rfl⟩
  refine pj_X_eqi hy1.symm ?_
  have ey1 : (pj_fi G0 53 2).toInt = y1.toInt := by rw [hy1]
  have ry1 : (0 : Int) ≤ y1.toInt ∧ y1.toInt ≤ 15 := by rw [hy1]; exact hI.2.1 53 2 (0, 15) rfl
  cases b2 : pj_c1 .ne y1 0 with
  | true =>
    have ub2 := pj_u0_neT b2
    refine pj_X_of (fun r h => pj_R_ifT 12 rfl rfl b2 h) ?_
    refine pj_X_of (fun r h => pj_R_to (G0, 13, [(0, .ref 1)], [.ref 1], 0, 0) 13 2 (fun _ => rfl) h) ?_
    refine pj_X_of (fun r h => pj_T_gr hI rfl rfl rfl h) ?_
    refine pj_X_of (fun r h => pj_T_gr hI rfl rfl rfl h) ?_
    refine pj_X_of (fun r h => pj_R_to (G0, 20, [(0, .ref 1)], [.ref 1, .ref 21], 0, 0) 20 2 (fun _ => rfl) h) ?_
    refine pj_X_of (fun r h => pj_T_gr hI rfl rfl rfl h) ?_
    refine pj_X_ca (vs := [.ref 53]) rfl (fun _ => rfl) ⟨Nat.le_of_ble_eq_true rfl, Nat.le_of_ble_eq_true rfl, pj_T_rcv hI rfl⟩ ⟨rfl, rfl⟩ (pj_Y_up (by decide) (ct_35n G0 hI (by omega))) ?_
    rintro _ G4 ⟨y3, hy3, rfl, iG4, jG4, eG4⟩
    have kG4 : pj_kpt kc_133n G0 G4 := pj_kpt_t hK (pj_kpt_s jG4 rfl)
    rcases (show y3 = 0 ∨ y3 = 1 ∨ y3 = 2 ∨ y3 = 3 ∨ y3 = 4 ∨ y3 = 5 ∨ y3 = 6 ∨ y3 = 7 ∨ y3 = 8 ∨ y3 = 9 ∨ y3 = 10 ∨ y3 = 11 ∨ y3 = 12 ∨ y3 = 13 ∨ y3 = 14 ∨ y3 = 15 by omega) with rfl | rfl | rfl | rfl | rfl | rfl | rfl | rfl | rfl | rfl | rfl | rfl | rfl | rfl | rfl | rfl
    · show pj_X _ _ G4 26 [(0, .ref 1)] [.ref 57, .ref 21] _
      refine pj_X_ca (vs := [.ref 21, .ref 57]) rfl (fun _ => rfl) ⟨Nat.le_of_ble_eq_true rfl, Nat.le_of_ble_eq_true rfl, pj_T_rcv iG4 rfl⟩ ⟨rfl, rfl⟩ (pj_Y_up (by decide) (ct_68_21_57x G4 iG4)) ?_
      rintro _ G6 ⟨rfl, iG6, jG6, eG6, fy5⟩
      replace eG6 := eG6 _ rfl
      have kG6 : pj_kpt kc_133n G0 G6 := pj_kpt_t kG4 (pj_kpt_s jG6 rfl)
      show pj_X _ _ G6 29 [(0, .ref 1)] [] _
      refine pj_X_of (fun r h => pj_R_to (G6, 30, [(0, .ref 1)], [.ref 1], 0, 0) 30 2 (fun _ => rfl) h) ?_
      refine pj_X_of (fun r h => pj_T_gr iG6 rfl rfl rfl h) ?_
      refine pj_X_of (fun r h => pj_T_gi iG6 rfl rfl h) ?_
      show pj_X _ _ G6 36 [(0, .ref 1)] [.int (pj_fi G6 53 2)] _
      obtain ⟨y7, hy7⟩ : ∃ z : Int32, z = pj_fi G6 53 2 := ⟨_, rfl⟩
      refine pj_X_eqi hy7.symm ?_
      have ey7 : (pj_fi G6 53 2).toInt = y7.toInt := by rw [hy7]
      have ry7 : (0 : Int) ≤ y7.toInt ∧ y7.toInt ≤ 15 := by rw [hy7]; exact iG6.2.1 53 2 (0, 15) rfl
      exact pj_X_rt rfl rfl ⟨_, rfl, iG6, kG6, pj_i32 _, mr_undo hI (by omega) 0 (by decide) jG4 rfl eG4 jG6 rfl eG6⟩
    · show pj_X _ _ G4 26 [(0, .ref 1)] [.ref 63, .ref 21] _
      refine pj_X_ca (vs := [.ref 21, .ref 63]) rfl (fun _ => rfl) ⟨Nat.le_of_ble_eq_true rfl, Nat.le_of_ble_eq_true rfl, pj_T_rcv iG4 rfl⟩ ⟨rfl, rfl⟩ (pj_Y_up (by decide) (ct_68_21_63x G4 iG4)) ?_
      rintro _ G9 ⟨rfl, iG9, jG9, eG9, fy8⟩
      replace eG9 := eG9 _ rfl
      have kG9 : pj_kpt kc_133n G0 G9 := pj_kpt_t kG4 (pj_kpt_s jG9 rfl)
      show pj_X _ _ G9 29 [(0, .ref 1)] [] _
      refine pj_X_of (fun r h => pj_R_to (G9, 30, [(0, .ref 1)], [.ref 1], 0, 0) 30 2 (fun _ => rfl) h) ?_
      refine pj_X_of (fun r h => pj_T_gr iG9 rfl rfl rfl h) ?_
      refine pj_X_of (fun r h => pj_T_gi iG9 rfl rfl h) ?_
      show pj_X _ _ G9 36 [(0, .ref 1)] [.int (pj_fi G9 53 2)] _
      obtain ⟨y10, hy10⟩ : ∃ z : Int32, z = pj_fi G9 53 2 := ⟨_, rfl⟩
      refine pj_X_eqi hy10.symm ?_
      have ey10 : (pj_fi G9 53 2).toInt = y10.toInt := by rw [hy10]
      have ry10 : (0 : Int) ≤ y10.toInt ∧ y10.toInt ≤ 15 := by rw [hy10]; exact iG9.2.1 53 2 (0, 15) rfl
      exact pj_X_rt rfl rfl ⟨_, rfl, iG9, kG9, pj_i32 _, mr_undo hI (by omega) 1 (by decide) jG4 rfl eG4 jG9 rfl eG9⟩
    · show pj_X _ _ G4 26 [(0, .ref 1)] [.ref 69, .ref 21] _
      refine pj_X_ca (vs := [.ref 21, .ref 69]) rfl (fun _ => rfl) ⟨Nat.le_of_ble_eq_true rfl, Nat.le_of_ble_eq_true rfl, pj_T_rcv iG4 rfl⟩ ⟨rfl, rfl⟩ (pj_Y_up (by decide) (ct_68_21_69x G4 iG4)) ?_
      rintro _ G12 ⟨rfl, iG12, jG12, eG12, fy11⟩
      replace eG12 := eG12 _ rfl
      have kG12 : pj_kpt kc_133n G0 G12 := pj_kpt_t kG4 (pj_kpt_s jG12 rfl)
      show pj_X _ _ G12 29 [(0, .ref 1)] [] _
      refine pj_X_of (fun r h => pj_R_to (G12, 30, [(0, .ref 1)], [.ref 1], 0, 0) 30 2 (fun _ => rfl) h) ?_
      refine pj_X_of (fun r h => pj_T_gr iG12 rfl rfl rfl h) ?_
      refine pj_X_of (fun r h => pj_T_gi iG12 rfl rfl h) ?_
      show pj_X _ _ G12 36 [(0, .ref 1)] [.int (pj_fi G12 53 2)] _
      obtain ⟨y13, hy13⟩ : ∃ z : Int32, z = pj_fi G12 53 2 := ⟨_, rfl⟩
      refine pj_X_eqi hy13.symm ?_
      have ey13 : (pj_fi G12 53 2).toInt = y13.toInt := by rw [hy13]
      have ry13 : (0 : Int) ≤ y13.toInt ∧ y13.toInt ≤ 15 := by rw [hy13]; exact iG12.2.1 53 2 (0, 15) rfl
      exact pj_X_rt rfl rfl ⟨_, rfl, iG12, kG12, pj_i32 _, mr_undo hI (by omega) 2 (by decide) jG4 rfl eG4 jG12 rfl eG12⟩
    · show pj_X _ _ G4 26 [(0, .ref 1)] [.ref 75, .ref 21] _
      refine pj_X_ca (vs := [.ref 21, .ref 75]) rfl (fun _ => rfl) ⟨Nat.le_of_ble_eq_true rfl, Nat.le_of_ble_eq_true rfl, pj_T_rcv iG4 rfl⟩ ⟨rfl, rfl⟩ (pj_Y_up (by decide) (ct_68_21_75x G4 iG4)) ?_
      rintro _ G15 ⟨rfl, iG15, jG15, eG15, fy14⟩
      replace eG15 := eG15 _ rfl
      have kG15 : pj_kpt kc_133n G0 G15 := pj_kpt_t kG4 (pj_kpt_s jG15 rfl)
      show pj_X _ _ G15 29 [(0, .ref 1)] [] _
      refine pj_X_of (fun r h => pj_R_to (G15, 30, [(0, .ref 1)], [.ref 1], 0, 0) 30 2 (fun _ => rfl) h) ?_
      refine pj_X_of (fun r h => pj_T_gr iG15 rfl rfl rfl h) ?_
      refine pj_X_of (fun r h => pj_T_gi iG15 rfl rfl h) ?_
      show pj_X _ _ G15 36 [(0, .ref 1)] [.int (pj_fi G15 53 2)] _
      obtain ⟨y16, hy16⟩ : ∃ z : Int32, z = pj_fi G15 53 2 := ⟨_, rfl⟩
      refine pj_X_eqi hy16.symm ?_
      have ey16 : (pj_fi G15 53 2).toInt = y16.toInt := by rw [hy16]
      have ry16 : (0 : Int) ≤ y16.toInt ∧ y16.toInt ≤ 15 := by rw [hy16]; exact iG15.2.1 53 2 (0, 15) rfl
      exact pj_X_rt rfl rfl ⟨_, rfl, iG15, kG15, pj_i32 _, mr_undo hI (by omega) 3 (by decide) jG4 rfl eG4 jG15 rfl eG15⟩
    · show pj_X _ _ G4 26 [(0, .ref 1)] [.ref 81, .ref 21] _
      refine pj_X_ca (vs := [.ref 21, .ref 81]) rfl (fun _ => rfl) ⟨Nat.le_of_ble_eq_true rfl, Nat.le_of_ble_eq_true rfl, pj_T_rcv iG4 rfl⟩ ⟨rfl, rfl⟩ (pj_Y_up (by decide) (ct_68_21_81x G4 iG4)) ?_
      rintro _ G18 ⟨rfl, iG18, jG18, eG18, fy17⟩
      replace eG18 := eG18 _ rfl
      have kG18 : pj_kpt kc_133n G0 G18 := pj_kpt_t kG4 (pj_kpt_s jG18 rfl)
      show pj_X _ _ G18 29 [(0, .ref 1)] [] _
      refine pj_X_of (fun r h => pj_R_to (G18, 30, [(0, .ref 1)], [.ref 1], 0, 0) 30 2 (fun _ => rfl) h) ?_
      refine pj_X_of (fun r h => pj_T_gr iG18 rfl rfl rfl h) ?_
      refine pj_X_of (fun r h => pj_T_gi iG18 rfl rfl h) ?_
      show pj_X _ _ G18 36 [(0, .ref 1)] [.int (pj_fi G18 53 2)] _
      obtain ⟨y19, hy19⟩ : ∃ z : Int32, z = pj_fi G18 53 2 := ⟨_, rfl⟩
      refine pj_X_eqi hy19.symm ?_
      have ey19 : (pj_fi G18 53 2).toInt = y19.toInt := by rw [hy19]
      have ry19 : (0 : Int) ≤ y19.toInt ∧ y19.toInt ≤ 15 := by rw [hy19]; exact iG18.2.1 53 2 (0, 15) rfl
      exact pj_X_rt rfl rfl ⟨_, rfl, iG18, kG18, pj_i32 _, mr_undo hI (by omega) 4 (by decide) jG4 rfl eG4 jG18 rfl eG18⟩
    · show pj_X _ _ G4 26 [(0, .ref 1)] [.ref 87, .ref 21] _
      refine pj_X_ca (vs := [.ref 21, .ref 87]) rfl (fun _ => rfl) ⟨Nat.le_of_ble_eq_true rfl, Nat.le_of_ble_eq_true rfl, pj_T_rcv iG4 rfl⟩ ⟨rfl, rfl⟩ (pj_Y_up (by decide) (ct_68_21_87x G4 iG4)) ?_
      rintro _ G21 ⟨rfl, iG21, jG21, eG21, fy20⟩
      replace eG21 := eG21 _ rfl
      have kG21 : pj_kpt kc_133n G0 G21 := pj_kpt_t kG4 (pj_kpt_s jG21 rfl)
      show pj_X _ _ G21 29 [(0, .ref 1)] [] _
      refine pj_X_of (fun r h => pj_R_to (G21, 30, [(0, .ref 1)], [.ref 1], 0, 0) 30 2 (fun _ => rfl) h) ?_
      refine pj_X_of (fun r h => pj_T_gr iG21 rfl rfl rfl h) ?_
      refine pj_X_of (fun r h => pj_T_gi iG21 rfl rfl h) ?_
      show pj_X _ _ G21 36 [(0, .ref 1)] [.int (pj_fi G21 53 2)] _
      obtain ⟨y22, hy22⟩ : ∃ z : Int32, z = pj_fi G21 53 2 := ⟨_, rfl⟩
      refine pj_X_eqi hy22.symm ?_
      have ey22 : (pj_fi G21 53 2).toInt = y22.toInt := by rw [hy22]
      have ry22 : (0 : Int) ≤ y22.toInt ∧ y22.toInt ≤ 15 := by rw [hy22]; exact iG21.2.1 53 2 (0, 15) rfl
      exact pj_X_rt rfl rfl ⟨_, rfl, iG21, kG21, pj_i32 _, mr_undo hI (by omega) 5 (by decide) jG4 rfl eG4 jG21 rfl eG21⟩
    · show pj_X _ _ G4 26 [(0, .ref 1)] [.ref 93, .ref 21] _
      refine pj_X_ca (vs := [.ref 21, .ref 93]) rfl (fun _ => rfl) ⟨Nat.le_of_ble_eq_true rfl, Nat.le_of_ble_eq_true rfl, pj_T_rcv iG4 rfl⟩ ⟨rfl, rfl⟩ (pj_Y_up (by decide) (ct_68_21_93x G4 iG4)) ?_
      rintro _ G24 ⟨rfl, iG24, jG24, eG24, fy23⟩
      replace eG24 := eG24 _ rfl
      have kG24 : pj_kpt kc_133n G0 G24 := pj_kpt_t kG4 (pj_kpt_s jG24 rfl)
      show pj_X _ _ G24 29 [(0, .ref 1)] [] _
      refine pj_X_of (fun r h => pj_R_to (G24, 30, [(0, .ref 1)], [.ref 1], 0, 0) 30 2 (fun _ => rfl) h) ?_
      refine pj_X_of (fun r h => pj_T_gr iG24 rfl rfl rfl h) ?_
      refine pj_X_of (fun r h => pj_T_gi iG24 rfl rfl h) ?_
      show pj_X _ _ G24 36 [(0, .ref 1)] [.int (pj_fi G24 53 2)] _
      obtain ⟨y25, hy25⟩ : ∃ z : Int32, z = pj_fi G24 53 2 := ⟨_, rfl⟩
      refine pj_X_eqi hy25.symm ?_
      have ey25 : (pj_fi G24 53 2).toInt = y25.toInt := by rw [hy25]
      have ry25 : (0 : Int) ≤ y25.toInt ∧ y25.toInt ≤ 15 := by rw [hy25]; exact iG24.2.1 53 2 (0, 15) rfl
      exact pj_X_rt rfl rfl ⟨_, rfl, iG24, kG24, pj_i32 _, mr_undo hI (by omega) 6 (by decide) jG4 rfl eG4 jG24 rfl eG24⟩
    · show pj_X _ _ G4 26 [(0, .ref 1)] [.ref 99, .ref 21] _
      refine pj_X_ca (vs := [.ref 21, .ref 99]) rfl (fun _ => rfl) ⟨Nat.le_of_ble_eq_true rfl, Nat.le_of_ble_eq_true rfl, pj_T_rcv iG4 rfl⟩ ⟨rfl, rfl⟩ (pj_Y_up (by decide) (ct_68_21_99x G4 iG4)) ?_
      rintro _ G27 ⟨rfl, iG27, jG27, eG27, fy26⟩
      replace eG27 := eG27 _ rfl
      have kG27 : pj_kpt kc_133n G0 G27 := pj_kpt_t kG4 (pj_kpt_s jG27 rfl)
      show pj_X _ _ G27 29 [(0, .ref 1)] [] _
      refine pj_X_of (fun r h => pj_R_to (G27, 30, [(0, .ref 1)], [.ref 1], 0, 0) 30 2 (fun _ => rfl) h) ?_
      refine pj_X_of (fun r h => pj_T_gr iG27 rfl rfl rfl h) ?_
      refine pj_X_of (fun r h => pj_T_gi iG27 rfl rfl h) ?_
      show pj_X _ _ G27 36 [(0, .ref 1)] [.int (pj_fi G27 53 2)] _
      obtain ⟨y28, hy28⟩ : ∃ z : Int32, z = pj_fi G27 53 2 := ⟨_, rfl⟩
      refine pj_X_eqi hy28.symm ?_
      have ey28 : (pj_fi G27 53 2).toInt = y28.toInt := by rw [hy28]
      have ry28 : (0 : Int) ≤ y28.toInt ∧ y28.toInt ≤ 15 := by rw [hy28]; exact iG27.2.1 53 2 (0, 15) rfl
      exact pj_X_rt rfl rfl ⟨_, rfl, iG27, kG27, pj_i32 _, mr_undo hI (by omega) 7 (by decide) jG4 rfl eG4 jG27 rfl eG27⟩
    · show pj_X _ _ G4 26 [(0, .ref 1)] [.ref 105, .ref 21] _
      refine pj_X_ca (vs := [.ref 21, .ref 105]) rfl (fun _ => rfl) ⟨Nat.le_of_ble_eq_true rfl, Nat.le_of_ble_eq_true rfl, pj_T_rcv iG4 rfl⟩ ⟨rfl, rfl⟩ (pj_Y_up (by decide) (ct_68_21_105x G4 iG4)) ?_
      rintro _ G30 ⟨rfl, iG30, jG30, eG30, fy29⟩
      replace eG30 := eG30 _ rfl
      have kG30 : pj_kpt kc_133n G0 G30 := pj_kpt_t kG4 (pj_kpt_s jG30 rfl)
      show pj_X _ _ G30 29 [(0, .ref 1)] [] _
      refine pj_X_of (fun r h => pj_R_to (G30, 30, [(0, .ref 1)], [.ref 1], 0, 0) 30 2 (fun _ => rfl) h) ?_
      refine pj_X_of (fun r h => pj_T_gr iG30 rfl rfl rfl h) ?_
      refine pj_X_of (fun r h => pj_T_gi iG30 rfl rfl h) ?_
      show pj_X _ _ G30 36 [(0, .ref 1)] [.int (pj_fi G30 53 2)] _
      obtain ⟨y31, hy31⟩ : ∃ z : Int32, z = pj_fi G30 53 2 := ⟨_, rfl⟩
      refine pj_X_eqi hy31.symm ?_
      have ey31 : (pj_fi G30 53 2).toInt = y31.toInt := by rw [hy31]
      have ry31 : (0 : Int) ≤ y31.toInt ∧ y31.toInt ≤ 15 := by rw [hy31]; exact iG30.2.1 53 2 (0, 15) rfl
      exact pj_X_rt rfl rfl ⟨_, rfl, iG30, kG30, pj_i32 _, mr_undo hI (by omega) 8 (by decide) jG4 rfl eG4 jG30 rfl eG30⟩
    · show pj_X _ _ G4 26 [(0, .ref 1)] [.ref 111, .ref 21] _
      refine pj_X_ca (vs := [.ref 21, .ref 111]) rfl (fun _ => rfl) ⟨Nat.le_of_ble_eq_true rfl, Nat.le_of_ble_eq_true rfl, pj_T_rcv iG4 rfl⟩ ⟨rfl, rfl⟩ (pj_Y_up (by decide) (ct_68_21_111x G4 iG4)) ?_
      rintro _ G33 ⟨rfl, iG33, jG33, eG33, fy32⟩
      replace eG33 := eG33 _ rfl
      have kG33 : pj_kpt kc_133n G0 G33 := pj_kpt_t kG4 (pj_kpt_s jG33 rfl)
      show pj_X _ _ G33 29 [(0, .ref 1)] [] _
      refine pj_X_of (fun r h => pj_R_to (G33, 30, [(0, .ref 1)], [.ref 1], 0, 0) 30 2 (fun _ => rfl) h) ?_
      refine pj_X_of (fun r h => pj_T_gr iG33 rfl rfl rfl h) ?_
      refine pj_X_of (fun r h => pj_T_gi iG33 rfl rfl h) ?_
      show pj_X _ _ G33 36 [(0, .ref 1)] [.int (pj_fi G33 53 2)] _
      obtain ⟨y34, hy34⟩ : ∃ z : Int32, z = pj_fi G33 53 2 := ⟨_, rfl⟩
      refine pj_X_eqi hy34.symm ?_
      have ey34 : (pj_fi G33 53 2).toInt = y34.toInt := by rw [hy34]
      have ry34 : (0 : Int) ≤ y34.toInt ∧ y34.toInt ≤ 15 := by rw [hy34]; exact iG33.2.1 53 2 (0, 15) rfl
      exact pj_X_rt rfl rfl ⟨_, rfl, iG33, kG33, pj_i32 _, mr_undo hI (by omega) 9 (by decide) jG4 rfl eG4 jG33 rfl eG33⟩
    · show pj_X _ _ G4 26 [(0, .ref 1)] [.ref 117, .ref 21] _
      refine pj_X_ca (vs := [.ref 21, .ref 117]) rfl (fun _ => rfl) ⟨Nat.le_of_ble_eq_true rfl, Nat.le_of_ble_eq_true rfl, pj_T_rcv iG4 rfl⟩ ⟨rfl, rfl⟩ (pj_Y_up (by decide) (ct_68_21_117x G4 iG4)) ?_
      rintro _ G36 ⟨rfl, iG36, jG36, eG36, fy35⟩
      replace eG36 := eG36 _ rfl
      have kG36 : pj_kpt kc_133n G0 G36 := pj_kpt_t kG4 (pj_kpt_s jG36 rfl)
      show pj_X _ _ G36 29 [(0, .ref 1)] [] _
      refine pj_X_of (fun r h => pj_R_to (G36, 30, [(0, .ref 1)], [.ref 1], 0, 0) 30 2 (fun _ => rfl) h) ?_
      refine pj_X_of (fun r h => pj_T_gr iG36 rfl rfl rfl h) ?_
      refine pj_X_of (fun r h => pj_T_gi iG36 rfl rfl h) ?_
      show pj_X _ _ G36 36 [(0, .ref 1)] [.int (pj_fi G36 53 2)] _
      obtain ⟨y37, hy37⟩ : ∃ z : Int32, z = pj_fi G36 53 2 := ⟨_, rfl⟩
      refine pj_X_eqi hy37.symm ?_
      have ey37 : (pj_fi G36 53 2).toInt = y37.toInt := by rw [hy37]
      have ry37 : (0 : Int) ≤ y37.toInt ∧ y37.toInt ≤ 15 := by rw [hy37]; exact iG36.2.1 53 2 (0, 15) rfl
      exact pj_X_rt rfl rfl ⟨_, rfl, iG36, kG36, pj_i32 _, mr_undo hI (by omega) 10 (by decide) jG4 rfl eG4 jG36 rfl eG36⟩
    · show pj_X _ _ G4 26 [(0, .ref 1)] [.ref 123, .ref 21] _
      refine pj_X_ca (vs := [.ref 21, .ref 123]) rfl (fun _ => rfl) ⟨Nat.le_of_ble_eq_true rfl, Nat.le_of_ble_eq_true rfl, pj_T_rcv iG4 rfl⟩ ⟨rfl, rfl⟩ (pj_Y_up (by decide) (ct_68_21_123x G4 iG4)) ?_
      rintro _ G39 ⟨rfl, iG39, jG39, eG39, fy38⟩
      replace eG39 := eG39 _ rfl
      have kG39 : pj_kpt kc_133n G0 G39 := pj_kpt_t kG4 (pj_kpt_s jG39 rfl)
      show pj_X _ _ G39 29 [(0, .ref 1)] [] _
      refine pj_X_of (fun r h => pj_R_to (G39, 30, [(0, .ref 1)], [.ref 1], 0, 0) 30 2 (fun _ => rfl) h) ?_
      refine pj_X_of (fun r h => pj_T_gr iG39 rfl rfl rfl h) ?_
      refine pj_X_of (fun r h => pj_T_gi iG39 rfl rfl h) ?_
      show pj_X _ _ G39 36 [(0, .ref 1)] [.int (pj_fi G39 53 2)] _
      obtain ⟨y40, hy40⟩ : ∃ z : Int32, z = pj_fi G39 53 2 := ⟨_, rfl⟩
      refine pj_X_eqi hy40.symm ?_
      have ey40 : (pj_fi G39 53 2).toInt = y40.toInt := by rw [hy40]
      have ry40 : (0 : Int) ≤ y40.toInt ∧ y40.toInt ≤ 15 := by rw [hy40]; exact iG39.2.1 53 2 (0, 15) rfl
      exact pj_X_rt rfl rfl ⟨_, rfl, iG39, kG39, pj_i32 _, mr_undo hI (by omega) 11 (by decide) jG4 rfl eG4 jG39 rfl eG39⟩
    · show pj_X _ _ G4 26 [(0, .ref 1)] [.ref 129, .ref 21] _
      refine pj_X_ca (vs := [.ref 21, .ref 129]) rfl (fun _ => rfl) ⟨Nat.le_of_ble_eq_true rfl, Nat.le_of_ble_eq_true rfl, pj_T_rcv iG4 rfl⟩ ⟨rfl, rfl⟩ (pj_Y_up (by decide) (ct_68_21_129x G4 iG4)) ?_
      rintro _ G42 ⟨rfl, iG42, jG42, eG42, fy41⟩
      replace eG42 := eG42 _ rfl
      have kG42 : pj_kpt kc_133n G0 G42 := pj_kpt_t kG4 (pj_kpt_s jG42 rfl)
      show pj_X _ _ G42 29 [(0, .ref 1)] [] _
      refine pj_X_of (fun r h => pj_R_to (G42, 30, [(0, .ref 1)], [.ref 1], 0, 0) 30 2 (fun _ => rfl) h) ?_
      refine pj_X_of (fun r h => pj_T_gr iG42 rfl rfl rfl h) ?_
      refine pj_X_of (fun r h => pj_T_gi iG42 rfl rfl h) ?_
      show pj_X _ _ G42 36 [(0, .ref 1)] [.int (pj_fi G42 53 2)] _
      obtain ⟨y43, hy43⟩ : ∃ z : Int32, z = pj_fi G42 53 2 := ⟨_, rfl⟩
      refine pj_X_eqi hy43.symm ?_
      have ey43 : (pj_fi G42 53 2).toInt = y43.toInt := by rw [hy43]
      have ry43 : (0 : Int) ≤ y43.toInt ∧ y43.toInt ≤ 15 := by rw [hy43]; exact iG42.2.1 53 2 (0, 15) rfl
      exact pj_X_rt rfl rfl ⟨_, rfl, iG42, kG42, pj_i32 _, mr_undo hI (by omega) 12 (by decide) jG4 rfl eG4 jG42 rfl eG42⟩
    · show pj_X _ _ G4 26 [(0, .ref 1)] [.ref 135, .ref 21] _
      refine pj_X_ca (vs := [.ref 21, .ref 135]) rfl (fun _ => rfl) ⟨Nat.le_of_ble_eq_true rfl, Nat.le_of_ble_eq_true rfl, pj_T_rcv iG4 rfl⟩ ⟨rfl, rfl⟩ (pj_Y_up (by decide) (ct_68_21_135x G4 iG4)) ?_
      rintro _ G45 ⟨rfl, iG45, jG45, eG45, fy44⟩
      replace eG45 := eG45 _ rfl
      have kG45 : pj_kpt kc_133n G0 G45 := pj_kpt_t kG4 (pj_kpt_s jG45 rfl)
      show pj_X _ _ G45 29 [(0, .ref 1)] [] _
      refine pj_X_of (fun r h => pj_R_to (G45, 30, [(0, .ref 1)], [.ref 1], 0, 0) 30 2 (fun _ => rfl) h) ?_
      refine pj_X_of (fun r h => pj_T_gr iG45 rfl rfl rfl h) ?_
      refine pj_X_of (fun r h => pj_T_gi iG45 rfl rfl h) ?_
      show pj_X _ _ G45 36 [(0, .ref 1)] [.int (pj_fi G45 53 2)] _
      obtain ⟨y46, hy46⟩ : ∃ z : Int32, z = pj_fi G45 53 2 := ⟨_, rfl⟩
      refine pj_X_eqi hy46.symm ?_
      have ey46 : (pj_fi G45 53 2).toInt = y46.toInt := by rw [hy46]
      have ry46 : (0 : Int) ≤ y46.toInt ∧ y46.toInt ≤ 15 := by rw [hy46]; exact iG45.2.1 53 2 (0, 15) rfl
      exact pj_X_rt rfl rfl ⟨_, rfl, iG45, kG45, pj_i32 _, mr_undo hI (by omega) 13 (by decide) jG4 rfl eG4 jG45 rfl eG45⟩
    · show pj_X _ _ G4 26 [(0, .ref 1)] [.ref 141, .ref 21] _
      refine pj_X_ca (vs := [.ref 21, .ref 141]) rfl (fun _ => rfl) ⟨Nat.le_of_ble_eq_true rfl, Nat.le_of_ble_eq_true rfl, pj_T_rcv iG4 rfl⟩ ⟨rfl, rfl⟩ (pj_Y_up (by decide) (ct_68_21_141x G4 iG4)) ?_
      rintro _ G48 ⟨rfl, iG48, jG48, eG48, fy47⟩
      replace eG48 := eG48 _ rfl
      have kG48 : pj_kpt kc_133n G0 G48 := pj_kpt_t kG4 (pj_kpt_s jG48 rfl)
      show pj_X _ _ G48 29 [(0, .ref 1)] [] _
      refine pj_X_of (fun r h => pj_R_to (G48, 30, [(0, .ref 1)], [.ref 1], 0, 0) 30 2 (fun _ => rfl) h) ?_
      refine pj_X_of (fun r h => pj_T_gr iG48 rfl rfl rfl h) ?_
      refine pj_X_of (fun r h => pj_T_gi iG48 rfl rfl h) ?_
      show pj_X _ _ G48 36 [(0, .ref 1)] [.int (pj_fi G48 53 2)] _
      obtain ⟨y49, hy49⟩ : ∃ z : Int32, z = pj_fi G48 53 2 := ⟨_, rfl⟩
      refine pj_X_eqi hy49.symm ?_
      have ey49 : (pj_fi G48 53 2).toInt = y49.toInt := by rw [hy49]
      have ry49 : (0 : Int) ≤ y49.toInt ∧ y49.toInt ≤ 15 := by rw [hy49]; exact iG48.2.1 53 2 (0, 15) rfl
      exact pj_X_rt rfl rfl ⟨_, rfl, iG48, kG48, pj_i32 _, mr_undo hI (by omega) 14 (by decide) jG4 rfl eG4 jG48 rfl eG48⟩
    · show pj_X _ _ G4 26 [(0, .ref 1)] [.ref 147, .ref 21] _
      refine pj_X_ca (vs := [.ref 21, .ref 147]) rfl (fun _ => rfl) ⟨Nat.le_of_ble_eq_true rfl, Nat.le_of_ble_eq_true rfl, pj_T_rcv iG4 rfl⟩ ⟨rfl, rfl⟩ (pj_Y_up (by decide) (ct_68_21_147x G4 iG4)) ?_
      rintro _ G51 ⟨rfl, iG51, jG51, eG51, fy50⟩
      replace eG51 := eG51 _ rfl
      have kG51 : pj_kpt kc_133n G0 G51 := pj_kpt_t kG4 (pj_kpt_s jG51 rfl)
      show pj_X _ _ G51 29 [(0, .ref 1)] [] _
      refine pj_X_of (fun r h => pj_R_to (G51, 30, [(0, .ref 1)], [.ref 1], 0, 0) 30 2 (fun _ => rfl) h) ?_
      refine pj_X_of (fun r h => pj_T_gr iG51 rfl rfl rfl h) ?_
      refine pj_X_of (fun r h => pj_T_gi iG51 rfl rfl h) ?_
      show pj_X _ _ G51 36 [(0, .ref 1)] [.int (pj_fi G51 53 2)] _
      obtain ⟨y52, hy52⟩ : ∃ z : Int32, z = pj_fi G51 53 2 := ⟨_, rfl⟩
      refine pj_X_eqi hy52.symm ?_
      have ey52 : (pj_fi G51 53 2).toInt = y52.toInt := by rw [hy52]
      have ry52 : (0 : Int) ≤ y52.toInt ∧ y52.toInt ≤ 15 := by rw [hy52]; exact iG51.2.1 53 2 (0, 15) rfl
      exact pj_X_rt rfl rfl ⟨_, rfl, iG51, kG51, pj_i32 _, mr_undo hI (by omega) 15 (by decide) jG4 rfl eG4 jG51 rfl eG51⟩
  | false =>
    have ub2 := pj_u0_neF b2
    refine pj_X_of (fun r h => pj_R_ifF rfl b2 h) ?_
    refine pj_X_of (fun r h => pj_R_to (G0, 11, [(0, .ref 1)], [.int (Int32.ofInt (-1))], 0, 0) 11 2 (fun _ => rfl) h) ?_
    exact pj_X_rt rfl rfl ⟨_, rfl, hI, hK, pj_i32 _, mr_PC_r _⟩
def kc_281x : pj_KT := ([(171, 0)], [171, 200, 201, 202], [200, 201, 202])
noncomputable def L_282x (G0 : pj_G) (i : Int32) (fu : Nat) : Int32 → pj_G → Int32 × pj_G := Nat.rec (motive := fun _ => Int32 → pj_G → Int32 × pj_G) (fun _ G => (0, G)) (fun _ ih v2 G => cond (pj_c1 .ge v2 ((Int8.ofInt 32).toInt32)) ((Int32.ofInt 1, G)) (pj_nm (((Int8.ofInt 32).toInt32) * i) (fun z2 => pj_nm (z2 + v2) (fun z3 => pj_nm (pj_ai G 179 v2.toInt.toNat) (fun z4 => pj_nm (pj_wa G 202 z3.toInt.toNat z4) (fun G5 => pj_nm (v2 + Int32.ofInt 1) (fun z6 => ih z6 G5))))))) fu
theorem L_282x_s0 (G0 : pj_G) (i : Int32) (fu : Nat) (v2 : Int32) (G : pj_G) : L_282x G0 i (fu + 1) v2 G = cond (pj_c1 .ge v2 ((Int8.ofInt 32).toInt32)) ((Int32.ofInt 1, G)) (pj_nm (((Int8.ofInt 32).toInt32) * i) (fun z2 => pj_nm (z2 + v2) (fun z3 => pj_nm (pj_ai G 179 v2.toInt.toNat) (fun z4 => pj_nm (pj_wa G 202 z3.toInt.toNat z4) (fun G5 => pj_nm (v2 + Int32.ofInt 1) (fun z6 => L_282x G0 i fu z6 G5)))))) := rfl
noncomputable def F_282x (G0 : pj_G) (i : Int32) : Int32 × pj_G := pj_nm (pj_wv G0 171 0 (.int (Int32.ofInt 0))) (fun G7 => pj_nm (F_171x G7 i.toInt64 (Int64.ofNat 0) (Int64.ofInt 2)) (fun y11 => cond (pj_c1 .ne y11 0) (pj_nm (pj_wa G7 200 i.toInt.toNat (vp_nar .boolean (Int32.ofInt 1))) (fun G13 => pj_nm (pj_fi G13 171 7) (fun y14 => pj_nm (pj_wa G13 201 i.toInt.toNat y14) (fun G15 => L_282x G0 i 33 (Int32.ofInt 0) G15)))) ((Int32.ofInt 0, G7))))
theorem F_282x_e (G0 : pj_G) (i : Int32) : F_282x G0 i = pj_nm (pj_wv G0 171 0 (.int (Int32.ofInt 0))) (fun G7 => pj_nm (F_171x G7 i.toInt64 (Int64.ofNat 0) (Int64.ofInt 2)) (fun y11 => cond (pj_c1 .ne y11 0) (pj_nm (pj_wa G7 200 i.toInt.toNat (vp_nar .boolean (Int32.ofInt 1))) (fun G13 => pj_nm (pj_fi G13 171 7) (fun y14 => pj_nm (pj_wa G13 201 i.toInt.toNat y14) (fun G15 => L_282x G0 i 33 (Int32.ofInt 0) G15)))) ((Int32.ofInt 0, G7)))) := rfl
theorem lp_ct_281x (G0 : pj_G) (hI0 : pj_Inv G0) (i : Int32) : ∀ mn : Nat, (∀ (G : pj_G) (hI : pj_Inv G) (hK : pj_kpt kc_281x G0 G) (v2 : Int32), ((0 : Int) ≤ v2.toInt ∧ v2.toInt ≤ 32) → (0 ≤ i.toInt ∧ i.toInt ≤ 2) → 32 - v2.toInt < (mn : Int) → pj_X 1 pj_m281 G 38 [(0, .ref 171), (1, .int i), (2, .int v2)] [] (fun v' G' => ∃ y : Int32, v' = some (.int y) ∧ pj_Inv G' ∧ pj_kpt kc_281x G0 G' ∧ ((0 : Int) ≤ y.toInt ∧ y.toInt ≤ 1) ∧ ((y, G') = L_282x G0 i mn v2 G))) := by
  have c0_ : ((Int8.ofInt 32).toInt32).toInt = 32 := by decide
  have c1_ : (Int32.ofInt 0).toInt = 0 := by decide
  have c2_ : (Int32.ofInt 1).toInt = 1 := by decide
  intro mn
  induction mn with
  | zero =>
    intro G hI hK v2 rv2 x0_ hm
    exfalso
    omega
  | succ mn ih =>
    intro G hI hK v2 rv2 x0_ hm
    rw [L_282x_s0]
    refine pj_X_of (fun r h => pj_R_to (G, 41, [(0, .ref 171), (1, .int i), (2, .int v2)], [.int ((Int8.ofInt 32).toInt32), .int v2], 0, 0) 41 3 (fun _ => rfl) h) ?_
    cases b1 : pj_c1 .ge v2 ((Int8.ofInt 32).toInt32) with
    | true =>
      rw [pj_cT]
      have ub1 := pj_u_geT b1
      refine pj_X_of (fun r h => pj_R_icT 67 rfl rfl b1 h) ?_
      refine pj_X_of (fun r h => pj_R_to (G, 68, [(0, .ref 171), (1, .int i), (2, .int v2)], [.int (Int32.ofInt 1)], 0, 0) 68 2 (fun _ => rfl) h) ?_
      exact pj_X_rt rfl rfl ⟨_, rfl, hI, hK, ⟨by omega, by omega⟩, rfl⟩
    | false =>
      rw [pj_cF]
      have ub1 := pj_u_geF b1
      refine pj_X_of (fun r h => pj_R_icF rfl b1 h) ?_
      refine pj_X_of (fun r h => pj_R_to (G, 45, [(0, .ref 171), (1, .int i), (2, .int v2)], [.ref 171], 0, 0) 45 2 (fun _ => rfl) h) ?_
      refine pj_X_of (fun r h => pj_T_gr hI rfl rfl rfl h) ?_
      refine pj_X_of (fun r h => pj_R_to (G, 52, [(0, .ref 171), (1, .int i), (2, .int v2)], [.int (((Int8.ofInt 32).toInt32) * i), .ref 202], 0, 0) 52 4 (fun _ => rfl) h) ?_
      obtain ⟨z2, hz2⟩ : ∃ z : Int32, z = ((Int8.ofInt 32).toInt32) * i := ⟨_, rfl⟩
      refine pj_X_eqi hz2.symm ?_
      rw [← hz2, pj_nm_e]
      have fz2_0 : z2.toInt = 32 * i.toInt := by rw [hz2]; exact pj_mulL (by decide) (by omega) (by omega)
      refine pj_X_of (fun r h => pj_R_to (G, 54, [(0, .ref 171), (1, .int i), (2, .int v2)], [.int (z2 + v2), .ref 202], 0, 0) 54 3 (fun _ => rfl) h) ?_
      obtain ⟨z3, hz3⟩ : ∃ z : Int32, z = z2 + v2 := ⟨_, rfl⟩
      refine pj_X_eqi hz3.symm ?_
      rw [← hz3, pj_nm_e]
      have fz3_0 : z3.toInt = z2.toInt + v2.toInt := by rw [hz3]; exact pj_addI (by have := pj_i32 z2; have := pj_i32 v2; omega) (by have := pj_i32 z2; have := pj_i32 v2; omega)
      refine pj_X_of (fun r h => pj_R_to (G, 55, [(0, .ref 171), (1, .int i), (2, .int v2)], [.ref 171, .int z3, .ref 202], 0, 0) 55 2 (fun _ => rfl) h) ?_
      refine pj_X_of (fun r h => pj_T_gr hI rfl rfl rfl h) ?_
      refine pj_X_of (fun r h => pj_R_to (G, 59, [(0, .ref 171), (1, .int i), (2, .int v2)], [.int v2, .ref 179, .int z3, .ref 202], 0, 0) 59 2 (fun _ => rfl) h) ?_
      refine pj_X_of (fun r h => pj_T_il hI rfl rfl (by omega) (by omega) h) ?_
      show pj_X _ _ G 60 [(0, .ref 171), (1, .int i), (2, .int v2)] [.int (pj_ai G 179 v2.toInt.toNat), .int z3, .ref 202] _
      obtain ⟨z4, hz4⟩ : ∃ z : Int32, z = pj_ai G 179 v2.toInt.toNat := ⟨_, rfl⟩
      refine pj_X_eqi hz4.symm ?_
      rw [← hz4, pj_nm_e]
      have ez4 : (pj_ai G 179 v2.toInt.toNat).toInt = z4.toInt := by rw [hz4]
      have fz4_0 : (v2.toInt.toNat % 32 < 24 → (v2.toInt.toNat % 4 = 0 → -1 ≤ z4.toInt ∧ z4.toInt ≤ 9) ∧ (v2.toInt.toNat % 4 = 1 → 0 ≤ z4.toInt)) ∧ (24 ≤ v2.toInt.toNat % 32 ∧ v2.toInt.toNat % 32 < 30 → 0 ≤ z4.toInt ∧ z4.toInt ≤ 7) := by rw [hz4]; exact hI.2.2.2 179 32 rfl _ (by show _ < 32; omega)
      refine pj_X_of (fun r h => pj_T_is hI rfl rfl (by omega) (by omega) h) ?_
      show pj_X _ _ (pj_wa G 202 z3.toInt.toNat z4) 61 [(0, .ref 171), (1, .int i), (2, .int v2)] [] _
      obtain ⟨G5, hG5⟩ : ∃ H, H = pj_wa G 202 z3.toInt.toNat z4 := ⟨_, rfl⟩
      have iG5 : pj_Inv G5 := by rw [hG5]; exact pj_Inv_wa hI rfl (fun q hq => by cases hq) (fun n hn => ⟨fun h1 => ⟨fun h2 => by omega, fun h2 => by omega⟩, fun h1 => by omega⟩)
      have kG5 : pj_kpt kc_281x G0 G5 := by rw [hG5]; exact pj_kpt_a hK rfl
      rw [← hG5]
      rw [pj_nm_e]
      refine pj_X_of (fun r h => pj_R_to (G5, 64, [(2, .int (v2 + Int32.ofInt 1)), (0, .ref 171), (1, .int i)], [], 0, 0) 64 2 (fun _ => rfl) h) ?_
      obtain ⟨z6, hz6⟩ : ∃ z : Int32, z = v2 + Int32.ofInt 1 := ⟨_, rfl⟩
      rw [← hz6]
      rw [pj_nm_e]
      have fz6_0 : z6.toInt = v2.toInt + (Int32.ofInt 1).toInt := by rw [hz6]; exact pj_addI (by have := pj_i32 v2; have := pj_i32 (Int32.ofInt 1); omega) (by have := pj_i32 v2; have := pj_i32 (Int32.ofInt 1); omega)
      refine pj_X_of (fun r h => pj_R_to (G5, 38, [(2, .int z6), (0, .ref 171), (1, .int i)], [], 0, 0) 38 2 (fun _ => rfl) h) ?_
      exact pj_X_sub [(0, .ref 171), (1, .int i), (2, .int z6)] (show List.Nodup [0, 1, 2] by decide) ⟨rfl, rfl, rfl, trivial⟩ (ih G5 iG5 kG5 z6 ⟨by omega, by omega⟩ (by omega) (by omega))
theorem ct_281x (G0 : pj_G) (hI : pj_Inv G0) (i : Int32) : pj_Y 2 281 [.ref 171, .int i] G0 (fun v' G' => ∃ y : Int32, v' = some (.int y) ∧ pj_Inv G' ∧ pj_kpt kc_281x G0 G' ∧ ((0 : Int) ≤ y.toInt ∧ y.toInt ≤ 1) ∧ ((y, G') = F_282x G0 i)) := by
  have c0_ : ((Int8.ofInt 32).toInt32).toInt = 32 := by decide
  have c1_ : (Int32.ofInt 0).toInt = 0 := by decide
  have c2_ : (Int32.ofInt 1).toInt = 1 := by decide
  refine pj_Y_X (M := pj_m281) rfl rfl (Nat.le_of_ble_eq_true rfl) ?_
  have hK : pj_kpt kc_281x G0 G0 := pj_kpt_r _ _
  show pj_X _ _ G0 0 [(0, .ref 171), (1, .int i)] [] _
  rw [F_282x_e]
  refine pj_X_of (fun r h => pj_R_to (G0, 2, [(0, .ref 171), (1, .int i)], [.int (Int32.ofInt 0), .ref 171], 0, 0) 2 3 (fun _ => rfl) h) ?_
  refine pj_X_of (fun r h => pj_T_pf hI rfl rfl rfl h) ?_
  show pj_X _ _ (pj_wv G0 171 0 (.int (Int32.ofInt 0))) 5 [(0, .ref 171), (1, .int i)] [] _
  obtain ⟨G7, hG7⟩ : ∃ H, H = pj_wv G0 171 0 (.int (Int32.ofInt 0)) := ⟨_, rfl⟩
  have iG7 : pj_Inv G7 := by rw [hG7]; exact pj_Inv_wi hI (ci := 12) rfl (fun q hq => by cases hq)
  have kG7 : pj_kpt kc_281x G0 G7 := by rw [hG7]; exact pj_kpt_v hK rfl
  rw [← hG7]
  rw [pj_nm_e]
  refine pj_X_of (fun r h => pj_R_to (G7, 11, [(0, .ref 171), (1, .int i)], [.long (Int64.ofInt 2), .long (Int64.ofNat 0), .long i.toInt64], 0, 0) 11 5 (fun _ => rfl) h) ?_
  have lc8 : (i.toInt64).toInt = i.toInt := Int32.toInt_toInt64 _
  have lc9 : (Int64.ofNat 0).toInt = 0 := by decide
  have lc10 : (Int64.ofInt 2).toInt = 2 := by decide
  refine pj_X_ca (vs := [.long i.toInt64, .long (Int64.ofNat 0), .long (Int64.ofInt 2)]) rfl (fun _ => rfl) ⟨Nat.le_of_ble_eq_true rfl, Nat.le_of_ble_eq_true rfl, rfl⟩ ⟨rfl, rfl⟩ (pj_Y_up (by decide) (ct_170x G7 iG7 i.toInt64 (Int64.ofNat 0) (Int64.ofInt 2))) ?_
  rintro _ _ ⟨y11, rfl, rfl, ry11, ey11, fy11⟩
  rw [← fy11, pj_nm_e]
  show pj_X _ _ G7 14 [(0, .ref 171), (1, .int i)] [.int y11] _
  cases b12 : pj_c1 .ne y11 0 with
  | true =>
    rw [pj_cT]
    have ub12 := pj_u0_neT b12
    refine pj_X_of (fun r h => pj_R_ifT 19 rfl rfl b12 h) ?_
    refine pj_X_of (fun r h => pj_R_to (G7, 20, [(0, .ref 171), (1, .int i)], [.ref 171], 0, 0) 20 2 (fun _ => rfl) h) ?_
    refine pj_X_of (fun r h => pj_T_gr iG7 rfl rfl rfl h) ?_
    refine pj_X_of (fun r h => pj_R_to (G7, 25, [(0, .ref 171), (1, .int i)], [.int (Int32.ofInt 1), .int i, .ref 200], 0, 0) 25 3 (fun _ => rfl) h) ?_
    refine pj_X_of (fun r h => pj_T_bs iG7 rfl rfl (by omega) (by omega) h) ?_
    show pj_X _ _ (pj_wa G7 200 i.toInt.toNat (vp_nar .boolean (Int32.ofInt 1))) 26 [(0, .ref 171), (1, .int i)] [] _
    obtain ⟨G13, hG13⟩ : ∃ H, H = pj_wa G7 200 i.toInt.toNat (vp_nar .boolean (Int32.ofInt 1)) := ⟨_, rfl⟩
    have iG13 : pj_Inv G13 := by rw [hG13]; exact pj_Inv_wb iG7 rfl rfl rfl
    have kG13 : pj_kpt kc_281x G0 G13 := by rw [hG13]; exact pj_kpt_a kG7 rfl
    rw [← hG13]
    rw [pj_nm_e]
    refine pj_X_of (fun r h => pj_R_to (G13, 27, [(0, .ref 171), (1, .int i)], [.ref 171], 0, 0) 27 2 (fun _ => rfl) h) ?_
    refine pj_X_of (fun r h => pj_T_gr iG13 rfl rfl rfl h) ?_
    refine pj_X_of (fun r h => pj_R_to (G13, 32, [(0, .ref 171), (1, .int i)], [.ref 171, .int i, .ref 201], 0, 0) 32 3 (fun _ => rfl) h) ?_
    refine pj_X_of (fun r h => pj_T_gi iG13 rfl rfl h) ?_
    show pj_X _ _ G13 35 [(0, .ref 171), (1, .int i)] [.int (pj_fi G13 171 7), .int i, .ref 201] _
    obtain ⟨y14, hy14⟩ : ∃ z : Int32, z = pj_fi G13 171 7 := ⟨_, rfl⟩
    refine pj_X_eqi hy14.symm ?_
    rw [← hy14, pj_nm_e]
    have ey14 : (pj_fi G13 171 7).toInt = y14.toInt := by rw [hy14]
    refine pj_X_of (fun r h => pj_T_is iG13 rfl rfl (by omega) (by omega) h) ?_
    show pj_X _ _ (pj_wa G13 201 i.toInt.toNat y14) 36 [(0, .ref 171), (1, .int i)] [] _
    obtain ⟨G15, hG15⟩ : ∃ H, H = pj_wa G13 201 i.toInt.toNat y14 := ⟨_, rfl⟩
    have iG15 : pj_Inv G15 := by rw [hG15]; exact pj_Inv_wa iG13 rfl (fun q hq => by cases hq) (fun n hn => by cases hn)
    have kG15 : pj_kpt kc_281x G0 G15 := by rw [hG15]; exact pj_kpt_a kG13 rfl
    rw [← hG15]
    rw [pj_nm_e]
    refine pj_X_of (fun r h => pj_R_to (G15, 38, [(2, .int (Int32.ofInt 0)), (0, .ref 171), (1, .int i)], [], 0, 0) 38 3 (fun _ => rfl) h) ?_
    exact pj_X_sub [(0, .ref 171), (1, .int i), (2, .int (Int32.ofInt 0))] (show List.Nodup [0, 1, 2] by decide) ⟨rfl, rfl, rfl, trivial⟩ ((lp_ct_281x G0 hI i  33) G15 iG15 kG15 (Int32.ofInt 0) ⟨by omega, by omega⟩ (by omega) (by omega))
  | false =>
    rw [pj_cF]
    have ub12 := pj_u0_neF b12
    refine pj_X_of (fun r h => pj_R_ifF rfl b12 h) ?_
    refine pj_X_of (fun r h => pj_R_to (G7, 18, [(0, .ref 171), (1, .int i)], [.int (Int32.ofInt 0)], 0, 0) 18 2 (fun _ => rfl) h) ?_
    exact pj_X_rt rfl rfl ⟨_, rfl, iG7, kG7, ⟨by omega, by omega⟩, rfl⟩
theorem fr_282x (G0 : pj_G) (hI : pj_Inv G0) (i : Int32) : pj_Inv (F_282x G0 i).2 ∧ pj_kpt kc_281x G0 (F_282x G0 i).2 ∧ ((0 : Int) ≤ (F_282x G0 i).1.toInt ∧ (F_282x G0 i).1.toInt ≤ 1) := by
  obtain ⟨v, G', -, y, -, i, j, r, e⟩ := ct_281x G0 hI i
  rw [← e]
  exact ⟨i, j, r⟩
def kc_282x : pj_KT := ([(171, 0), (171, 30)], [171, 179], [179])
noncomputable def L_283x (G0 : pj_G) (i : Int32) (fu : Nat) : Int32 → pj_G → Int32 × pj_G := Nat.rec (motive := fun _ => Int32 → pj_G → Int32 × pj_G) (fun _ G => (0, G)) (fun _ ih v2 G => cond (pj_c1 .ge v2 ((Int8.ofInt 32).toInt32)) (pj_nm (pj_wv G 171 30 (.int (Int32.ofInt 0))) (fun G3 => (Int32.ofInt 1, G3))) (pj_nm (((Int8.ofInt 32).toInt32) * i) (fun z5 => pj_nm (z5 + v2) (fun z6 => pj_nm (pj_ai G 202 z6.toInt.toNat) (fun z7 => pj_nm (pj_wa G 179 v2.toInt.toNat z7) (fun G8 => pj_nm (v2 + Int32.ofInt 1) (fun z9 => ih z9 G8))))))) fu
theorem L_283x_s0 (G0 : pj_G) (i : Int32) (fu : Nat) (v2 : Int32) (G : pj_G) : L_283x G0 i (fu + 1) v2 G = cond (pj_c1 .ge v2 ((Int8.ofInt 32).toInt32)) (pj_nm (pj_wv G 171 30 (.int (Int32.ofInt 0))) (fun G3 => (Int32.ofInt 1, G3))) (pj_nm (((Int8.ofInt 32).toInt32) * i) (fun z5 => pj_nm (z5 + v2) (fun z6 => pj_nm (pj_ai G 202 z6.toInt.toNat) (fun z7 => pj_nm (pj_wa G 179 v2.toInt.toNat z7) (fun G8 => pj_nm (v2 + Int32.ofInt 1) (fun z9 => L_283x G0 i fu z9 G8)))))) := rfl
noncomputable def F_283x (G0 : pj_G) (i : Int32) : Int32 × pj_G := pj_nm (pj_wv G0 171 0 (.int (Int32.ofInt 0))) (fun G12 => pj_nm (F_171x G12 i.toInt64 (Int64.ofNat 0) (Int64.ofInt 2)) (fun y17 => cond (pj_c1 .eq y17 0) ((Int32.ofInt 0, G12)) (pj_nm (pj_ai G12 200 i.toInt.toNat) (fun z20 => cond (pj_c1 .eq z20 0) ((Int32.ofInt 0, G12)) (pj_nm (pj_ai G12 201 i.toInt.toNat) (fun z23 => pj_nm (pj_fi G12 171 7) (fun y24 => cond (pj_c1 .eq z23 y24) (L_283x G0 i 33 (Int32.ofInt 0) G12) ((Int32.ofInt 0, G12)))))))))
theorem F_283x_e (G0 : pj_G) (i : Int32) : F_283x G0 i = pj_nm (pj_wv G0 171 0 (.int (Int32.ofInt 0))) (fun G12 => pj_nm (F_171x G12 i.toInt64 (Int64.ofNat 0) (Int64.ofInt 2)) (fun y17 => cond (pj_c1 .eq y17 0) ((Int32.ofInt 0, G12)) (pj_nm (pj_ai G12 200 i.toInt.toNat) (fun z20 => cond (pj_c1 .eq z20 0) ((Int32.ofInt 0, G12)) (pj_nm (pj_ai G12 201 i.toInt.toNat) (fun z23 => pj_nm (pj_fi G12 171 7) (fun y24 => cond (pj_c1 .eq z23 y24) (L_283x G0 i 33 (Int32.ofInt 0) G12) ((Int32.ofInt 0, G12))))))))) := rfl
theorem lp_ct_282x (G0 : pj_G) (hI0 : pj_Inv G0) (i : Int32) (p0_ : (pj_fi G0 171 30).toInt ≤ 15) : ∀ mn : Nat, (∀ (G : pj_G) (hI : pj_Inv G) (hK : pj_kpt kc_282x G0 G) (v2 : Int32), ((0 : Int) ≤ v2.toInt ∧ v2.toInt ≤ 32) → (0 ≤ i.toInt ∧ i.toInt ≤ 2) → ((pj_fi G 171 30).toInt ≤ 15) → 32 - v2.toInt < (mn : Int) → pj_X 1 pj_m282 G 43 [(0, .ref 171), (1, .int i), (2, .int v2)] [] (fun v' G' => ∃ y : Int32, v' = some (.int y) ∧ pj_Inv G' ∧ pj_kpt kc_282x G0 G' ∧ ((0 : Int) ≤ y.toInt ∧ y.toInt ≤ 1) ∧ ((pj_fi G' 171 30).toInt ≤ 15) ∧ ((y, G') = L_283x G0 i mn v2 G))) := by
  have c0_ : ((Int8.ofInt 32).toInt32).toInt = 32 := by decide
  have c1_ : (Int32.ofInt 0).toInt = 0 := by decide
  have c2_ : (Int32.ofInt 1).toInt = 1 := by decide
  intro mn
  induction mn with
  | zero =>
    intro G hI hK v2 rv2 x0_ x1_ hm
    exfalso
    omega
  | succ mn ih =>
    intro G hI hK v2 rv2 x0_ x1_ hm
    rw [L_283x_s0]
    obtain ⟨y1, hy1⟩ : ∃ z : Int32, z = pj_fi G 171 30 := ⟨_, rfl⟩
    have ey1 : (pj_fi G 171 30).toInt = y1.toInt := by rw [hy1]
    have ry1 : (0 : Int) ≤ y1.toInt ∧ y1.toInt ≤ 16 := by rw [hy1]; exact hI.2.1 171 30 (0, 16) rfl
    refine pj_X_of (fun r h => pj_R_to (G, 46, [(0, .ref 171), (1, .int i), (2, .int v2)], [.int ((Int8.ofInt 32).toInt32), .int v2], 0, 0) 46 3 (fun _ => rfl) h) ?_
    cases b2 : pj_c1 .ge v2 ((Int8.ofInt 32).toInt32) with
    | true =>
      rw [pj_cT]
      have ub2 := pj_u_geT b2
      refine pj_X_of (fun r h => pj_R_icT 72 rfl rfl b2 h) ?_
      refine pj_X_of (fun r h => pj_R_to (G, 74, [(0, .ref 171), (1, .int i), (2, .int v2)], [.int (Int32.ofInt 0), .ref 171], 0, 0) 74 3 (fun _ => rfl) h) ?_
      refine pj_X_of (fun r h => pj_T_pf hI rfl rfl rfl h) ?_
      show pj_X _ _ (pj_wv G 171 30 (.int (Int32.ofInt 0))) 77 [(0, .ref 171), (1, .int i), (2, .int v2)] [] _
      obtain ⟨G3, hG3⟩ : ∃ H, H = pj_wv G 171 30 (.int (Int32.ofInt 0)) := ⟨_, rfl⟩
      have iG3 : pj_Inv G3 := by rw [hG3]; exact pj_Inv_wi hI (ci := 12) rfl (fun q hq => by cases hq; exact ⟨by show (0 : Int) ≤ _; omega, by show _ ≤ (16 : Int); omega⟩)
      have kG3 : pj_kpt kc_282x G0 G3 := by rw [hG3]; exact pj_kpt_v hK rfl
      rw [← hG3]
      rw [pj_nm_e]
      refine pj_X_of (fun r h => pj_R_to (G3, 78, [(0, .ref 171), (1, .int i), (2, .int v2)], [.int (Int32.ofInt 1)], 0, 0) 78 2 (fun _ => rfl) h) ?_
      have q4 : (pj_fi G3 171 30).toInt = (Int32.ofInt 0).toInt := by rw [show pj_fi G3 171 30 = Int32.ofInt 0 from by rw [hG3]; exact pj_fi_wi hI.1 (ci := 12) rfl _]
      exact pj_X_rt rfl rfl ⟨_, rfl, iG3, kG3, ⟨by omega, by omega⟩, by omega, rfl⟩
    | false =>
      rw [pj_cF]
      have ub2 := pj_u_geF b2
      refine pj_X_of (fun r h => pj_R_icF rfl b2 h) ?_
      refine pj_X_of (fun r h => pj_R_to (G, 50, [(0, .ref 171), (1, .int i), (2, .int v2)], [.ref 171], 0, 0) 50 2 (fun _ => rfl) h) ?_
      refine pj_X_of (fun r h => pj_T_gr hI rfl rfl rfl h) ?_
      refine pj_X_of (fun r h => pj_R_to (G, 55, [(0, .ref 171), (1, .int i), (2, .int v2)], [.ref 171, .int v2, .ref 179], 0, 0) 55 3 (fun _ => rfl) h) ?_
      refine pj_X_of (fun r h => pj_T_gr hI rfl rfl rfl h) ?_
      refine pj_X_of (fun r h => pj_R_to (G, 62, [(0, .ref 171), (1, .int i), (2, .int v2)], [.int (((Int8.ofInt 32).toInt32) * i), .ref 202, .int v2, .ref 179], 0, 0) 62 4 (fun _ => rfl) h) ?_
      obtain ⟨z5, hz5⟩ : ∃ z : Int32, z = ((Int8.ofInt 32).toInt32) * i := ⟨_, rfl⟩
      refine pj_X_eqi hz5.symm ?_
      rw [← hz5, pj_nm_e]
      have fz5_0 : z5.toInt = 32 * i.toInt := by rw [hz5]; exact pj_mulL (by decide) (by omega) (by omega)
      refine pj_X_of (fun r h => pj_R_to (G, 64, [(0, .ref 171), (1, .int i), (2, .int v2)], [.int (z5 + v2), .ref 202, .int v2, .ref 179], 0, 0) 64 3 (fun _ => rfl) h) ?_
      obtain ⟨z6, hz6⟩ : ∃ z : Int32, z = z5 + v2 := ⟨_, rfl⟩
      refine pj_X_eqi hz6.symm ?_
      rw [← hz6, pj_nm_e]
      have fz6_0 : z6.toInt = z5.toInt + v2.toInt := by rw [hz6]; exact pj_addI (by have := pj_i32 z5; have := pj_i32 v2; omega) (by have := pj_i32 z5; have := pj_i32 v2; omega)
      refine pj_X_of (fun r h => pj_T_il hI rfl rfl (by omega) (by omega) h) ?_
      show pj_X _ _ G 65 [(0, .ref 171), (1, .int i), (2, .int v2)] [.int (pj_ai G 202 z6.toInt.toNat), .int v2, .ref 179] _
      obtain ⟨z7, hz7⟩ : ∃ z : Int32, z = pj_ai G 202 z6.toInt.toNat := ⟨_, rfl⟩
      refine pj_X_eqi hz7.symm ?_
      rw [← hz7, pj_nm_e]
      have ez7 : (pj_ai G 202 z6.toInt.toNat).toInt = z7.toInt := by rw [hz7]
      have fz7_0 : (z6.toInt.toNat % 32 < 24 → (z6.toInt.toNat % 4 = 0 → -1 ≤ z7.toInt ∧ z7.toInt ≤ 9) ∧ (z6.toInt.toNat % 4 = 1 → 0 ≤ z7.toInt)) ∧ (24 ≤ z6.toInt.toNat % 32 ∧ z6.toInt.toNat % 32 < 30 → 0 ≤ z7.toInt ∧ z7.toInt ≤ 7) := by rw [hz7]; exact hI.2.2.2 202 96 rfl _ (by show _ < 96; omega)
      refine pj_X_of (fun r h => pj_T_is hI rfl rfl (by omega) (by omega) h) ?_
      show pj_X _ _ (pj_wa G 179 v2.toInt.toNat z7) 66 [(0, .ref 171), (1, .int i), (2, .int v2)] [] _
      obtain ⟨G8, hG8⟩ : ∃ H, H = pj_wa G 179 v2.toInt.toNat z7 := ⟨_, rfl⟩
      have iG8 : pj_Inv G8 := by rw [hG8]; exact pj_Inv_wa hI rfl (fun q hq => by cases hq) (fun n hn => ⟨fun h1 => ⟨fun h2 => by omega, fun h2 => by omega⟩, fun h1 => by omega⟩)
      have kG8 : pj_kpt kc_282x G0 G8 := by rw [hG8]; exact pj_kpt_a hK rfl
      rw [← hG8]
      rw [pj_nm_e]
      refine pj_X_of (fun r h => pj_R_to (G8, 69, [(2, .int (v2 + Int32.ofInt 1)), (0, .ref 171), (1, .int i)], [], 0, 0) 69 2 (fun _ => rfl) h) ?_
      obtain ⟨z9, hz9⟩ : ∃ z : Int32, z = v2 + Int32.ofInt 1 := ⟨_, rfl⟩
      rw [← hz9]
      rw [pj_nm_e]
      have fz9_0 : z9.toInt = v2.toInt + (Int32.ofInt 1).toInt := by rw [hz9]; exact pj_addI (by have := pj_i32 v2; have := pj_i32 (Int32.ofInt 1); omega) (by have := pj_i32 v2; have := pj_i32 (Int32.ofInt 1); omega)
      refine pj_X_of (fun r h => pj_R_to (G8, 43, [(2, .int z9), (0, .ref 171), (1, .int i)], [], 0, 0) 43 2 (fun _ => rfl) h) ?_
      have q10 : (pj_fi G8 171 30).toInt = y1.toInt := by rw [show pj_fi G8 171 30 = y1 from by rw [hG8, pj_fi_wa]; exact hy1.symm]
      exact pj_X_sub [(0, .ref 171), (1, .int i), (2, .int z9)] (show List.Nodup [0, 1, 2] by decide) ⟨rfl, rfl, rfl, trivial⟩ (ih G8 iG8 kG8 z9 ⟨by omega, by omega⟩ (by omega) (by omega) (by omega))
theorem ct_282x (G0 : pj_G) (hI : pj_Inv G0) (i : Int32) (p0_ : (pj_fi G0 171 30).toInt ≤ 15) : pj_Y 2 282 [.ref 171, .int i] G0 (fun v' G' => ∃ y : Int32, v' = some (.int y) ∧ pj_Inv G' ∧ pj_kpt kc_282x G0 G' ∧ ((0 : Int) ≤ y.toInt ∧ y.toInt ≤ 1) ∧ ((pj_fi G' 171 30).toInt ≤ 15) ∧ ((y, G') = F_283x G0 i)) := by
  have c0_ : ((Int8.ofInt 32).toInt32).toInt = 32 := by decide
  have c1_ : (Int32.ofInt 0).toInt = 0 := by decide
  have c2_ : (Int32.ofInt 1).toInt = 1 := by decide
  refine pj_Y_X (M := pj_m282) rfl rfl (Nat.le_of_ble_eq_true rfl) ?_
  have hK : pj_kpt kc_282x G0 G0 := pj_kpt_r _ _
  show pj_X _ _ G0 0 [(0, .ref 171), (1, .int i)] [] _
  rw [F_283x_e]
  obtain ⟨y11, hy11⟩ : ∃ z : Int32, z = pj_fi G0 171 30 := ⟨_, rfl⟩
  have ey11 : (pj_fi G0 171 30).toInt = y11.toInt := by rw [hy11]
  have ry11 : (0 : Int) ≤ y11.toInt ∧ y11.toInt ≤ 16 := by rw [hy11]; exact hI.2.1 171 30 (0, 16) rfl
  refine pj_X_of (fun r h => pj_R_to (G0, 2, [(0, .ref 171), (1, .int i)], [.int (Int32.ofInt 0), .ref 171], 0, 0) 2 3 (fun _ => rfl) h) ?_
  refine pj_X_of (fun r h => pj_T_pf hI rfl rfl rfl h) ?_
  show pj_X _ _ (pj_wv G0 171 0 (.int (Int32.ofInt 0))) 5 [(0, .ref 171), (1, .int i)] [] _
  obtain ⟨G12, hG12⟩ : ∃ H, H = pj_wv G0 171 0 (.int (Int32.ofInt 0)) := ⟨_, rfl⟩
  have iG12 : pj_Inv G12 := by rw [hG12]; exact pj_Inv_wi hI (ci := 12) rfl (fun q hq => by cases hq)
  have kG12 : pj_kpt kc_282x G0 G12 := by rw [hG12]; exact pj_kpt_v hK rfl
  rw [← hG12]
  rw [pj_nm_e]
  refine pj_X_of (fun r h => pj_R_to (G12, 11, [(0, .ref 171), (1, .int i)], [.long (Int64.ofInt 2), .long (Int64.ofNat 0), .long i.toInt64], 0, 0) 11 5 (fun _ => rfl) h) ?_
  have q13 : (pj_fi G12 171 30).toInt = y11.toInt := by rw [show pj_fi G12 171 30 = y11 from by rw [hG12, pj_fi_wv_ne _ _ _ _ _ _ (by decide)]; exact hy11.symm]
  have lc14 : (i.toInt64).toInt = i.toInt := Int32.toInt_toInt64 _
  have lc15 : (Int64.ofNat 0).toInt = 0 := by decide
  have lc16 : (Int64.ofInt 2).toInt = 2 := by decide
  refine pj_X_ca (vs := [.long i.toInt64, .long (Int64.ofNat 0), .long (Int64.ofInt 2)]) rfl (fun _ => rfl) ⟨Nat.le_of_ble_eq_true rfl, Nat.le_of_ble_eq_true rfl, rfl⟩ ⟨rfl, rfl⟩ (pj_Y_up (by decide) (ct_170x G12 iG12 i.toInt64 (Int64.ofNat 0) (Int64.ofInt 2))) ?_
  rintro _ _ ⟨y17, rfl, rfl, ry17, ey17, fy17⟩
  rw [← fy17, pj_nm_e]
  show pj_X _ _ G12 14 [(0, .ref 171), (1, .int i)] [.int y17] _
  cases b18 : pj_c1 .eq y17 0 with
  | true =>
    rw [pj_cT]
    have ub18 := pj_u0_eqT b18
    refine pj_X_of (fun r h => pj_R_ifT 39 rfl rfl b18 h) ?_
    refine pj_X_of (fun r h => pj_R_to (G12, 40, [(0, .ref 171), (1, .int i)], [.int (Int32.ofInt 0)], 0, 0) 40 2 (fun _ => rfl) h) ?_
    have q19 : (pj_fi G12 171 30).toInt = y11.toInt := by rw [show pj_fi G12 171 30 = y11 from by rw [hG12, pj_fi_wv_ne _ _ _ _ _ _ (by decide)]; exact hy11.symm]
    exact pj_X_rt rfl rfl ⟨_, rfl, iG12, kG12, ⟨by omega, by omega⟩, by omega, rfl⟩
  | false =>
    rw [pj_cF]
    have ub18 := pj_u0_eqF b18
    refine pj_X_of (fun r h => pj_R_ifF rfl b18 h) ?_
    refine pj_X_of (fun r h => pj_R_to (G12, 18, [(0, .ref 171), (1, .int i)], [.ref 171], 0, 0) 18 2 (fun _ => rfl) h) ?_
    refine pj_X_of (fun r h => pj_T_gr iG12 rfl rfl rfl h) ?_
    refine pj_X_of (fun r h => pj_R_to (G12, 22, [(0, .ref 171), (1, .int i)], [.int i, .ref 200], 0, 0) 22 2 (fun _ => rfl) h) ?_
    refine pj_X_of (fun r h => pj_T_bl iG12 rfl rfl (by omega) (by omega) h) ?_
    show pj_X _ _ G12 23 [(0, .ref 171), (1, .int i)] [.int (pj_ai G12 200 i.toInt.toNat)] _
    obtain ⟨z20, hz20⟩ : ∃ z : Int32, z = pj_ai G12 200 i.toInt.toNat := ⟨_, rfl⟩
    refine pj_X_eqi hz20.symm ?_
    rw [← hz20, pj_nm_e]
    have ez20 : (pj_ai G12 200 i.toInt.toNat).toInt = z20.toInt := by rw [hz20]
    cases b21 : pj_c1 .eq z20 0 with
    | true =>
      rw [pj_cT]
      have ub21 := pj_u0_eqT b21
      refine pj_X_of (fun r h => pj_R_ifT 39 rfl rfl b21 h) ?_
      refine pj_X_of (fun r h => pj_R_to (G12, 40, [(0, .ref 171), (1, .int i)], [.int (Int32.ofInt 0)], 0, 0) 40 2 (fun _ => rfl) h) ?_
      have q22 : (pj_fi G12 171 30).toInt = y11.toInt := by rw [show pj_fi G12 171 30 = y11 from by rw [hG12, pj_fi_wv_ne _ _ _ _ _ _ (by decide)]; exact hy11.symm]
      exact pj_X_rt rfl rfl ⟨_, rfl, iG12, kG12, ⟨by omega, by omega⟩, by omega, rfl⟩
    | false =>
      rw [pj_cF]
      have ub21 := pj_u0_eqF b21
      refine pj_X_of (fun r h => pj_R_ifF rfl b21 h) ?_
      refine pj_X_of (fun r h => pj_R_to (G12, 27, [(0, .ref 171), (1, .int i)], [.ref 171], 0, 0) 27 2 (fun _ => rfl) h) ?_
      refine pj_X_of (fun r h => pj_T_gr iG12 rfl rfl rfl h) ?_
      refine pj_X_of (fun r h => pj_R_to (G12, 31, [(0, .ref 171), (1, .int i)], [.int i, .ref 201], 0, 0) 31 2 (fun _ => rfl) h) ?_
      refine pj_X_of (fun r h => pj_T_il iG12 rfl rfl (by omega) (by omega) h) ?_
      show pj_X _ _ G12 32 [(0, .ref 171), (1, .int i)] [.int (pj_ai G12 201 i.toInt.toNat)] _
      obtain ⟨z23, hz23⟩ : ∃ z : Int32, z = pj_ai G12 201 i.toInt.toNat := ⟨_, rfl⟩
      refine pj_X_eqi hz23.symm ?_
      rw [← hz23, pj_nm_e]
      have ez23 : (pj_ai G12 201 i.toInt.toNat).toInt = z23.toInt := by rw [hz23]
      refine pj_X_of (fun r h => pj_R_to (G12, 33, [(0, .ref 171), (1, .int i)], [.ref 171, .int z23], 0, 0) 33 2 (fun _ => rfl) h) ?_
      refine pj_X_of (fun r h => pj_T_gi iG12 rfl rfl h) ?_
      show pj_X _ _ G12 36 [(0, .ref 171), (1, .int i)] [.int (pj_fi G12 171 7), .int z23] _
      obtain ⟨y24, hy24⟩ : ∃ z : Int32, z = pj_fi G12 171 7 := ⟨_, rfl⟩
      refine pj_X_eqi hy24.symm ?_
      rw [← hy24, pj_nm_e]
      have ey24 : (pj_fi G12 171 7).toInt = y24.toInt := by rw [hy24]
      cases b25 : pj_c1 .eq z23 y24 with
      | true =>
        rw [pj_cT]
        have ub25 := pj_u_eqT b25
        refine pj_X_of (fun r h => pj_R_icT 41 rfl rfl b25 h) ?_
        refine pj_X_of (fun r h => pj_R_to (G12, 43, [(2, .int (Int32.ofInt 0)), (0, .ref 171), (1, .int i)], [], 0, 0) 43 3 (fun _ => rfl) h) ?_
        have q26 : (pj_fi G12 171 30).toInt = y11.toInt := by rw [show pj_fi G12 171 30 = y11 from by rw [hG12, pj_fi_wv_ne _ _ _ _ _ _ (by decide)]; exact hy11.symm]
        exact pj_X_sub [(0, .ref 171), (1, .int i), (2, .int (Int32.ofInt 0))] (show List.Nodup [0, 1, 2] by decide) ⟨rfl, rfl, rfl, trivial⟩ ((lp_ct_282x G0 hI i  p0_ 33) G12 iG12 kG12 (Int32.ofInt 0) ⟨by omega, by omega⟩ (by omega) (by omega) (by omega))
      | false =>
        rw [pj_cF]
        have ub25 := pj_u_eqF b25
        refine pj_X_of (fun r h => pj_R_icF rfl b25 h) ?_
        refine pj_X_of (fun r h => pj_R_to (G12, 40, [(0, .ref 171), (1, .int i)], [.int (Int32.ofInt 0)], 0, 0) 40 2 (fun _ => rfl) h) ?_
        have q27 : (pj_fi G12 171 30).toInt = y11.toInt := by rw [show pj_fi G12 171 30 = y11 from by rw [hG12, pj_fi_wv_ne _ _ _ _ _ _ (by decide)]; exact hy11.symm]
        exact pj_X_rt rfl rfl ⟨_, rfl, iG12, kG12, ⟨by omega, by omega⟩, by omega, rfl⟩
theorem fr_283x (G0 : pj_G) (hI : pj_Inv G0) (i : Int32) (p0_ : (pj_fi G0 171 30).toInt ≤ 15) : pj_Inv (F_283x G0 i).2 ∧ pj_kpt kc_282x G0 (F_283x G0 i).2 ∧ ((0 : Int) ≤ (F_283x G0 i).1.toInt ∧ (F_283x G0 i).1.toInt ≤ 1) ∧ ((pj_fi (F_283x G0 i).2 171 30).toInt ≤ 15) := by
  obtain ⟨v, G', -, y, -, i, j, r, x, e⟩ := ct_282x G0 hI i p0_
  rw [← e]
  exact ⟨i, j, r, x⟩
/-! WHAT IS KEPT, ON BOTH SIDES -/
def mr_K (C R : pj_G) : Prop := ∀ i : Nat, i < 3 → (¬ (pj_ai C 56 i).toInt = 0 → ¬ (pj_ai R 200 i).toInt = 0 ∧ (pj_fi C (153 + 6 * i) 0).toInt ≤ (pj_fi C 21 0).toInt ∧ (pj_fi C (153 + 6 * i) 5).toInt ≤ (pj_fi C 21 5).toInt ∧ ((pj_ai R 201 i).toInt = (pj_fi R 171 7).toInt → (pj_fi C (153 + 6 * i) 0).toInt = (pj_fi C 21 0).toInt ∧ (pj_fi C (153 + 6 * i) 5).toInt = (pj_fi C 21 5).toInt) ∧ ((pj_ai R 201 i).toInt < (pj_fi R 171 7).toInt → (pj_fi C (153 + 6 * i) 0).toInt + (pj_fi C (153 + 6 * i) 5).toInt < (pj_fi C 21 0).toInt + (pj_fi C 21 5).toInt)) ∧ (¬ (pj_ai R 200 i).toInt = 0 → (pj_ai R 201 i).toInt ≤ (pj_fi R 171 7).toInt) ∧ ((pj_ai C 56 i).toInt = 0 → ¬ (pj_ai R 200 i).toInt = 0 → (pj_ai R 201 i).toInt < (pj_fi R 171 7).toInt)
def mr_N (n : Int) (R : pj_G) : Prop := 0 ≤ (pj_fi R 171 7).toInt ∧ 5 * (pj_fi R 171 7).toInt ≤ n
/-- kept under a number -/
def mr_kp (i : Int32) (G G' : pj_G) (y : Int32) : Prop := (y.toInt = 1 ∧ 0 ≤ i.toInt ∧ i.toInt ≤ 2 ∧ (pj_ai G' 56 i.toInt.toNat).toInt = 1 ∧ (pj_fi G' (153 + 6 * i.toInt.toNat) 0).toInt = (pj_fi G 21 0).toInt ∧ (pj_fi G' (153 + 6 * i.toInt.toNat) 5).toInt = (pj_fi G 21 5).toInt ∧ ∀ j : Nat, j < 3 → j ≠ i.toInt.toNat → (pj_ai G' 56 j).toInt = (pj_ai G 56 j).toInt ∧ (pj_fi G' (153 + 6 * j) 0).toInt = (pj_fi G (153 + 6 * j) 0).toInt ∧ (pj_fi G' (153 + 6 * j) 5).toInt = (pj_fi G (153 + 6 * j) 5).toInt) ∨ (y.toInt = 0 ∧ ¬ (0 ≤ i.toInt ∧ i.toInt ≤ 2) ∧ G' = G)
theorem mr_nar1 : (vp_nar .boolean (Int32.ofInt 1)).toInt = 1 := by decide
theorem mr_nar0 : (vp_nar .boolean (Int32.ofInt 0)).toInt = 0 := by decide
theorem mr_kp1 {W : pj_KT} {G G1 : pj_G} {i x y : Int32} (q : Nat) (q3 : q < 3) (hi : i.toInt = (q : Int)) (i1 : pj_Inv G1) (k : pj_kpt W G G1) (w : W.1.all (fun p => Nat.beq p.1 (153 + 6 * q)) = true) (w2 : W.2.2.all (fun a => !(Nat.beq a 56)) = true) (e : (pj_fi G1 (153 + 6 * q) 0).toInt = (pj_fi G 21 0).toInt ∧ (pj_fi G1 (153 + 6 * q) 5).toInt = (pj_fi G 21 5).toInt) (hx : x = vp_nar .boolean (Int32.ofInt 1)) (hy : y.toInt = 1) {G2 : pj_G} (hG : G2 = pj_wa G1 56 i.toInt.toNat x) : mr_kp i G G2 y := by
  subst hG
  subst hx
  have eq : i.toInt.toNat = q := by omega
  refine .inl ⟨hy, by omega, by omega, ?_, ?_, ?_, fun j hj hne => ?_⟩
  · rw [mr_be i1.1 (a := 56) rfl]
    exact mr_nar1
  · rw [pj_fi_wa, eq]
    exact e.1
  · rw [pj_fi_wa, eq]
    exact e.2
  · have n1 : ∀ m : Nat, (153 + 6 * j, m) ∉ W.1 := fun m hm => by
      have z : 153 + 6 * j = 153 + 6 * q := Nat.eq_of_beq_eq_true (List.all_eq_true.mp w _ hm)
      omega
    have n2 : (56 : Nat) ∉ W.2.2 := fun hm => by
      have z := List.all_eq_true.mp w2 _ hm
      cases z
    have e0 : pj_fi G1 (153 + 6 * j) 0 = pj_fi G (153 + 6 * j) 0 := k.1 (153 + 6 * j, 0) (n1 0)
    have e5 : pj_fi G1 (153 + 6 * j) 5 = pj_fi G (153 + 6 * j) 5 := k.1 (153 + 6 * j, 5) (n1 5)
    rw [pj_ai_wa_nj _ _ _ _ _ hne, k.2.2 56 n2 j, pj_fi_wa, pj_fi_wa, e0, e5]
    exact ⟨rfl, rfl, rfl⟩
/-! the reference keeps, goes back -/
theorem mr_282s (R0 : pj_G) (i : Int32) (fu : Nat) (v : Int32) (G : pj_G) : L_282x R0 i (fu + 1) v G = cond (pj_c1 .ge v ((Int8.ofInt 32).toInt32)) (Int32.ofInt 1, G) (L_282x R0 i fu (v + Int32.ofInt 1) (pj_wa G 202 (((Int8.ofInt 32).toInt32) * i + v).toInt.toNat (pj_ai G 179 v.toInt.toNat))) := by
  rw [L_282x_s0]
  simp only [pj_nm_x]
theorem mr_282l (R0 : pj_G) (i : Int32) : ∀ (m fu : Nat) (v : Int32) (G : pj_G), 0 ≤ v.toInt → v.toInt ≤ 32 → 32 - v.toInt ≤ m → m < fu → (L_282x R0 i fu v G).1.toInt = 1 ∧ (∀ a k, pj_fi (L_282x R0 i fu v G).2 a k = pj_fi G a k) ∧ (∀ a j, a ≠ 202 → pj_ai (L_282x R0 i fu v G).2 a j = pj_ai G a j) := by
  have k1 : (Int32.ofInt 1).toInt = 1 := by decide
  have k32 : (((Int8.ofInt 32).toInt32)).toInt = 32 := by decide
  intro m
  induction m with
  | zero =>
    intro fu v G h0 h1 hm hf
    obtain ⟨g, rfl⟩ : ∃ q, fu = q + 1 := ⟨fu - 1, by omega⟩
    rw [mr_282s, pj_b_geT (show (((Int8.ofInt 32).toInt32)).toInt ≤ v.toInt by omega), pj_cT]
    exact ⟨k1, fun _ _ => rfl, fun _ _ _ => rfl⟩
  | succ m ih =>
    intro fu v G h0 h1 hm hf
    obtain ⟨g, rfl⟩ : ∃ q, fu = q + 1 := ⟨fu - 1, by omega⟩
    rw [mr_282s]
    by_cases q : 32 ≤ v.toInt
    · rw [pj_b_geT (show (((Int8.ofInt 32).toInt32)).toInt ≤ v.toInt by omega), pj_cT]
      exact ⟨k1, fun _ _ => rfl, fun _ _ _ => rfl⟩
    · rw [pj_b_geF (show v.toInt < (((Int8.ofInt 32).toInt32)).toInt by omega), pj_cF]
      have s : (v + Int32.ofInt 1).toInt = v.toInt + 1 := by rw [pj_addI (by omega) (by omega), k1]
      obtain ⟨z1, z2, z3⟩ := ih g (v + Int32.ofInt 1) (pj_wa G 202 (((Int8.ofInt 32).toInt32) * i + v).toInt.toNat (pj_ai G 179 v.toInt.toNat)) (by omega) (by omega) (by omega) (by omega)
      exact ⟨z1, fun a k => (z2 a k).trans (pj_fi_wa _ _ _ _ _ _), fun a j h => (z3 a j h).trans (pj_ai_wa_ne _ _ _ _ _ _ h)⟩
theorem mr_in2 (G : pj_G) (i : Int32) : ((0 ≤ i.toInt ∧ i.toInt ≤ 2) → (F_171x G i.toInt64 (Int64.ofNat 0) (Int64.ofInt 2)).toInt = 1) ∧ (¬ (0 ≤ i.toInt ∧ i.toInt ≤ 2) → (F_171x G i.toInt64 (Int64.ofNat 0) (Int64.ofInt 2)).toInt = 0) := by
  have l0 : (Int64.ofNat 0).toInt = 0 := by decide
  have l2 : (Int64.ofInt 2).toInt = 2 := by decide
  have lk : (i.toInt64).toInt = i.toInt := Int32.toInt_toInt64 _
  obtain ⟨p1, p2⟩ := mr_171 G i.toInt64 (Int64.ofNat 0) (Int64.ofInt 2)
  exact ⟨fun h => p1 (by omega), fun h => p2 (by omega)⟩
/-- keep() in the reference -/
theorem mr_keepR {H : pj_G} (iH : pj_Inv H) (i : Int32) : ((0 ≤ i.toInt ∧ i.toInt ≤ 2) ∧ (F_282x H i).1.toInt = 1 ∧ (∀ k, k ≠ 0 → pj_fi (F_282x H i).2 171 k = pj_fi H 171 k) ∧ (pj_ai (F_282x H i).2 200 i.toInt.toNat).toInt = 1 ∧ pj_ai (F_282x H i).2 201 i.toInt.toNat = pj_fi H 171 7 ∧ (∀ j, j ≠ i.toInt.toNat → pj_ai (F_282x H i).2 200 j = pj_ai H 200 j ∧ pj_ai (F_282x H i).2 201 j = pj_ai H 201 j)) ∨ (¬ (0 ≤ i.toInt ∧ i.toInt ≤ 2) ∧ (F_282x H i).1.toInt = 0 ∧ (∀ k, k ≠ 0 → pj_fi (F_282x H i).2 171 k = pj_fi H 171 k) ∧ ∀ j, pj_ai (F_282x H i).2 200 j = pj_ai H 200 j ∧ pj_ai (F_282x H i).2 201 j = pj_ai H 201 j) := by
  have k0 : (Int32.ofInt 0).toInt = 0 := by decide
  have s0 := mr_sv iH.1 (a := 171) (ci := 12) (k := 0) rfl (Int32.ofInt 0)
  have s1 := mr_sb s0 (a := 200) rfl i.toInt.toNat (vp_nar .boolean (Int32.ofInt 1))
  have f0 : ∀ k, k ≠ 0 → pj_fi (pj_wv H 171 0 (.int (Int32.ofInt 0))) 171 k = pj_fi H 171 k := fun k hk => pj_fi_wv_ne _ _ _ _ _ _ (by omega)
  obtain ⟨p1, p2⟩ := mr_in2 (pj_wv H 171 0 (.int (Int32.ofInt 0))) i
  rw [F_282x_e]
  simp only [pj_nm_x]
  by_cases q : 0 ≤ i.toInt ∧ i.toInt ≤ 2
  · rw [pj_b0_neT (show ¬ (F_171x (pj_wv H 171 0 (.int (Int32.ofInt 0))) i.toInt64 (Int64.ofNat 0) (Int64.ofInt 2)).toInt = 0 by have := p1 q; omega), pj_cT]
    obtain ⟨z1, z2, z3⟩ := mr_282l H i 32 33 (Int32.ofInt 0) (pj_wa (pj_wa (pj_wv H 171 0 (.int (Int32.ofInt 0))) 200 i.toInt.toNat (vp_nar .boolean (Int32.ofInt 1))) 201 i.toInt.toNat (pj_fi (pj_wa (pj_wv H 171 0 (.int (Int32.ofInt 0))) 200 i.toInt.toNat (vp_nar .boolean (Int32.ofInt 1))) 171 7)) (by omega) (by omega) (by omega) (by omega)
    refine .inl ⟨q, z1, fun k hk => ?_, ?_, ?_, fun j hj => ⟨?_, ?_⟩⟩
    · rw [z2, pj_fi_wa, pj_fi_wa, f0 k hk]
    · rw [z3 200 _ (by decide), pj_ai_wa_ne _ _ _ _ _ _ (by decide), mr_be s0 (a := 200) rfl]
      exact mr_nar1
    · rw [z3 201 _ (by decide), pj_ai_wa_eq s1 rfl, pj_fi_wa, f0 7 (by decide)]
    · rw [z3 200 _ (by decide), pj_ai_wa_ne _ _ _ _ _ _ (by decide), pj_ai_wa_nj _ _ _ _ _ hj, pj_ai_wv]
    · rw [z3 201 _ (by decide), pj_ai_wa_nj _ _ _ _ _ hj, pj_ai_wa_ne _ _ _ _ _ _ (by decide), pj_ai_wv]
  · rw [pj_b0_neF (p2 q), pj_cF]
    exact .inr ⟨q, k0, f0, fun j => ⟨pj_ai_wv _ _ _ _ _ _, pj_ai_wv _ _ _ _ _ _⟩⟩
theorem mr_283s (R0 : pj_G) (i : Int32) (fu : Nat) (v : Int32) (G : pj_G) : L_283x R0 i (fu + 1) v G = cond (pj_c1 .ge v ((Int8.ofInt 32).toInt32)) (Int32.ofInt 1, pj_wv G 171 30 (.int (Int32.ofInt 0))) (L_283x R0 i fu (v + Int32.ofInt 1) (pj_wa G 179 v.toInt.toNat (pj_ai G 202 (((Int8.ofInt 32).toInt32) * i + v).toInt.toNat))) := by
  rw [L_283x_s0]
  simp only [pj_nm_x]
theorem mr_283l (R0 : pj_G) (i : Int32) : ∀ (m fu : Nat) (v : Int32) (G : pj_G), 0 ≤ v.toInt → v.toInt ≤ 32 → 32 - v.toInt ≤ m → m < fu → (L_283x R0 i fu v G).1.toInt = 1 := by
  have k1 : (Int32.ofInt 1).toInt = 1 := by decide
  have k32 : (((Int8.ofInt 32).toInt32)).toInt = 32 := by decide
  intro m
  induction m with
  | zero =>
    intro fu v G h0 h1 hm hf
    obtain ⟨g, rfl⟩ : ∃ q, fu = q + 1 := ⟨fu - 1, by omega⟩
    rw [mr_283s, pj_b_geT (show (((Int8.ofInt 32).toInt32)).toInt ≤ v.toInt by omega), pj_cT]
    exact k1
  | succ m ih =>
    intro fu v G h0 h1 hm hf
    obtain ⟨g, rfl⟩ : ∃ q, fu = q + 1 := ⟨fu - 1, by omega⟩
    rw [mr_283s]
    by_cases q : 32 ≤ v.toInt
    · rw [pj_b_geT (show (((Int8.ofInt 32).toInt32)).toInt ≤ v.toInt by omega), pj_cT]
      exact k1
    · rw [pj_b_geF (show v.toInt < (((Int8.ofInt 32).toInt32)).toInt by omega), pj_cF]
      have s : (v + Int32.ofInt 1).toInt = v.toInt + 1 := by rw [pj_addI (by omega) (by omega), k1]
      exact ih g (v + Int32.ofInt 1) _ (by omega) (by omega) (by omega) (by omega)
/-- again() in the reference: when it answers yes -/
theorem mr_againR (H : pj_G) (i : Int32) : (((0 ≤ i.toInt ∧ i.toInt ≤ 2) ∧ ¬ (pj_ai H 200 i.toInt.toNat).toInt = 0 ∧ (pj_ai H 201 i.toInt.toNat).toInt = (pj_fi H 171 7).toInt) → (F_283x H i).1.toInt = 1) ∧ (¬ ((0 ≤ i.toInt ∧ i.toInt ≤ 2) ∧ ¬ (pj_ai H 200 i.toInt.toNat).toInt = 0 ∧ (pj_ai H 201 i.toInt.toNat).toInt = (pj_fi H 171 7).toInt) → (F_283x H i).1.toInt = 0) := by
  have k0 : (Int32.ofInt 0).toInt = 0 := by decide
  have f7 : pj_fi (pj_wv H 171 0 (.int (Int32.ofInt 0))) 171 7 = pj_fi H 171 7 := pj_fi_wv_ne _ _ _ _ _ _ (by decide)
  have a200 : ∀ j, pj_ai (pj_wv H 171 0 (.int (Int32.ofInt 0))) 200 j = pj_ai H 200 j := fun j => pj_ai_wv _ _ _ _ _ _
  have a201 : ∀ j, pj_ai (pj_wv H 171 0 (.int (Int32.ofInt 0))) 201 j = pj_ai H 201 j := fun j => pj_ai_wv _ _ _ _ _ _
  obtain ⟨p1, p2⟩ := mr_in2 (pj_wv H 171 0 (.int (Int32.ofInt 0))) i
  rw [F_283x_e]
  simp only [pj_nm_x, f7, a200, a201]
  by_cases q : 0 ≤ i.toInt ∧ i.toInt ≤ 2
  · rw [pj_b0_eqF (show ¬ (F_171x (pj_wv H 171 0 (.int (Int32.ofInt 0))) i.toInt64 (Int64.ofNat 0) (Int64.ofInt 2)).toInt = 0 by have := p1 q; omega), pj_cF]
    by_cases q2 : (pj_ai H 200 i.toInt.toNat).toInt = 0
    · rw [pj_b0_eqT q2, pj_cT]
      exact ⟨fun h => absurd q2 h.2.1, fun _ => k0⟩
    · rw [pj_b0_eqF q2, pj_cF]
      by_cases q3 : (pj_ai H 201 i.toInt.toNat).toInt = (pj_fi H 171 7).toInt
      · rw [pj_b_eqT q3, pj_cT]
        exact ⟨fun _ => mr_283l H i 32 33 (Int32.ofInt 0) _ (by omega) (by omega) (by omega) (by omega), fun h => absurd ⟨q, q2, q3⟩ h⟩
      · rw [pj_b_eqF q3, pj_cF]
        exact ⟨fun h => absurd h.2.2 q3, fun _ => k0⟩
  · rw [pj_b0_eqT (p2 q), pj_cT]
    exact ⟨fun h => absurd h.1 q, fun _ => k0⟩
/-! the relation, kept -/
theorem mr_Kk {C R C' R' : pj_G} (h : mr_K C R) (s : ∀ i : Nat, i < 3 → (pj_ai C' 56 i).toInt = (pj_ai C 56 i).toInt ∧ (pj_fi C' (153 + 6 * i) 0).toInt = (pj_fi C (153 + 6 * i) 0).toInt ∧ (pj_fi C' (153 + 6 * i) 5).toInt = (pj_fi C (153 + 6 * i) 5).toInt) (c0 : (pj_fi C' 21 0).toInt = (pj_fi C 21 0).toInt) (c5 : (pj_fi C' 21 5).toInt = (pj_fi C 21 5).toInt) (r : ∀ i : Nat, (pj_ai R' 200 i).toInt = (pj_ai R 200 i).toInt ∧ (pj_ai R' 201 i).toInt = (pj_ai R 201 i).toInt) (r7 : (pj_fi R' 171 7).toInt = (pj_fi R 171 7).toInt) : mr_K C' R' := by
  intro i hi
  obtain ⟨s1, s2, s3⟩ := s i hi
  obtain ⟨r1, r2⟩ := r i
  rw [s1, s2, s3, c0, c5, r1, r2, r7]
  exact h i hi
/-- more came on both sides -/
theorem mr_Km {C R C' R' : pj_G} (h : mr_K C R) (s : ∀ i : Nat, i < 3 → (pj_ai C' 56 i).toInt = (pj_ai C 56 i).toInt ∧ (pj_fi C' (153 + 6 * i) 0).toInt = (pj_fi C (153 + 6 * i) 0).toInt ∧ (pj_fi C' (153 + 6 * i) 5).toInt = (pj_fi C (153 + 6 * i) 5).toInt) (c0 : (pj_fi C 21 0).toInt ≤ (pj_fi C' 21 0).toInt) (c5 : (pj_fi C 21 5).toInt ≤ (pj_fi C' 21 5).toInt) (cc : (pj_fi C 21 0).toInt + (pj_fi C 21 5).toInt < (pj_fi C' 21 0).toInt + (pj_fi C' 21 5).toInt) (r : ∀ i : Nat, (pj_ai R' 200 i).toInt = (pj_ai R 200 i).toInt ∧ (pj_ai R' 201 i).toInt = (pj_ai R 201 i).toInt) (r7 : (pj_fi R' 171 7).toInt = (pj_fi R 171 7).toInt + 1) : mr_K C' R' := by
  intro i hi
  obtain ⟨s1, s2, s3⟩ := s i hi
  obtain ⟨r1, r2⟩ := r i
  obtain ⟨h1, h2, h3⟩ := h i hi
  refine ⟨fun a => ?_, fun a => ?_, fun a b => ?_⟩
  · obtain ⟨x1, x2, x3, x4, x5⟩ := h1 (by omega)
    have y := h2 x1
    exact ⟨by omega, by omega, by omega, fun z => by omega, fun z => by omega⟩
  · have y := h2 (by omega)
    omega
  · have y := h2 (by omega)
    omega
/-- a river anew -/
theorem mr_Kz {C R C' R' : pj_G} (h : mr_K C R) (z : ∀ i, i < 3 → pj_ai C' 56 i = vp_nar .boolean (Int32.ofInt 0)) (r : ∀ i : Nat, (pj_ai R' 200 i).toInt = (pj_ai R 200 i).toInt ∧ (pj_ai R' 201 i).toInt = (pj_ai R 201 i).toInt) (r7 : (pj_fi R' 171 7).toInt = (pj_fi R 171 7).toInt + 1) : mr_K C' R' := by
  intro i hi
  obtain ⟨r1, r2⟩ := r i
  obtain ⟨h1, h2, h3⟩ := h i hi
  have e : (pj_ai C' 56 i).toInt = 0 := by rw [z i hi]; exact mr_nar0
  refine ⟨fun a => absurd e a, fun a => ?_, fun _ a => ?_⟩
  · have y := h2 (by omega)
    omega
  · have y := h2 (by omega)
    omega
/-- kept anew -/
theorem mr_Kn {C C' R R' : pj_G} {i y : Int32} (h : mr_K C R) (kp : mr_kp i C C' y) (c0 : (pj_fi C' 21 0).toInt = (pj_fi C 21 0).toInt) (c5 : (pj_fi C' 21 5).toInt = (pj_fi C 21 5).toInt) (iR : pj_Inv R) (hR : R' = (F_282x R i).2) : y.toInt = (F_282x R i).1.toInt ∧ mr_K C' R' := by
  subst hR
  rcases kp with ⟨k1, k2, k3, k4, k5, k6, k7⟩ | ⟨k1, k2, k3⟩
  · rcases mr_keepR iR i with ⟨q, e1, e2, e3, e4, e5⟩ | ⟨q, _⟩
    · refine ⟨by omega, fun j hj => ?_⟩
      have e7 := e2 7 (by decide)
      by_cases qj : j = i.toInt.toNat
      · subst qj
        rw [e7]
        have f4 : (pj_ai (F_282x R i).2 201 i.toInt.toNat).toInt = (pj_fi R 171 7).toInt := by rw [e4]
        exact ⟨fun _ => ⟨by omega, by omega, by omega, fun _ => ⟨by omega, by omega⟩, fun z => by omega⟩, fun _ => by omega, fun z => by omega⟩
      · obtain ⟨x1, x2, x3⟩ := k7 j hj qj
        obtain ⟨y1, y2⟩ := e5 j qj
        rw [x1, x2, x3, c0, c5, y1, y2, e7]
        exact h j hj
    · exact absurd ⟨k2, k3⟩ q
  · subst k3
    rcases mr_keepR iR i with ⟨q, _⟩ | ⟨q, e1, e2, e3⟩
    · exact absurd q k2
    · exact ⟨by omega, mr_Kk h (fun _ _ => ⟨rfl, rfl, rfl⟩) rfl rfl (fun j => by rw [(e3 j).1, (e3 j).2]; exact ⟨rfl, rfl⟩) (by rw [e2 7 (by decide)])⟩
/-- when again() answers yes -/
theorem mr_Kan {C R : pj_G} (h : mr_K C R) (i y : Int32) (hy : (1 ≤ y.toInt → (0 ≤ i.toInt ∧ i.toInt ≤ 2 ∧ ¬ (pj_ai C 56 i.toInt.toNat).toInt = 0 ∧ ((i.toInt = 0 → (pj_fi C 153 0).toInt = (pj_fi C 21 0).toInt ∧ (pj_fi C 153 5).toInt = (pj_fi C 21 5).toInt) ∧ (i.toInt = 1 → (pj_fi C 159 0).toInt = (pj_fi C 21 0).toInt ∧ (pj_fi C 159 5).toInt = (pj_fi C 21 5).toInt) ∧ (i.toInt = 2 → (pj_fi C 165 0).toInt = (pj_fi C 21 0).toInt ∧ (pj_fi C 165 5).toInt = (pj_fi C 21 5).toInt)))) ∧ (y.toInt = 0 → ¬ (0 ≤ i.toInt ∧ i.toInt ≤ 2 ∧ ¬ (pj_ai C 56 i.toInt.toNat).toInt = 0 ∧ ((i.toInt = 0 → (pj_fi C 153 0).toInt = (pj_fi C 21 0).toInt ∧ (pj_fi C 153 5).toInt = (pj_fi C 21 5).toInt) ∧ (i.toInt = 1 → (pj_fi C 159 0).toInt = (pj_fi C 21 0).toInt ∧ (pj_fi C 159 5).toInt = (pj_fi C 21 5).toInt) ∧ (i.toInt = 2 → (pj_fi C 165 0).toInt = (pj_fi C 21 0).toInt ∧ (pj_fi C 165 5).toInt = (pj_fi C 21 5).toInt))))) (ry : 0 ≤ y.toInt ∧ y.toInt ≤ 1) : y.toInt = (F_283x R i).1.toInt := by
  obtain ⟨p1, p2⟩ := mr_againR R i
  have key : 0 ≤ i.toInt → i.toInt ≤ 2 → (((i.toInt = 0 → (pj_fi C 153 0).toInt = (pj_fi C 21 0).toInt ∧ (pj_fi C 153 5).toInt = (pj_fi C 21 5).toInt) ∧ (i.toInt = 1 → (pj_fi C 159 0).toInt = (pj_fi C 21 0).toInt ∧ (pj_fi C 159 5).toInt = (pj_fi C 21 5).toInt) ∧ (i.toInt = 2 → (pj_fi C 165 0).toInt = (pj_fi C 21 0).toInt ∧ (pj_fi C 165 5).toInt = (pj_fi C 21 5).toInt)) ↔ ((pj_fi C (153 + 6 * i.toInt.toNat) 0).toInt = (pj_fi C 21 0).toInt ∧ (pj_fi C (153 + 6 * i.toInt.toNat) 5).toInt = (pj_fi C 21 5).toInt)) := by
    intro a b
    rcases (show i.toInt = 0 ∨ i.toInt = 1 ∨ i.toInt = 2 by omega) with q | q | q
    · rw [show i.toInt.toNat = 0 by omega]
      exact ⟨fun h => h.1 q, fun h => ⟨fun _ => h, fun z => by omega, fun z => by omega⟩⟩
    · rw [show i.toInt.toNat = 1 by omega]
      exact ⟨fun h => h.2.1 q, fun h => ⟨fun z => by omega, fun _ => h, fun z => by omega⟩⟩
    · rw [show i.toInt.toNat = 2 by omega]
      exact ⟨fun h => h.2.2 q, fun h => ⟨fun z => by omega, fun z => by omega, fun _ => h⟩⟩
  by_cases q : y.toInt = 0
  · rw [q]
    refine (p2 (fun hn => ?_)).symm
    obtain ⟨n1, n2, n3⟩ := hn
    obtain ⟨h1, h2, h3⟩ := h i.toInt.toNat (by omega)
    by_cases z : (pj_ai C 56 i.toInt.toNat).toInt = 0
    · have := h3 z n2
      omega
    · obtain ⟨x1, x2, x3, x4, x5⟩ := h1 z
      have := x4 n3
      exact hy.2 q ⟨n1.1, n1.2, z, (key n1.1 n1.2).mpr this⟩
  · obtain ⟨a1, a2, a3, a6⟩ := hy.1 (by omega)
    obtain ⟨a4, a5⟩ := (key a1 a2).mp a6
    obtain ⟨h1, h2, h3⟩ := h i.toInt.toNat (by omega)
    obtain ⟨x1, x2, x3, x4, x5⟩ := h1 a3
    have y1 := h2 x1
    have e : (pj_ai R 201 i.toInt.toNat).toInt = (pj_fi R 171 7).toInt := by
      by_cases z : (pj_ai R 201 i.toInt.toNat).toInt < (pj_fi R 171 7).toInt
      · have := x5 z
        omega
      · omega
    have := p1 ⟨⟨a1, a2⟩, x1, e⟩
    omega
