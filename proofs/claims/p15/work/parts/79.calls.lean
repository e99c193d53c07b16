def kc_118 : pj_KT := ([(2, 1)], [2], [])
theorem ct_118 (G0 : pj_G) (hI : pj_Inv G0) (n : Int32) : pj_Y 2 118 [.ref 1, .int n] G0 (fun v G' => ∃ y : Int32, v = some (.int y) ∧ pj_Inv G' ∧ pj_kpt kc_118 G0 G' ∧ ((0 : Int) ≤ y.toInt ∧ y.toInt ≤ 1)) := by
  refine pj_Y_X (M := pj_m118) rfl rfl (Nat.le_of_ble_eq_true rfl) ?_
  have hK : pj_kpt kc_118 G0 G0 := pj_kpt_r _ _
  show pj_X _ _ G0 0 [(0, .ref 1), (1, .int n)] [] _
  refine pj_X_of (fun r h => pj_R_to (G0, 1, [(0, .ref 1), (1, .int n)], [.ref 1], 0, 0) 1 2 (fun _ => rfl) h) ?_
  refine pj_X_of (fun r h => pj_T_gr hI rfl rfl rfl h) ?_
  refine pj_X_of (fun r h => pj_R_to (G0, 5, [(0, .ref 1), (1, .int n)], [.int n, .ref 2], 0, 0) 5 2 (fun _ => rfl) h) ?_
  refine pj_X_ca (vs := [.ref 2, .int n]) rfl (fun _ => rfl) ⟨Nat.le_of_ble_eq_true rfl, Nat.le_of_ble_eq_true rfl, pj_T_rcv hI rfl⟩ ⟨rfl, rfl⟩ (pj_Y_up (by decide) (ct_78 G0 hI n)) ?_
  rintro _ G2 ⟨y1, rfl, iG2, jG2, ry1⟩
  have kG2 : pj_kpt kc_118 G0 G2 := pj_kpt_t hK (pj_kpt_s jG2 rfl)
  show pj_X _ _ G2 8 [(0, .ref 1), (1, .int n)] [.int y1] _
  exact pj_X_rt (v := some (.int y1)) rfl (pj_rtb ⟨by omega, by omega⟩) ⟨_, rfl, iG2, kG2, ⟨by omega, by omega⟩⟩
def kc_126 : pj_KT := ([], [24], [24])
theorem ct_126 (G0 : pj_G) (hI : pj_Inv G0) (k : Int32) (n : Int32) (f : Int32) (sp : Int32) : pj_Y 3 126 [.ref 1, .int k, .int n, .int f, .int sp] G0 (fun v G' => ∃ y : Int32, v = some (.int y) ∧ pj_Inv G' ∧ pj_kpt kc_126 G0 G' ∧ ((-2147483648 : Int) ≤ y.toInt ∧ y.toInt ≤ 2147483647)) := by
  have c0_ : ((Int8.ofInt (-2)).toInt32).toInt = -2 := by decide
  have c1_ : ((Int8.ofInt (-3)).toInt32).toInt = -3 := by decide
  have c2_ : ((Int8.ofInt 6).toInt32).toInt = 6 := by decide
  have c3_ : (Int32.ofInt (-1)).toInt = -1 := by decide
  have c4_ : (Int32.ofInt 0).toInt = 0 := by decide
  have c5_ : (Int32.ofInt 3).toInt = 3 := by decide
  refine pj_Y_X (M := pj_m126) rfl rfl (Nat.le_of_ble_eq_true rfl) ?_
  have hK : pj_kpt kc_126 G0 G0 := pj_kpt_r _ _
  show pj_X _ _ G0 0 [(0, .ref 1), (1, .int k), (2, .int n), (3, .int f), (4, .int sp)] [] _
  refine pj_X_of (fun r h => pj_R_to (G0, 1, [(0, .ref 1), (1, .int k), (2, .int n), (3, .int f), (4, .int sp)], [.int k], 0, 0) 1 2 (fun _ => rfl) h) ?_
  cases b1 : pj_c1 .lt k 0 with
  | true =>
    have ub1 := pj_u0_ltT b1
    refine pj_X_of (fun r h => pj_R_ifT 15 rfl rfl b1 h) ?_
    refine pj_X_of (fun r h => pj_R_to (G0, 16, [(0, .ref 1), (1, .int k), (2, .int n), (3, .int f), (4, .int sp)], [.int (Int32.ofInt (-1))], 0, 0) 16 2 (fun _ => rfl) h) ?_
    exact pj_X_rt rfl rfl ⟨_, rfl, hI, hK, pj_i32 _⟩
  | false =>
    have ub1 := pj_u0_ltF b1
    refine pj_X_of (fun r h => pj_R_ifF rfl b1 h) ?_
    refine pj_X_of (fun r h => pj_R_to (G0, 6, [(0, .ref 1), (1, .int k), (2, .int n), (3, .int f), (4, .int sp)], [.int (Int32.ofInt 3), .int k], 0, 0) 6 3 (fun _ => rfl) h) ?_
    cases b2 : pj_c1 .gt k (Int32.ofInt 3) with
    | true =>
      have ub2 := pj_u_gtT b2
      refine pj_X_of (fun r h => pj_R_icT 15 rfl rfl b2 h) ?_
      refine pj_X_of (fun r h => pj_R_to (G0, 16, [(0, .ref 1), (1, .int k), (2, .int n), (3, .int f), (4, .int sp)], [.int (Int32.ofInt (-1))], 0, 0) 16 2 (fun _ => rfl) h) ?_
      exact pj_X_rt rfl rfl ⟨_, rfl, hI, hK, pj_i32 _⟩
    | false =>
      have ub2 := pj_u_gtF b2
      refine pj_X_of (fun r h => pj_R_icF rfl b2 h) ?_
      refine pj_X_of (fun r h => pj_R_to (G0, 12, [(0, .ref 1), (1, .int k), (2, .int n), (3, .int f), (4, .int sp)], [.int ((Int8.ofInt 6).toInt32), .int n], 0, 0) 12 3 (fun _ => rfl) h) ?_
      cases b3 : pj_c1 .le n ((Int8.ofInt 6).toInt32) with
      | true =>
        have ub3 := pj_u_leT b3
        refine pj_X_of (fun r h => pj_R_icT 17 rfl rfl b3 h) ?_
        refine pj_X_of (fun r h => pj_R_to (G0, 19, [(0, .ref 1), (1, .int k), (2, .int n), (3, .int f), (4, .int sp)], [.int (Int32.ofInt 3), .int k], 0, 0) 19 3 (fun _ => rfl) h) ?_
        cases b4 : pj_c1 .ne k (Int32.ofInt 3) with
        | true =>
          have ub4 := pj_u_neT b4
          refine pj_X_of (fun r h => pj_R_icT 37 rfl rfl b4 h) ?_
          refine pj_X_of (fun r h => pj_R_to (G0, 38, [(0, .ref 1), (1, .int k), (2, .int n), (3, .int f), (4, .int sp)], [.int n], 0, 0) 38 2 (fun _ => rfl) h) ?_
          cases b5 : pj_c1 .ge n 0 with
          | true =>
            have ub5 := pj_u0_geT b5
            refine pj_X_of (fun r h => pj_R_ifT 44 rfl rfl b5 h) ?_
            refine pj_X_of (fun r h => pj_R_to (G0, 45, [(0, .ref 1), (1, .int k), (2, .int n), (3, .int f), (4, .int sp)], [.ref 1], 0, 0) 45 2 (fun _ => rfl) h) ?_
            refine pj_X_of (fun r h => pj_T_gr hI rfl rfl rfl h) ?_
            refine pj_X_of (fun r h => pj_R_to (G0, 53, [(0, .ref 1), (1, .int k), (2, .int n), (3, .int f), (4, .int sp)], [.int sp, .int f, .int n, .int k, .ref 6], 0, 0) 53 5 (fun _ => rfl) h) ?_
            refine pj_X_ca (vs := [.ref 6, .int k, .int n, .int f, .int sp]) rfl (fun _ => rfl) ⟨Nat.le_of_ble_eq_true rfl, Nat.le_of_ble_eq_true rfl, pj_T_rcv hI rfl⟩ ⟨rfl, rfl⟩ (pj_Y_up (by decide) (ct_97 G0 hI k n f sp)) ?_
            rintro _ G7 ⟨y6, rfl, iG7, jG7, ry6⟩
            have kG7 : pj_kpt kc_126 G0 G7 := pj_kpt_t hK (pj_kpt_s jG7 rfl)
            show pj_X _ _ G7 56 [(0, .ref 1), (1, .int k), (2, .int n), (3, .int f), (4, .int sp)] [.int y6] _
            exact pj_X_rt rfl rfl ⟨_, rfl, iG7, kG7, pj_i32 _⟩
          | false =>
            have ub5 := pj_u0_geF b5
            refine pj_X_of (fun r h => pj_R_ifF rfl b5 h) ?_
            refine pj_X_of (fun r h => pj_R_to (G0, 43, [(0, .ref 1), (1, .int k), (2, .int n), (3, .int f), (4, .int sp)], [.int ((Int8.ofInt (-2)).toInt32)], 0, 0) 43 2 (fun _ => rfl) h) ?_
            exact pj_X_rt rfl rfl ⟨_, rfl, hI, hK, pj_i32 _⟩
        | false =>
          have ub4 := pj_u_neF b4
          refine pj_X_of (fun r h => pj_R_icF rfl b4 h) ?_
          refine pj_X_of (fun r h => pj_R_to (G0, 23, [(0, .ref 1), (1, .int k), (2, .int n), (3, .int f), (4, .int sp)], [.ref 1], 0, 0) 23 2 (fun _ => rfl) h) ?_
          refine pj_X_of (fun r h => pj_T_gr hI rfl rfl rfl h) ?_
          refine pj_X_of (fun r h => pj_R_to (G0, 30, [(0, .ref 1), (1, .int k), (2, .int n), (3, .int f), (4, .int sp)], [.int (Int32.ofInt 0), .int (Int32.ofInt 0), .int (Int32.ofInt 0), .int k, .ref 6], 0, 0) 30 5 (fun _ => rfl) h) ?_
          refine pj_X_ca (vs := [.ref 6, .int k, .int (Int32.ofInt 0), .int (Int32.ofInt 0), .int (Int32.ofInt 0)]) rfl (fun _ => rfl) ⟨Nat.le_of_ble_eq_true rfl, Nat.le_of_ble_eq_true rfl, pj_T_rcv hI rfl⟩ ⟨rfl, rfl⟩ (pj_Y_up (by decide) (ct_97 G0 hI k (Int32.ofInt 0) (Int32.ofInt 0) (Int32.ofInt 0))) ?_
          rintro _ G9 ⟨y8, rfl, iG9, jG9, ry8⟩
          have kG9 : pj_kpt kc_126 G0 G9 := pj_kpt_t hK (pj_kpt_s jG9 rfl)
          show pj_X _ _ G9 33 [(0, .ref 1), (1, .int k), (2, .int n), (3, .int f), (4, .int sp)] [.int y8] _
          refine pj_X_of (fun r h => pj_R_to (G9, 36, [(0, .ref 1), (1, .int k), (2, .int n), (3, .int f), (4, .int sp)], [.int ((Int8.ofInt (-3)).toInt32)], 0, 0) 36 3 (fun _ => rfl) h) ?_
          exact pj_X_rt rfl rfl ⟨_, rfl, iG9, kG9, pj_i32 _⟩
      | false =>
        have ub3 := pj_u_leF b3
        refine pj_X_of (fun r h => pj_R_icF rfl b3 h) ?_
        refine pj_X_of (fun r h => pj_R_to (G0, 16, [(0, .ref 1), (1, .int k), (2, .int n), (3, .int f), (4, .int sp)], [.int (Int32.ofInt (-1))], 0, 0) 16 2 (fun _ => rfl) h) ?_
        exact pj_X_rt rfl rfl ⟨_, rfl, hI, hK, pj_i32 _⟩
def kc_127x : pj_KT := ([], [30, 33], [30, 33])
noncomputable def F_127x (G0 : pj_G) (b : Int32) (c : Int32) : Int32 × pj_G := pj_bd (F_99x G0 b c) (fun y1 G2 => (y1, G2))
theorem F_127x_e (G0 : pj_G) (b : Int32) (c : Int32) : F_127x G0 b c = pj_bd (F_99x G0 b c) (fun y1 G2 => (y1, G2)) := rfl
theorem ct_127x (G0 : pj_G) (hI : pj_Inv G0) (b : Int32) (c : Int32) : pj_Y 5 127 [.ref 1, .int b, .int c] G0 (fun v' G' => ∃ y : Int32, v' = some (.int y) ∧ pj_Inv G' ∧ pj_kpt kc_127x G0 G' ∧ ((-2147483648 : Int) ≤ y.toInt ∧ y.toInt ≤ 2147483647) ∧ ((y, G') = F_127x G0 b c)) := by
  refine pj_Y_X (M := pj_m127) rfl rfl (Nat.le_of_ble_eq_true rfl) ?_
  have hK : pj_kpt kc_127x G0 G0 := pj_kpt_r _ _
  show pj_X _ _ G0 0 [(0, .ref 1), (1, .int b), (2, .int c)] [] _
  rw [F_127x_e]
  refine pj_X_of (fun r h => pj_R_to (G0, 1, [(0, .ref 1), (1, .int b), (2, .int c)], [.ref 1], 0, 0) 1 2 (fun _ => rfl) h) ?_
  refine pj_X_of (fun r h => pj_T_gr hI rfl rfl rfl h) ?_
  refine pj_X_of (fun r h => pj_R_to (G0, 6, [(0, .ref 1), (1, .int b), (2, .int c)], [.int c, .int b, .ref 6], 0, 0) 6 3 (fun _ => rfl) h) ?_
  refine pj_X_ca (vs := [.ref 6, .int b, .int c]) rfl (fun _ => rfl) ⟨Nat.le_of_ble_eq_true rfl, Nat.le_of_ble_eq_true rfl, pj_T_rcv hI rfl⟩ ⟨rfl, rfl⟩ (pj_Y_up (by decide) (ct_99x G0 hI b c)) ?_
  rintro _ G2 ⟨y1, rfl, iG2, jG2, ry1, ey1, fy1⟩
  rw [← fy1, pj_bd_e]
  have kG2 : pj_kpt kc_127x G0 G2 := pj_kpt_t hK (pj_kpt_s jG2 rfl)
  show pj_X _ _ G2 9 [(0, .ref 1), (1, .int b), (2, .int c)] [.int y1] _
  exact pj_X_rt rfl rfl ⟨_, rfl, iG2, kG2, pj_i32 _, rfl⟩
theorem fr_127x (G0 : pj_G) (hI : pj_Inv G0) (b : Int32) (c : Int32) : pj_Inv (F_127x G0 b c).2 ∧ pj_kpt kc_127x G0 (F_127x G0 b c).2 := by
  obtain ⟨v, G', -, y, -, i, j, r, e⟩ := ct_127x G0 hI b c
  rw [← e]
  exact ⟨i, j⟩
def kc_128 : pj_KT := ([(53, 1), (53, 2), (57, 0), (57, 5), (57, 7), (57, 8), (63, 0), (63, 5), (63, 7), (63, 8), (69, 0), (69, 5), (69, 7), (69, 8), (75, 0), (75, 5), (75, 7), (75, 8), (81, 0), (81, 5), (81, 7), (81, 8), (87, 0), (87, 5), (87, 7), (87, 8), (93, 0), (93, 5), (93, 7), (93, 8), (99, 0), (99, 5), (99, 7), (99, 8), (105, 0), (105, 5), (105, 7), (105, 8), (111, 0), (111, 5), (111, 7), (111, 8), (117, 0), (117, 5), (117, 7), (117, 8), (123, 0), (123, 5), (123, 7), (123, 8), (129, 0), (129, 5), (129, 7), (129, 8), (135, 0), (135, 5), (135, 7), (135, 8), (141, 0), (141, 5), (141, 7), (141, 8), (147, 0), (147, 5), (147, 7), (147, 8)], [22, 23, 30, 33, 53, 57, 58, 59, 60, 61, 62, 63, 64, 65, 66, 67, 68, 69, 70, 71, 72, 73, 74, 75, 76, 77, 78, 79, 80, 81, 82, 83, 84, 85, 86, 87, 88, 89, 90, 91, 92, 93, 94, 95, 96, 97, 98, 99, 100, 101, 102, 103, 104, 105, 106, 107, 108, 109, 110, 111, 112, 113, 114, 115, 116, 117, 118, 119, 120, 121, 122, 123, 124, 125, 126, 127, 128, 129, 130, 131, 132, 133, 134, 135, 136, 137, 138, 139, 140, 141, 142, 143, 144, 145, 146, 147, 148, 149, 150, 151, 152], [22, 23, 30, 33, 58, 59, 60, 61, 62, 64, 65, 66, 67, 68, 70, 71, 72, 73, 74, 76, 77, 78, 79, 80, 82, 83, 84, 85, 86, 88, 89, 90, 91, 92, 94, 95, 96, 97, 98, 100, 101, 102, 103, 104, 106, 107, 108, 109, 110, 112, 113, 114, 115, 116, 118, 119, 120, 121, 122, 124, 125, 126, 127, 128, 130, 131, 132, 133, 134, 136, 137, 138, 139, 140, 142, 143, 144, 145, 146, 148, 149, 150, 151, 152])
theorem ct_128 (G0 : pj_G) (hI : pj_Inv G0) (b : Int32) (c : Int32) : pj_Y 6 128 [.ref 1, .int b, .int c] G0 (fun v G' => ∃ y : Int32, v = some (.int y) ∧ pj_Inv G' ∧ pj_kpt kc_128 G0 G' ∧ ((-2147483648 : Int) ≤ y.toInt ∧ y.toInt ≤ 2147483647)) := by
  have c0_ : (Int32.ofInt 0).toInt = 0 := by decide
  have c1_ : (Int32.ofInt 1).toInt = 1 := by decide
  refine pj_Y_X (M := pj_m128) rfl rfl (Nat.le_of_ble_eq_true rfl) ?_
  have hK : pj_kpt kc_128 G0 G0 := pj_kpt_r _ _
  show pj_X _ _ G0 0 [(0, .ref 1), (1, .int b), (2, .int c)] [] _
  refine pj_X_of (fun r h => pj_R_to (G0, 1, [(0, .ref 1), (1, .int b), (2, .int c)], [.ref 1], 0, 0) 1 2 (fun _ => rfl) h) ?_
  refine pj_X_of (fun r h => pj_T_gr hI rfl rfl rfl h) ?_
  refine pj_X_of (fun r h => pj_R_to (G0, 5, [(0, .ref 1), (1, .int b), (2, .int c)], [.ref 1, .ref 53], 0, 0) 5 2 (fun _ => rfl) h) ?_
  refine pj_X_of (fun r h => pj_T_gr hI rfl rfl rfl h) ?_
  refine pj_X_of (fun r h => pj_T_gr hI rfl rfl rfl h) ?_
  refine pj_X_ca (vs := [.ref 53, .ref 21]) rfl (fun _ => rfl) ⟨Nat.le_of_ble_eq_true rfl, Nat.le_of_ble_eq_true rfl, pj_T_rcv hI rfl⟩ ⟨rfl, rfl⟩ (pj_Y_up (by decide) (ct_33 G0 hI)) ?_
  rintro _ G2 ⟨rfl, iG2, jG2⟩
  have kG2 : pj_kpt kc_128 G0 G2 := pj_kpt_t hK (pj_kpt_s jG2 rfl)
  show pj_X _ _ G2 14 [(0, .ref 1), (1, .int b), (2, .int c)] [] _
  refine pj_X_of (fun r h => pj_R_to (G2, 15, [(0, .ref 1), (1, .int b), (2, .int c)], [.ref 1], 0, 0) 15 2 (fun _ => rfl) h) ?_
  refine pj_X_of (fun r h => pj_T_gr iG2 rfl rfl rfl h) ?_
  refine pj_X_of (fun r h => pj_R_to (G2, 20, [(0, .ref 1), (1, .int b), (2, .int c)], [.int c, .int b, .ref 6], 0, 0) 20 3 (fun _ => rfl) h) ?_
  refine pj_X_ca (vs := [.ref 6, .int b, .int c]) rfl (fun _ => rfl) ⟨Nat.le_of_ble_eq_true rfl, Nat.le_of_ble_eq_true rfl, pj_T_rcv iG2 rfl⟩ ⟨rfl, rfl⟩ (pj_Y_up (by decide) (ct_102x G2 iG2 b c)) ?_
  rintro _ G4 ⟨y3, rfl, iG4, jG4, ry3, fy3⟩
  have kG4 : pj_kpt kc_128 G0 G4 := pj_kpt_t kG2 (pj_kpt_s jG4 rfl)
  show pj_X _ _ G4 23 [(0, .ref 1), (1, .int b), (2, .int c)] [.int y3] _
  refine pj_X_of (fun r h => pj_R_to (G4, 25, [(3, .int y3), (0, .ref 1), (1, .int b), (2, .int c)], [.ref 1], 0, 0) 25 3 (fun _ => rfl) h) ?_
  refine pj_X_of (fun r h => pj_T_gr iG4 rfl rfl rfl h) ?_
  refine pj_X_of (fun r h => pj_R_to (G4, 29, [(3, .int y3), (0, .ref 1), (1, .int b), (2, .int c)], [.int y3, .ref 53], 0, 0) 29 2 (fun _ => rfl) h) ?_
  cases b5 : pj_c1 .lt y3 0 with
  | true =>
    have ub5 := pj_u0_ltT b5
    refine pj_X_of (fun r h => pj_R_ifT 36 rfl rfl b5 h) ?_
    refine pj_X_of (fun r h => pj_R_to (G4, 37, [(3, .int y3), (0, .ref 1), (1, .int b), (2, .int c)], [.int (Int32.ofInt 0), .ref 53], 0, 0) 37 2 (fun _ => rfl) h) ?_
    refine pj_X_ca (vs := [.ref 53, .int (Int32.ofInt 0)]) rfl (fun _ => rfl) ⟨Nat.le_of_ble_eq_true rfl, Nat.le_of_ble_eq_true rfl, pj_T_rcv iG4 rfl⟩ ⟨rfl, rfl⟩ (pj_Y_up (by decide) (ct_34 G4 iG4 (Int32.ofInt 0) ⟨by omega, by omega⟩)) ?_
    rintro _ G7 ⟨rfl, iG7, jG7⟩
    have kG7 : pj_kpt kc_128 G0 G7 := pj_kpt_t kG4 (pj_kpt_s jG7 rfl)
    show pj_X _ _ G7 40 [(3, .int y3), (0, .ref 1), (1, .int b), (2, .int c)] [] _
    refine pj_X_of (fun r h => pj_R_to (G7, 41, [(3, .int y3), (0, .ref 1), (1, .int b), (2, .int c)], [.int y3], 0, 0) 41 2 (fun _ => rfl) h) ?_
    exact pj_X_rt rfl rfl ⟨_, rfl, iG7, kG7, pj_i32 _⟩
  | false =>
    have ub5 := pj_u0_ltF b5
    refine pj_X_of (fun r h => pj_R_ifF rfl b5 h) ?_
    refine pj_X_of (fun r h => pj_R_to (G4, 37, [(3, .int y3), (0, .ref 1), (1, .int b), (2, .int c)], [.int (Int32.ofInt 1), .ref 53], 0, 0) 37 3 (fun _ => rfl) h) ?_
    refine pj_X_ca (vs := [.ref 53, .int (Int32.ofInt 1)]) rfl (fun _ => rfl) ⟨Nat.le_of_ble_eq_true rfl, Nat.le_of_ble_eq_true rfl, pj_T_rcv iG4 rfl⟩ ⟨rfl, rfl⟩ (pj_Y_up (by decide) (ct_34 G4 iG4 (Int32.ofInt 1) ⟨by omega, by omega⟩)) ?_
    rintro _ G9 ⟨rfl, iG9, jG9⟩
    have kG9 : pj_kpt kc_128 G0 G9 := pj_kpt_t kG4 (pj_kpt_s jG9 rfl)
    show pj_X _ _ G9 40 [(3, .int y3), (0, .ref 1), (1, .int b), (2, .int c)] [] _
    refine pj_X_of (fun r h => pj_R_to (G9, 41, [(3, .int y3), (0, .ref 1), (1, .int b), (2, .int c)], [.int y3], 0, 0) 41 2 (fun _ => rfl) h) ?_
    exact pj_X_rt rfl rfl ⟨_, rfl, iG9, kG9, pj_i32 _⟩
def kc_129 : pj_KT := ([(53, 1), (53, 2), (57, 0), (57, 5), (57, 7), (57, 8), (63, 0), (63, 5), (63, 7), (63, 8), (69, 0), (69, 5), (69, 7), (69, 8), (75, 0), (75, 5), (75, 7), (75, 8), (81, 0), (81, 5), (81, 7), (81, 8), (87, 0), (87, 5), (87, 7), (87, 8), (93, 0), (93, 5), (93, 7), (93, 8), (99, 0), (99, 5), (99, 7), (99, 8), (105, 0), (105, 5), (105, 7), (105, 8), (111, 0), (111, 5), (111, 7), (111, 8), (117, 0), (117, 5), (117, 7), (117, 8), (123, 0), (123, 5), (123, 7), (123, 8), (129, 0), (129, 5), (129, 7), (129, 8), (135, 0), (135, 5), (135, 7), (135, 8), (141, 0), (141, 5), (141, 7), (141, 8), (147, 0), (147, 5), (147, 7), (147, 8)], [25, 53, 57, 58, 59, 60, 61, 62, 63, 64, 65, 66, 67, 68, 69, 70, 71, 72, 73, 74, 75, 76, 77, 78, 79, 80, 81, 82, 83, 84, 85, 86, 87, 88, 89, 90, 91, 92, 93, 94, 95, 96, 97, 98, 99, 100, 101, 102, 103, 104, 105, 106, 107, 108, 109, 110, 111, 112, 113, 114, 115, 116, 117, 118, 119, 120, 121, 122, 123, 124, 125, 126, 127, 128, 129, 130, 131, 132, 133, 134, 135, 136, 137, 138, 139, 140, 141, 142, 143, 144, 145, 146, 147, 148, 149, 150, 151, 152], [25, 58, 59, 60, 61, 62, 64, 65, 66, 67, 68, 70, 71, 72, 73, 74, 76, 77, 78, 79, 80, 82, 83, 84, 85, 86, 88, 89, 90, 91, 92, 94, 95, 96, 97, 98, 100, 101, 102, 103, 104, 106, 107, 108, 109, 110, 112, 113, 114, 115, 116, 118, 119, 120, 121, 122, 124, 125, 126, 127, 128, 130, 131, 132, 133, 134, 136, 137, 138, 139, 140, 142, 143, 144, 145, 146, 148, 149, 150, 151, 152])
theorem ct_129 (G0 : pj_G) (hI : pj_Inv G0) (b : Int32) (hr : Int32) : pj_Y 5 129 [.ref 1, .int b, .int hr] G0 (fun v G' => ∃ y : Int32, v = some (.int y) ∧ pj_Inv G' ∧ pj_kpt kc_129 G0 G' ∧ ((-2147483648 : Int) ≤ y.toInt ∧ y.toInt ≤ 2147483647)) := by
  have c0_ : (Int32.ofInt (-1)).toInt = -1 := by decide
  have c1_ : (Int32.ofInt 0).toInt = 0 := by decide
  have c2_ : (Int32.ofInt 1).toInt = 1 := by decide
  refine pj_Y_X (M := pj_m129) rfl rfl (Nat.le_of_ble_eq_true rfl) ?_
  have hK : pj_kpt kc_129 G0 G0 := pj_kpt_r _ _
  show pj_X _ _ G0 0 [(0, .ref 1), (1, .int b), (2, .int hr)] [] _
  refine pj_X_of (fun r h => pj_R_to (G0, 1, [(0, .ref 1), (1, .int b), (2, .int hr)], [.ref 1], 0, 0) 1 2 (fun _ => rfl) h) ?_
  refine pj_X_of (fun r h => pj_T_gr hI rfl rfl rfl h) ?_
  refine pj_X_of (fun r h => pj_R_to (G0, 5, [(0, .ref 1), (1, .int b), (2, .int hr)], [.ref 1, .ref 53], 0, 0) 5 2 (fun _ => rfl) h) ?_
  refine pj_X_of (fun r h => pj_T_gr hI rfl rfl rfl h) ?_
  refine pj_X_of (fun r h => pj_T_gr hI rfl rfl rfl h) ?_
  refine pj_X_ca (vs := [.ref 53, .ref 21]) rfl (fun _ => rfl) ⟨Nat.le_of_ble_eq_true rfl, Nat.le_of_ble_eq_true rfl, pj_T_rcv hI rfl⟩ ⟨rfl, rfl⟩ (pj_Y_up (by decide) (ct_33 G0 hI)) ?_
  rintro _ G2 ⟨rfl, iG2, jG2⟩
  have kG2 : pj_kpt kc_129 G0 G2 := pj_kpt_t hK (pj_kpt_s jG2 rfl)
  show pj_X _ _ G2 14 [(0, .ref 1), (1, .int b), (2, .int hr)] [] _
  refine pj_X_of (fun r h => pj_R_to (G2, 15, [(0, .ref 1), (1, .int b), (2, .int hr)], [.ref 1], 0, 0) 15 2 (fun _ => rfl) h) ?_
  refine pj_X_of (fun r h => pj_T_gr iG2 rfl rfl rfl h) ?_
  refine pj_X_of (fun r h => pj_R_to (G2, 20, [(0, .ref 1), (1, .int b), (2, .int hr)], [.int hr, .int b, .ref 6], 0, 0) 20 3 (fun _ => rfl) h) ?_
  refine pj_X_ca (vs := [.ref 6, .int b, .int hr]) rfl (fun _ => rfl) ⟨Nat.le_of_ble_eq_true rfl, Nat.le_of_ble_eq_true rfl, pj_T_rcv iG2 rfl⟩ ⟨rfl, rfl⟩ (pj_Y_up (by decide) (ct_103x G2 iG2 b hr)) ?_
  rintro _ G4 ⟨y3, rfl, iG4, jG4, ry3, fy3⟩
  have kG4 : pj_kpt kc_129 G0 G4 := pj_kpt_t kG2 (pj_kpt_s jG4 rfl)
  show pj_X _ _ G4 23 [(0, .ref 1), (1, .int b), (2, .int hr)] [.int y3] _
  refine pj_X_of (fun r h => pj_R_to (G4, 25, [(3, .int y3), (0, .ref 1), (1, .int b), (2, .int hr)], [.ref 1], 0, 0) 25 3 (fun _ => rfl) h) ?_
  refine pj_X_of (fun r h => pj_T_gr iG4 rfl rfl rfl h) ?_
  refine pj_X_of (fun r h => pj_R_to (G4, 30, [(3, .int y3), (0, .ref 1), (1, .int b), (2, .int hr)], [.int (Int32.ofInt (-1)), .int y3, .ref 53], 0, 0) 30 3 (fun _ => rfl) h) ?_
  cases b5 : pj_c1 .lt y3 (Int32.ofInt (-1)) with
  | true =>
    have ub5 := pj_u_ltT b5
    refine pj_X_of (fun r h => pj_R_icT 37 rfl rfl b5 h) ?_
    refine pj_X_of (fun r h => pj_R_to (G4, 38, [(3, .int y3), (0, .ref 1), (1, .int b), (2, .int hr)], [.int (Int32.ofInt 0), .ref 53], 0, 0) 38 2 (fun _ => rfl) h) ?_
    refine pj_X_ca (vs := [.ref 53, .int (Int32.ofInt 0)]) rfl (fun _ => rfl) ⟨Nat.le_of_ble_eq_true rfl, Nat.le_of_ble_eq_true rfl, pj_T_rcv iG4 rfl⟩ ⟨rfl, rfl⟩ (pj_Y_up (by decide) (ct_34 G4 iG4 (Int32.ofInt 0) ⟨by omega, by omega⟩)) ?_
    rintro _ G7 ⟨rfl, iG7, jG7⟩
    have kG7 : pj_kpt kc_129 G0 G7 := pj_kpt_t kG4 (pj_kpt_s jG7 rfl)
    show pj_X _ _ G7 41 [(3, .int y3), (0, .ref 1), (1, .int b), (2, .int hr)] [] _
    refine pj_X_of (fun r h => pj_R_to (G7, 42, [(3, .int y3), (0, .ref 1), (1, .int b), (2, .int hr)], [.int y3], 0, 0) 42 2 (fun _ => rfl) h) ?_
    exact pj_X_rt rfl rfl ⟨_, rfl, iG7, kG7, pj_i32 _⟩
  | false =>
    have ub5 := pj_u_ltF b5
    refine pj_X_of (fun r h => pj_R_icF rfl b5 h) ?_
    refine pj_X_of (fun r h => pj_R_to (G4, 38, [(3, .int y3), (0, .ref 1), (1, .int b), (2, .int hr)], [.int (Int32.ofInt 1), .ref 53], 0, 0) 38 3 (fun _ => rfl) h) ?_
    refine pj_X_ca (vs := [.ref 53, .int (Int32.ofInt 1)]) rfl (fun _ => rfl) ⟨Nat.le_of_ble_eq_true rfl, Nat.le_of_ble_eq_true rfl, pj_T_rcv iG4 rfl⟩ ⟨rfl, rfl⟩ (pj_Y_up (by decide) (ct_34 G4 iG4 (Int32.ofInt 1) ⟨by omega, by omega⟩)) ?_
    rintro _ G9 ⟨rfl, iG9, jG9⟩
    have kG9 : pj_kpt kc_129 G0 G9 := pj_kpt_t kG4 (pj_kpt_s jG9 rfl)
    show pj_X _ _ G9 41 [(3, .int y3), (0, .ref 1), (1, .int b), (2, .int hr)] [] _
    refine pj_X_of (fun r h => pj_R_to (G9, 42, [(3, .int y3), (0, .ref 1), (1, .int b), (2, .int hr)], [.int y3], 0, 0) 42 2 (fun _ => rfl) h) ?_
    exact pj_X_rt rfl rfl ⟨_, rfl, iG9, kG9, pj_i32 _⟩
def kc_130 : pj_KT := ([(53, 1), (53, 2), (57, 0), (57, 5), (57, 7), (57, 8), (63, 0), (63, 5), (63, 7), (63, 8), (69, 0), (69, 5), (69, 7), (69, 8), (75, 0), (75, 5), (75, 7), (75, 8), (81, 0), (81, 5), (81, 7), (81, 8), (87, 0), (87, 5), (87, 7), (87, 8), (93, 0), (93, 5), (93, 7), (93, 8), (99, 0), (99, 5), (99, 7), (99, 8), (105, 0), (105, 5), (105, 7), (105, 8), (111, 0), (111, 5), (111, 7), (111, 8), (117, 0), (117, 5), (117, 7), (117, 8), (123, 0), (123, 5), (123, 7), (123, 8), (129, 0), (129, 5), (129, 7), (129, 8), (135, 0), (135, 5), (135, 7), (135, 8), (141, 0), (141, 5), (141, 7), (141, 8), (147, 0), (147, 5), (147, 7), (147, 8)], [24, 26, 53, 57, 58, 59, 60, 61, 62, 63, 64, 65, 66, 67, 68, 69, 70, 71, 72, 73, 74, 75, 76, 77, 78, 79, 80, 81, 82, 83, 84, 85, 86, 87, 88, 89, 90, 91, 92, 93, 94, 95, 96, 97, 98, 99, 100, 101, 102, 103, 104, 105, 106, 107, 108, 109, 110, 111, 112, 113, 114, 115, 116, 117, 118, 119, 120, 121, 122, 123, 124, 125, 126, 127, 128, 129, 130, 131, 132, 133, 134, 135, 136, 137, 138, 139, 140, 141, 142, 143, 144, 145, 146, 147, 148, 149, 150, 151, 152], [24, 26, 58, 59, 60, 61, 62, 64, 65, 66, 67, 68, 70, 71, 72, 73, 74, 76, 77, 78, 79, 80, 82, 83, 84, 85, 86, 88, 89, 90, 91, 92, 94, 95, 96, 97, 98, 100, 101, 102, 103, 104, 106, 107, 108, 109, 110, 112, 113, 114, 115, 116, 118, 119, 120, 121, 122, 124, 125, 126, 127, 128, 130, 131, 132, 133, 134, 136, 137, 138, 139, 140, 142, 143, 144, 145, 146, 148, 149, 150, 151, 152])
theorem ct_130 (G0 : pj_G) (hI : pj_Inv G0) (p : Int32) (c : Int32) : pj_Y 5 130 [.ref 1, .int p, .int c] G0 (fun v G' => ∃ y : Int32, v = some (.int y) ∧ pj_Inv G' ∧ pj_kpt kc_130 G0 G' ∧ ((-2147483648 : Int) ≤ y.toInt ∧ y.toInt ≤ 2147483647)) := by
  have c0_ : (Int32.ofInt 0).toInt = 0 := by decide
  have c1_ : (Int32.ofInt 1).toInt = 1 := by decide
  refine pj_Y_X (M := pj_m130) rfl rfl (Nat.le_of_ble_eq_true rfl) ?_
  have hK : pj_kpt kc_130 G0 G0 := pj_kpt_r _ _
  show pj_X _ _ G0 0 [(0, .ref 1), (1, .int p), (2, .int c)] [] _
  refine pj_X_of (fun r h => pj_R_to (G0, 1, [(0, .ref 1), (1, .int p), (2, .int c)], [.ref 1], 0, 0) 1 2 (fun _ => rfl) h) ?_
  refine pj_X_of (fun r h => pj_T_gr hI rfl rfl rfl h) ?_
  refine pj_X_of (fun r h => pj_R_to (G0, 5, [(0, .ref 1), (1, .int p), (2, .int c)], [.ref 1, .ref 53], 0, 0) 5 2 (fun _ => rfl) h) ?_
  refine pj_X_of (fun r h => pj_T_gr hI rfl rfl rfl h) ?_
  refine pj_X_of (fun r h => pj_T_gr hI rfl rfl rfl h) ?_
  refine pj_X_ca (vs := [.ref 53, .ref 21]) rfl (fun _ => rfl) ⟨Nat.le_of_ble_eq_true rfl, Nat.le_of_ble_eq_true rfl, pj_T_rcv hI rfl⟩ ⟨rfl, rfl⟩ (pj_Y_up (by decide) (ct_33 G0 hI)) ?_
  rintro _ G2 ⟨rfl, iG2, jG2⟩
  have kG2 : pj_kpt kc_130 G0 G2 := pj_kpt_t hK (pj_kpt_s jG2 rfl)
  show pj_X _ _ G2 14 [(0, .ref 1), (1, .int p), (2, .int c)] [] _
  refine pj_X_of (fun r h => pj_R_to (G2, 15, [(0, .ref 1), (1, .int p), (2, .int c)], [.ref 1], 0, 0) 15 2 (fun _ => rfl) h) ?_
  refine pj_X_of (fun r h => pj_T_gr iG2 rfl rfl rfl h) ?_
  refine pj_X_of (fun r h => pj_R_to (G2, 20, [(0, .ref 1), (1, .int p), (2, .int c)], [.int c, .int p, .ref 6], 0, 0) 20 3 (fun _ => rfl) h) ?_
  refine pj_X_ca (vs := [.ref 6, .int p, .int c]) rfl (fun _ => rfl) ⟨Nat.le_of_ble_eq_true rfl, Nat.le_of_ble_eq_true rfl, pj_T_rcv iG2 rfl⟩ ⟨rfl, rfl⟩ (pj_Y_up (by decide) (ct_104x G2 iG2 p c)) ?_
  rintro _ G4 ⟨y3, rfl, iG4, jG4, ry3, fy3⟩
  have kG4 : pj_kpt kc_130 G0 G4 := pj_kpt_t kG2 (pj_kpt_s jG4 rfl)
  show pj_X _ _ G4 23 [(0, .ref 1), (1, .int p), (2, .int c)] [.int y3] _
  refine pj_X_of (fun r h => pj_R_to (G4, 25, [(3, .int y3), (0, .ref 1), (1, .int p), (2, .int c)], [.ref 1], 0, 0) 25 3 (fun _ => rfl) h) ?_
  refine pj_X_of (fun r h => pj_T_gr iG4 rfl rfl rfl h) ?_
  refine pj_X_of (fun r h => pj_R_to (G4, 29, [(3, .int y3), (0, .ref 1), (1, .int p), (2, .int c)], [.int y3, .ref 53], 0, 0) 29 2 (fun _ => rfl) h) ?_
  cases b5 : pj_c1 .lt y3 0 with
  | true =>
    have ub5 := pj_u0_ltT b5
    refine pj_X_of (fun r h => pj_R_ifT 36 rfl rfl b5 h) ?_
    refine pj_X_of (fun r h => pj_R_to (G4, 37, [(3, .int y3), (0, .ref 1), (1, .int p), (2, .int c)], [.int (Int32.ofInt 0), .ref 53], 0, 0) 37 2 (fun _ => rfl) h) ?_
    refine pj_X_ca (vs := [.ref 53, .int (Int32.ofInt 0)]) rfl (fun _ => rfl) ⟨Nat.le_of_ble_eq_true rfl, Nat.le_of_ble_eq_true rfl, pj_T_rcv iG4 rfl⟩ ⟨rfl, rfl⟩ (pj_Y_up (by decide) (ct_34 G4 iG4 (Int32.ofInt 0) ⟨by omega, by omega⟩)) ?_
    rintro _ G7 ⟨rfl, iG7, jG7⟩
    have kG7 : pj_kpt kc_130 G0 G7 := pj_kpt_t kG4 (pj_kpt_s jG7 rfl)
    show pj_X _ _ G7 40 [(3, .int y3), (0, .ref 1), (1, .int p), (2, .int c)] [] _
    refine pj_X_of (fun r h => pj_R_to (G7, 41, [(3, .int y3), (0, .ref 1), (1, .int p), (2, .int c)], [.int y3], 0, 0) 41 2 (fun _ => rfl) h) ?_
    exact pj_X_rt rfl rfl ⟨_, rfl, iG7, kG7, pj_i32 _⟩
  | false =>
    have ub5 := pj_u0_ltF b5
    refine pj_X_of (fun r h => pj_R_ifF rfl b5 h) ?_
    refine pj_X_of (fun r h => pj_R_to (G4, 37, [(3, .int y3), (0, .ref 1), (1, .int p), (2, .int c)], [.int (Int32.ofInt 1), .ref 53], 0, 0) 37 3 (fun _ => rfl) h) ?_
    refine pj_X_ca (vs := [.ref 53, .int (Int32.ofInt 1)]) rfl (fun _ => rfl) ⟨Nat.le_of_ble_eq_true rfl, Nat.le_of_ble_eq_true rfl, pj_T_rcv iG4 rfl⟩ ⟨rfl, rfl⟩ (pj_Y_up (by decide) (ct_34 G4 iG4 (Int32.ofInt 1) ⟨by omega, by omega⟩)) ?_
    rintro _ G9 ⟨rfl, iG9, jG9⟩
    have kG9 : pj_kpt kc_130 G0 G9 := pj_kpt_t kG4 (pj_kpt_s jG9 rfl)
    show pj_X _ _ G9 40 [(3, .int y3), (0, .ref 1), (1, .int p), (2, .int c)] [] _
    refine pj_X_of (fun r h => pj_R_to (G9, 41, [(3, .int y3), (0, .ref 1), (1, .int p), (2, .int c)], [.int y3], 0, 0) 41 2 (fun _ => rfl) h) ?_
    exact pj_X_rt rfl rfl ⟨_, rfl, iG9, kG9, pj_i32 _⟩
def kc_131 : pj_KT := ([(4, 1), (6, 7), (6, 8), (21, 7), (21, 8), (53, 1), (53, 2), (57, 0), (57, 5), (57, 7), (57, 8), (63, 0), (63, 5), (63, 7), (63, 8), (69, 0), (69, 5), (69, 7), (69, 8), (75, 0), (75, 5), (75, 7), (75, 8), (81, 0), (81, 5), (81, 7), (81, 8), (87, 0), (87, 5), (87, 7), (87, 8), (93, 0), (93, 5), (93, 7), (93, 8), (99, 0), (99, 5), (99, 7), (99, 8), (105, 0), (105, 5), (105, 7), (105, 8), (111, 0), (111, 5), (111, 7), (111, 8), (117, 0), (117, 5), (117, 7), (117, 8), (123, 0), (123, 5), (123, 7), (123, 8), (129, 0), (129, 5), (129, 7), (129, 8), (135, 0), (135, 5), (135, 7), (135, 8), (141, 0), (141, 5), (141, 7), (141, 8), (147, 0), (147, 5), (147, 7), (147, 8)], [4, 5, 6, 21, 23, 25, 53, 57, 58, 59, 60, 61, 62, 63, 64, 65, 66, 67, 68, 69, 70, 71, 72, 73, 74, 75, 76, 77, 78, 79, 80, 81, 82, 83, 84, 85, 86, 87, 88, 89, 90, 91, 92, 93, 94, 95, 96, 97, 98, 99, 100, 101, 102, 103, 104, 105, 106, 107, 108, 109, 110, 111, 112, 113, 114, 115, 116, 117, 118, 119, 120, 121, 122, 123, 124, 125, 126, 127, 128, 129, 130, 131, 132, 133, 134, 135, 136, 137, 138, 139, 140, 141, 142, 143, 144, 145, 146, 147, 148, 149, 150, 151, 152], [23, 25, 58, 59, 60, 61, 62, 64, 65, 66, 67, 68, 70, 71, 72, 73, 74, 76, 77, 78, 79, 80, 82, 83, 84, 85, 86, 88, 89, 90, 91, 92, 94, 95, 96, 97, 98, 100, 101, 102, 103, 104, 106, 107, 108, 109, 110, 112, 113, 114, 115, 116, 118, 119, 120, 121, 122, 124, 125, 126, 127, 128, 130, 131, 132, 133, 134, 136, 137, 138, 139, 140, 142, 143, 144, 145, 146, 148, 149, 150, 151, 152])
theorem ct_131 (G0 : pj_G) (hI : pj_Inv G0) (n : Int32) : pj_Y 5 131 [.ref 1, .int n] G0 (fun v G' => ∃ y : Int32, v = some (.int y) ∧ pj_Inv G' ∧ pj_kpt kc_131 G0 G' ∧ ((-2147483648 : Int) ≤ y.toInt ∧ y.toInt ≤ 2147483647)) := by
  have c0_ : ((Int8.ofInt 99).toInt32).toInt = 99 := by decide
  have c1_ : (Int32.ofInt (-1)).toInt = -1 := by decide
  have c2_ : (Int32.ofInt 1).toInt = 1 := by decide
  refine pj_Y_X (M := pj_m131) rfl rfl (Nat.le_of_ble_eq_true rfl) ?_
  have hK : pj_kpt kc_131 G0 G0 := pj_kpt_r _ _
  show pj_X _ _ G0 0 [(0, .ref 1), (1, .int n)] [] _
  refine pj_X_of (fun r h => pj_R_to (G0, 1, [(0, .ref 1), (1, .int n)], [.int n], 0, 0) 1 2 (fun _ => rfl) h) ?_
  cases b1 : pj_c1 .lt n 0 with
  | true =>
    have ub1 := pj_u0_ltT b1
    refine pj_X_of (fun r h => pj_R_ifT 10 rfl rfl b1 h) ?_
    refine pj_X_of (fun r h => pj_R_to (G0, 11, [(0, .ref 1), (1, .int n)], [.int (Int32.ofInt (-1))], 0, 0) 11 2 (fun _ => rfl) h) ?_
    exact pj_X_rt rfl rfl ⟨_, rfl, hI, hK, pj_i32 _⟩
  | false =>
    have ub1 := pj_u0_ltF b1
    refine pj_X_of (fun r h => pj_R_ifF rfl b1 h) ?_
    refine pj_X_of (fun r h => pj_R_to (G0, 7, [(0, .ref 1), (1, .int n)], [.int ((Int8.ofInt 99).toInt32), .int n], 0, 0) 7 3 (fun _ => rfl) h) ?_
    cases b2 : pj_c1 .le n ((Int8.ofInt 99).toInt32) with
    | true =>
      have ub2 := pj_u_leT b2
      refine pj_X_of (fun r h => pj_R_icT 12 rfl rfl b2 h) ?_
      refine pj_X_of (fun r h => pj_R_to (G0, 13, [(0, .ref 1), (1, .int n)], [.ref 1], 0, 0) 13 2 (fun _ => rfl) h) ?_
      refine pj_X_of (fun r h => pj_T_gr hI rfl rfl rfl h) ?_
      refine pj_X_of (fun r h => pj_R_to (G0, 17, [(0, .ref 1), (1, .int n)], [.ref 1, .ref 53], 0, 0) 17 2 (fun _ => rfl) h) ?_
      refine pj_X_of (fun r h => pj_T_gr hI rfl rfl rfl h) ?_
      refine pj_X_of (fun r h => pj_T_gr hI rfl rfl rfl h) ?_
      refine pj_X_ca (vs := [.ref 53, .ref 21]) rfl (fun _ => rfl) ⟨Nat.le_of_ble_eq_true rfl, Nat.le_of_ble_eq_true rfl, pj_T_rcv hI rfl⟩ ⟨rfl, rfl⟩ (pj_Y_up (by decide) (ct_33 G0 hI)) ?_
      rintro _ G4 ⟨rfl, iG4, jG4⟩
      have kG4 : pj_kpt kc_131 G0 G4 := pj_kpt_t hK (pj_kpt_s jG4 rfl)
      show pj_X _ _ G4 26 [(0, .ref 1), (1, .int n)] [] _
      refine pj_X_of (fun r h => pj_R_to (G4, 27, [(0, .ref 1), (1, .int n)], [.ref 1], 0, 0) 27 2 (fun _ => rfl) h) ?_
      refine pj_X_of (fun r h => pj_T_gr iG4 rfl rfl rfl h) ?_
      refine pj_X_of (fun r h => pj_R_to (G4, 31, [(0, .ref 1), (1, .int n)], [.int n, .ref 6], 0, 0) 31 2 (fun _ => rfl) h) ?_
      refine pj_X_ca (vs := [.ref 6, .int n]) rfl (fun _ => rfl) ⟨Nat.le_of_ble_eq_true rfl, Nat.le_of_ble_eq_true rfl, pj_T_rcv iG4 rfl⟩ ⟨rfl, rfl⟩ (pj_Y_up (by decide) (ct_105x G4 iG4 n ⟨by omega, by omega⟩)) ?_
      rintro _ G6 ⟨rfl, iG6, jG6, fy5⟩
      have kG6 : pj_kpt kc_131 G0 G6 := pj_kpt_t kG4 (pj_kpt_s jG6 rfl)
      show pj_X _ _ G6 34 [(0, .ref 1), (1, .int n)] [] _
      refine pj_X_of (fun r h => pj_R_to (G6, 35, [(0, .ref 1), (1, .int n)], [.ref 1], 0, 0) 35 2 (fun _ => rfl) h) ?_
      refine pj_X_of (fun r h => pj_T_gr iG6 rfl rfl rfl h) ?_
      refine pj_X_of (fun r h => pj_R_to (G6, 39, [(0, .ref 1), (1, .int n)], [.int (Int32.ofInt 1), .ref 53], 0, 0) 39 2 (fun _ => rfl) h) ?_
      refine pj_X_ca (vs := [.ref 53, .int (Int32.ofInt 1)]) rfl (fun _ => rfl) ⟨Nat.le_of_ble_eq_true rfl, Nat.le_of_ble_eq_true rfl, pj_T_rcv iG6 rfl⟩ ⟨rfl, rfl⟩ (pj_Y_up (by decide) (ct_34 G6 iG6 (Int32.ofInt 1) ⟨by omega, by omega⟩)) ?_
      rintro _ G8 ⟨rfl, iG8, jG8⟩
      have kG8 : pj_kpt kc_131 G0 G8 := pj_kpt_t kG6 (pj_kpt_s jG8 rfl)
      show pj_X _ _ G8 42 [(0, .ref 1), (1, .int n)] [] _
      refine pj_X_of (fun r h => pj_R_to (G8, 43, [(0, .ref 1), (1, .int n)], [.ref 1], 0, 0) 43 2 (fun _ => rfl) h) ?_
      refine pj_X_of (fun r h => pj_T_gr iG8 rfl rfl rfl h) ?_
      refine pj_X_of (fun r h => pj_R_to (G8, 47, [(0, .ref 1), (1, .int n)], [.ref 1, .ref 4], 0, 0) 47 2 (fun _ => rfl) h) ?_
      refine pj_X_of (fun r h => pj_T_gr iG8 rfl rfl rfl h) ?_
      refine pj_X_of (fun r h => pj_T_gi iG8 rfl rfl h) ?_
      show pj_X _ _ G8 53 [(0, .ref 1), (1, .int n)] [.int (pj_fi G8 6 7), .ref 4] _
      obtain ⟨y9, hy9⟩ : ∃ z : Int32, z = pj_fi G8 6 7 := ⟨_, rfl⟩
      rw [← hy9]
      have ey9 : (pj_fi G8 6 7).toInt = y9.toInt := by rw [hy9]
      refine pj_X_of (fun r h => pj_R_to (G8, 55, [(0, .ref 1), (1, .int n)], [.ref 1, .long y9.toInt64, .ref 4], 0, 0) 55 3 (fun _ => rfl) h) ?_
      refine pj_X_of (fun r h => pj_T_gr iG8 rfl rfl rfl h) ?_
      refine pj_X_of (fun r h => pj_T_gi iG8 rfl rfl h) ?_
      show pj_X _ _ G8 61 [(0, .ref 1), (1, .int n)] [.int (pj_fi G8 6 8), .long y9.toInt64, .ref 4] _
      obtain ⟨y10, hy10⟩ : ∃ z : Int32, z = pj_fi G8 6 8 := ⟨_, rfl⟩
      rw [← hy10]
      have ey10 : (pj_fi G8 6 8).toInt = y10.toInt := by rw [hy10]
      refine pj_X_of (fun r h => pj_R_to (G8, 62, [(0, .ref 1), (1, .int n)], [.long y10.toInt64, .long y9.toInt64, .ref 4], 0, 0) 62 2 (fun _ => rfl) h) ?_
      have lc11 : (y9.toInt64).toInt = y9.toInt := Int32.toInt_toInt64 _
      have lc12 : (y10.toInt64).toInt = y10.toInt := Int32.toInt_toInt64 _
      refine pj_X_ca (vs := [.ref 4, .long y9.toInt64, .long y10.toInt64]) rfl (fun _ => rfl) ⟨Nat.le_of_ble_eq_true rfl, Nat.le_of_ble_eq_true rfl, pj_T_rcv iG8 rfl⟩ ⟨rfl, rfl⟩ (pj_Y_up (by decide) (ct_56x G8 iG8 y9.toInt64 y10.toInt64)) ?_
      rintro _ G14 ⟨rfl, iG14, jG14, fy13⟩
      have kG14 : pj_kpt kc_131 G0 G14 := pj_kpt_t kG8 (pj_kpt_s jG14 rfl)
      show pj_X _ _ G14 65 [(0, .ref 1), (1, .int n)] [] _
      refine pj_X_of (fun r h => pj_R_to (G14, 66, [(0, .ref 1), (1, .int n)], [.ref 1], 0, 0) 66 2 (fun _ => rfl) h) ?_
      refine pj_X_of (fun r h => pj_T_gr iG14 rfl rfl rfl h) ?_
      refine pj_X_of (fun r h => pj_T_gr iG14 rfl rfl rfl h) ?_
      refine pj_X_of (fun r h => pj_T_gi iG14 rfl rfl h) ?_
      show pj_X _ _ G14 75 [(0, .ref 1), (1, .int n)] [.int (pj_fi G14 21 7)] _
      obtain ⟨y15, hy15⟩ : ∃ z : Int32, z = pj_fi G14 21 7 := ⟨_, rfl⟩
      rw [← hy15]
      have ey15 : (pj_fi G14 21 7).toInt = y15.toInt := by rw [hy15]
      exact pj_X_rt rfl rfl ⟨_, rfl, iG14, kG14, pj_i32 _⟩
    | false =>
      have ub2 := pj_u_leF b2
      refine pj_X_of (fun r h => pj_R_icF rfl b2 h) ?_
      refine pj_X_of (fun r h => pj_R_to (G0, 11, [(0, .ref 1), (1, .int n)], [.int (Int32.ofInt (-1))], 0, 0) 11 2 (fun _ => rfl) h) ?_
      exact pj_X_rt rfl rfl ⟨_, rfl, hI, hK, pj_i32 _⟩
def kc_134 : pj_KT := ([(4, 1)], [4, 5], [])
theorem ct_134 (G0 : pj_G) (hI : pj_Inv G0) (p : Int32) (bk : Int32) : pj_Y 5 134 [.ref 1, .int p, .int bk] G0 (fun v G' => ∃ y : Int32, v = some (.int y) ∧ pj_Inv G' ∧ pj_kpt kc_134 G0 G' ∧ ((-2147483648 : Int) ≤ y.toInt ∧ y.toInt ≤ 2147483647)) := by
  have c0_ : ((Int8.ofInt (-2)).toInt32).toInt = -2 := by decide
  have c1_ : (Int32.ofInt (-1)).toInt = -1 := by decide
  have c2_ : (Int32.ofInt 0).toInt = 0 := by decide
  refine pj_Y_X (M := pj_m134) rfl rfl (Nat.le_of_ble_eq_true rfl) ?_
  have hK : pj_kpt kc_134 G0 G0 := pj_kpt_r _ _
  show pj_X _ _ G0 0 [(0, .ref 1), (1, .int p), (2, .int bk)] [] _
  refine pj_X_of (fun r h => pj_R_to (G0, 1, [(0, .ref 1), (1, .int p), (2, .int bk)], [.ref 1], 0, 0) 1 2 (fun _ => rfl) h) ?_
  refine pj_X_of (fun r h => pj_T_gr hI rfl rfl rfl h) ?_
  refine pj_X_of (fun r h => pj_R_to (G0, 5, [(0, .ref 1), (1, .int p), (2, .int bk)], [.int p, .ref 6], 0, 0) 5 2 (fun _ => rfl) h) ?_
  refine pj_X_ca (vs := [.ref 6, .int p]) rfl (fun _ => rfl) ⟨Nat.le_of_ble_eq_true rfl, Nat.le_of_ble_eq_true rfl, pj_T_rcv hI rfl⟩ ⟨rfl, rfl⟩ (pj_Y_up (by decide) (ct_96x G0 hI p)) ?_
  rintro _ _ ⟨y1, rfl, rfl, ry1, ey1, fy1⟩
  show pj_X _ _ G0 8 [(0, .ref 1), (1, .int p), (2, .int bk)] [.int y1] _
  cases b2 : pj_c1 .eq y1 0 with
  | true =>
    have ub2 := pj_u0_eqT b2
    refine pj_X_of (fun r h => pj_R_ifT 22 rfl rfl b2 h) ?_
    refine pj_X_of (fun r h => pj_R_to (G0, 23, [(0, .ref 1), (1, .int p), (2, .int bk)], [.int (Int32.ofInt (-1))], 0, 0) 23 2 (fun _ => rfl) h) ?_
    exact pj_X_rt rfl rfl ⟨_, rfl, hI, hK, pj_i32 _⟩
  | false =>
    have ub2 := pj_u0_eqF b2
    refine pj_X_of (fun r h => pj_R_ifF rfl b2 h) ?_
    refine pj_X_of (fun r h => pj_R_to (G0, 12, [(0, .ref 1), (1, .int p), (2, .int bk)], [.ref 1], 0, 0) 12 2 (fun _ => rfl) h) ?_
    refine pj_X_of (fun r h => pj_T_gr hI rfl rfl rfl h) ?_
    refine pj_X_of (fun r h => pj_R_to (G0, 16, [(0, .ref 1), (1, .int p), (2, .int bk)], [.int bk, .ref 6], 0, 0) 16 2 (fun _ => rfl) h) ?_
    refine pj_X_ca (vs := [.ref 6, .int bk]) rfl (fun _ => rfl) ⟨Nat.le_of_ble_eq_true rfl, Nat.le_of_ble_eq_true rfl, pj_T_rcv hI rfl⟩ ⟨rfl, rfl⟩ (pj_Y_up (by decide) (ct_93 G0 hI bk)) ?_
    rintro _ _ ⟨y3, rfl, rfl, ry3⟩
    show pj_X _ _ G0 19 [(0, .ref 1), (1, .int p), (2, .int bk)] [.int y3] _
    cases b4 : pj_c1 .ne y3 0 with
    | true =>
      have ub4 := pj_u0_neT b4
      refine pj_X_of (fun r h => pj_R_ifT 24 rfl rfl b4 h) ?_
      refine pj_X_of (fun r h => pj_R_to (G0, 25, [(0, .ref 1), (1, .int p), (2, .int bk)], [.ref 1], 0, 0) 25 2 (fun _ => rfl) h) ?_
      refine pj_X_of (fun r h => pj_T_gr hI rfl rfl rfl h) ?_
      refine pj_X_of (fun r h => pj_T_gr hI rfl rfl rfl h) ?_
      refine pj_X_of (fun r h => pj_T_gr hI rfl rfl rfl h) ?_
      refine pj_X_of (fun r h => pj_R_to (G0, 35, [(0, .ref 1), (1, .int p), (2, .int bk)], [.int p, .ref 26], 0, 0) 35 2 (fun _ => rfl) h) ?_
      refine pj_X_of (fun r h => pj_T_il hI rfl rfl (by omega) (by omega) h) ?_
      show pj_X _ _ G0 36 [(0, .ref 1), (1, .int p), (2, .int bk)] [.int (pj_ai G0 26 p.toInt.toNat)] _
      obtain ⟨z5, hz5⟩ : ∃ z : Int32, z = pj_ai G0 26 p.toInt.toNat := ⟨_, rfl⟩
      rw [← hz5]
      have ez5 : (pj_ai G0 26 p.toInt.toNat).toInt = z5.toInt := by rw [hz5]
      have fz5_0 : (0 : Int) ≤ z5.toInt ∧ z5.toInt ≤ 7 ∧ (z5.toInt ≤ 0 ∨ 0 ≤ z5.toInt) := by rw [hz5]; exact hI.2.2.1 26 (6, 0, 7, 0, 0) rfl _ (by show _ < 6; omega)
      refine pj_X_of (fun r h => pj_R_to (G0, 38, [(3, .int z5), (0, .ref 1), (1, .int p), (2, .int bk)], [.ref 1], 0, 0) 38 3 (fun _ => rfl) h) ?_
      refine pj_X_of (fun r h => pj_T_gr hI rfl rfl rfl h) ?_
      refine pj_X_of (fun r h => pj_R_to (G0, 42, [(3, .int z5), (0, .ref 1), (1, .int p), (2, .int bk)], [.ref 1, .ref 6], 0, 0) 42 2 (fun _ => rfl) h) ?_
      refine pj_X_of (fun r h => pj_T_gr hI rfl rfl rfl h) ?_
      refine pj_X_of (fun r h => pj_T_gr hI rfl rfl rfl h) ?_
      refine pj_X_of (fun r h => pj_R_to (G0, 49, [(3, .int z5), (0, .ref 1), (1, .int p), (2, .int bk)], [.int p, .ref 32, .ref 6], 0, 0) 49 2 (fun _ => rfl) h) ?_
      refine pj_X_of (fun r h => pj_T_il hI rfl rfl (by omega) (by omega) h) ?_
      show pj_X _ _ G0 50 [(3, .int z5), (0, .ref 1), (1, .int p), (2, .int bk)] [.int (pj_ai G0 32 p.toInt.toNat), .ref 6] _
      obtain ⟨z6, hz6⟩ : ∃ z : Int32, z = pj_ai G0 32 p.toInt.toNat := ⟨_, rfl⟩
      rw [← hz6]
      have ez6 : (pj_ai G0 32 p.toInt.toNat).toInt = z6.toInt := by rw [hz6]
      refine pj_X_of (fun r h => pj_R_to (G0, 51, [(3, .int z5), (0, .ref 1), (1, .int p), (2, .int bk)], [.int (Int32.ofInt 0), .int z6, .ref 6], 0, 0) 51 2 (fun _ => rfl) h) ?_
      refine pj_X_ca (vs := [.ref 6, .int z6, .int (Int32.ofInt 0)]) rfl (fun _ => rfl) ⟨Nat.le_of_ble_eq_true rfl, Nat.le_of_ble_eq_true rfl, pj_T_rcv hI rfl⟩ ⟨rfl, rfl⟩ (pj_Y_up (by decide) (ct_108 G0 hI z6 (Int32.ofInt 0))) ?_
      rintro _ _ ⟨y7, rfl, rfl, ry7⟩
      show pj_X _ _ G0 54 [(3, .int z5), (0, .ref 1), (1, .int p), (2, .int bk)] [.int y7] _
      refine pj_X_of (fun r h => pj_R_to (G0, 57, [(4, .int y7), (3, .int z5), (0, .ref 1), (1, .int p), (2, .int bk)], [.ref 1], 0, 0) 57 3 (fun _ => rfl) h) ?_
      refine pj_X_of (fun r h => pj_T_gr hI rfl rfl rfl h) ?_
      refine pj_X_gm hI rfl rfl (fun q8 => ?_) (fun q8 => ?_)
      · refine pj_X_of (fun r h => pj_R_to (G0, 67, [(4, .int y7), (3, .int z5), (0, .ref 1), (1, .int p), (2, .int bk)], [.int y7, .int bk, .int z5, .ref 7], 0, 0) 67 4 (fun _ => rfl) h) ?_
        refine pj_X_ca (vs := [.ref 7, .int z5, .int bk, .int y7]) rfl (fun _ => rfl) ⟨Nat.le_of_ble_eq_true rfl, Nat.le_of_ble_eq_true rfl, pj_T_rcv hI rfl⟩ ⟨rfl, rfl⟩ (pj_Y_up (by decide) (ct_50_7 G0 hI z5 bk y7)) ?_
        rintro _ _ ⟨y9, rfl, rfl, ry9⟩
        show pj_X _ _ G0 70 [(4, .int y7), (3, .int z5), (0, .ref 1), (1, .int p), (2, .int bk)] [.int y9] _
        refine pj_X_of (fun r h => pj_R_to (G0, 75, [(5, .int y9), (4, .int y7), (3, .int z5), (0, .ref 1), (1, .int p), (2, .int bk)], [.int (Int32.ofInt (-1)), .int y9], 0, 0) 75 4 (fun _ => rfl) h) ?_
        cases b10 : pj_c1 .ne y9 (Int32.ofInt (-1)) with
        | true =>
          have ub10 := pj_u_neT b10
          refine pj_X_of (fun r h => pj_R_icT 81 rfl rfl b10 h) ?_
          refine pj_X_of (fun r h => pj_R_to (G0, 82, [(5, .int y9), (4, .int y7), (3, .int z5), (0, .ref 1), (1, .int p), (2, .int bk)], [.ref 1], 0, 0) 82 2 (fun _ => rfl) h) ?_
          refine pj_X_of (fun r h => pj_T_gr hI rfl rfl rfl h) ?_
          refine pj_X_ca (vs := [.ref 4]) rfl (fun _ => rfl) ⟨Nat.le_of_ble_eq_true rfl, Nat.le_of_ble_eq_true rfl, pj_T_rcv hI rfl⟩ ⟨rfl, rfl⟩ (pj_Y_up (by decide) (ct_53x G0 hI)) ?_
          rintro _ G12 ⟨rfl, iG12, jG12, fy11⟩
          have kG12 : pj_kpt kc_134 G0 G12 := pj_kpt_t hK (pj_kpt_s jG12 rfl)
          show pj_X _ _ G12 88 [(5, .int y9), (4, .int y7), (3, .int z5), (0, .ref 1), (1, .int p), (2, .int bk)] [] _
          refine pj_X_of (fun r h => pj_R_to (G12, 89, [(5, .int y9), (4, .int y7), (3, .int z5), (0, .ref 1), (1, .int p), (2, .int bk)], [.ref 1], 0, 0) 89 2 (fun _ => rfl) h) ?_
          refine pj_X_of (fun r h => pj_T_gr iG12 rfl rfl rfl h) ?_
          refine pj_X_gm iG12 rfl rfl (fun q13 => ?_) (fun q13 => ?_)
          · refine pj_X_of (fun r h => pj_R_to (G12, 96, [(5, .int y9), (4, .int y7), (3, .int z5), (0, .ref 1), (1, .int p), (2, .int bk)], [.ref 1, .ref 7], 0, 0) 96 2 (fun _ => rfl) h) ?_
            refine pj_X_of (fun r h => pj_T_gr iG12 rfl rfl rfl h) ?_
            refine pj_X_of (fun r h => pj_R_to (G12, 105, [(5, .int y9), (4, .int y7), (3, .int z5), (0, .ref 1), (1, .int p), (2, .int bk)], [.int y7, .int y9, .int bk, .int z5, .ref 4, .ref 7], 0, 0) 105 5 (fun _ => rfl) h) ?_
            refine pj_X_ca (vs := [.ref 7, .ref 4, .int z5, .int bk, .int y9, .int y7]) rfl (fun _ => rfl) ⟨Nat.le_of_ble_eq_true rfl, Nat.le_of_ble_eq_true rfl, pj_T_rcv iG12 rfl⟩ ⟨rfl, rfl⟩ (pj_Y_up (by decide) (ct_51_7 G12 iG12 z5 bk y9 y7 ⟨by omega, by omega⟩)) ?_
            rintro _ G15 ⟨rfl, iG15, jG15⟩
            have kG15 : pj_kpt kc_134 G0 G15 := pj_kpt_t kG12 (pj_kpt_s jG15 rfl)
            show pj_X _ _ G15 108 [(5, .int y9), (4, .int y7), (3, .int z5), (0, .ref 1), (1, .int p), (2, .int bk)] [] _
            refine pj_X_of (fun r h => pj_R_to (G15, 110, [(5, .int y9), (4, .int y7), (3, .int z5), (0, .ref 1), (1, .int p), (2, .int bk)], [.int y9], 0, 0) 110 2 (fun _ => rfl) h) ?_
            exact pj_X_rt rfl rfl ⟨_, rfl, iG15, kG15, pj_i32 _⟩
          · refine pj_X_of (fun r h => pj_R_to (G12, 96, [(5, .int y9), (4, .int y7), (3, .int z5), (0, .ref 1), (1, .int p), (2, .int bk)], [.ref 1, .ref 14], 0, 0) 96 2 (fun _ => rfl) h) ?_
            refine pj_X_of (fun r h => pj_T_gr iG12 rfl rfl rfl h) ?_
            refine pj_X_of (fun r h => pj_R_to (G12, 105, [(5, .int y9), (4, .int y7), (3, .int z5), (0, .ref 1), (1, .int p), (2, .int bk)], [.int y7, .int y9, .int bk, .int z5, .ref 4, .ref 14], 0, 0) 105 5 (fun _ => rfl) h) ?_
            refine pj_X_ca (vs := [.ref 14, .ref 4, .int z5, .int bk, .int y9, .int y7]) rfl (fun _ => rfl) ⟨Nat.le_of_ble_eq_true rfl, Nat.le_of_ble_eq_true rfl, pj_T_rcv iG12 rfl⟩ ⟨rfl, rfl⟩ (pj_Y_up (by decide) (ct_51_14 G12 iG12 z5 bk y9 y7 ⟨by omega, by omega⟩)) ?_
            rintro _ G17 ⟨rfl, iG17, jG17⟩
            have kG17 : pj_kpt kc_134 G0 G17 := pj_kpt_t kG12 (pj_kpt_s jG17 rfl)
            show pj_X _ _ G17 108 [(5, .int y9), (4, .int y7), (3, .int z5), (0, .ref 1), (1, .int p), (2, .int bk)] [] _
            refine pj_X_of (fun r h => pj_R_to (G17, 110, [(5, .int y9), (4, .int y7), (3, .int z5), (0, .ref 1), (1, .int p), (2, .int bk)], [.int y9], 0, 0) 110 2 (fun _ => rfl) h) ?_
            exact pj_X_rt rfl rfl ⟨_, rfl, iG17, kG17, pj_i32 _⟩
        | false =>
          have ub10 := pj_u_neF b10
          refine pj_X_of (fun r h => pj_R_icF rfl b10 h) ?_
          refine pj_X_of (fun r h => pj_R_to (G0, 80, [(5, .int y9), (4, .int y7), (3, .int z5), (0, .ref 1), (1, .int p), (2, .int bk)], [.int ((Int8.ofInt (-2)).toInt32)], 0, 0) 80 2 (fun _ => rfl) h) ?_
          exact pj_X_rt rfl rfl ⟨_, rfl, hI, hK, pj_i32 _⟩
      · refine pj_X_of (fun r h => pj_R_to (G0, 67, [(4, .int y7), (3, .int z5), (0, .ref 1), (1, .int p), (2, .int bk)], [.int y7, .int bk, .int z5, .ref 14], 0, 0) 67 4 (fun _ => rfl) h) ?_
        refine pj_X_ca (vs := [.ref 14, .int z5, .int bk, .int y7]) rfl (fun _ => rfl) ⟨Nat.le_of_ble_eq_true rfl, Nat.le_of_ble_eq_true rfl, pj_T_rcv hI rfl⟩ ⟨rfl, rfl⟩ (pj_Y_up (by decide) (ct_50_14 G0 hI z5 bk y7)) ?_
        rintro _ _ ⟨y18, rfl, rfl, ry18⟩
        show pj_X _ _ G0 70 [(4, .int y7), (3, .int z5), (0, .ref 1), (1, .int p), (2, .int bk)] [.int y18] _
        refine pj_X_of (fun r h => pj_R_to (G0, 75, [(5, .int y18), (4, .int y7), (3, .int z5), (0, .ref 1), (1, .int p), (2, .int bk)], [.int (Int32.ofInt (-1)), .int y18], 0, 0) 75 4 (fun _ => rfl) h) ?_
        cases b19 : pj_c1 .ne y18 (Int32.ofInt (-1)) with
        | true =>
          have ub19 := pj_u_neT b19
          refine pj_X_of (fun r h => pj_R_icT 81 rfl rfl b19 h) ?_
          refine pj_X_of (fun r h => pj_R_to (G0, 82, [(5, .int y18), (4, .int y7), (3, .int z5), (0, .ref 1), (1, .int p), (2, .int bk)], [.ref 1], 0, 0) 82 2 (fun _ => rfl) h) ?_
          refine pj_X_of (fun r h => pj_T_gr hI rfl rfl rfl h) ?_
          refine pj_X_ca (vs := [.ref 4]) rfl (fun _ => rfl) ⟨Nat.le_of_ble_eq_true rfl, Nat.le_of_ble_eq_true rfl, pj_T_rcv hI rfl⟩ ⟨rfl, rfl⟩ (pj_Y_up (by decide) (ct_53x G0 hI)) ?_
          rintro _ G21 ⟨rfl, iG21, jG21, fy20⟩
          have kG21 : pj_kpt kc_134 G0 G21 := pj_kpt_t hK (pj_kpt_s jG21 rfl)
          show pj_X _ _ G21 88 [(5, .int y18), (4, .int y7), (3, .int z5), (0, .ref 1), (1, .int p), (2, .int bk)] [] _
          refine pj_X_of (fun r h => pj_R_to (G21, 89, [(5, .int y18), (4, .int y7), (3, .int z5), (0, .ref 1), (1, .int p), (2, .int bk)], [.ref 1], 0, 0) 89 2 (fun _ => rfl) h) ?_
          refine pj_X_of (fun r h => pj_T_gr iG21 rfl rfl rfl h) ?_
          refine pj_X_gm iG21 rfl rfl (fun q22 => ?_) (fun q22 => ?_)
          · refine pj_X_of (fun r h => pj_R_to (G21, 96, [(5, .int y18), (4, .int y7), (3, .int z5), (0, .ref 1), (1, .int p), (2, .int bk)], [.ref 1, .ref 7], 0, 0) 96 2 (fun _ => rfl) h) ?_
            refine pj_X_of (fun r h => pj_T_gr iG21 rfl rfl rfl h) ?_
            refine pj_X_of (fun r h => pj_R_to (G21, 105, [(5, .int y18), (4, .int y7), (3, .int z5), (0, .ref 1), (1, .int p), (2, .int bk)], [.int y7, .int y18, .int bk, .int z5, .ref 4, .ref 7], 0, 0) 105 5 (fun _ => rfl) h) ?_
            refine pj_X_ca (vs := [.ref 7, .ref 4, .int z5, .int bk, .int y18, .int y7]) rfl (fun _ => rfl) ⟨Nat.le_of_ble_eq_true rfl, Nat.le_of_ble_eq_true rfl, pj_T_rcv iG21 rfl⟩ ⟨rfl, rfl⟩ (pj_Y_up (by decide) (ct_51_7 G21 iG21 z5 bk y18 y7 ⟨by omega, by omega⟩)) ?_
            rintro _ G24 ⟨rfl, iG24, jG24⟩
            have kG24 : pj_kpt kc_134 G0 G24 := pj_kpt_t kG21 (pj_kpt_s jG24 rfl)
            show pj_X _ _ G24 108 [(5, .int y18), (4, .int y7), (3, .int z5), (0, .ref 1), (1, .int p), (2, .int bk)] [] _
            refine pj_X_of (fun r h => pj_R_to (G24, 110, [(5, .int y18), (4, .int y7), (3, .int z5), (0, .ref 1), (1, .int p), (2, .int bk)], [.int y18], 0, 0) 110 2 (fun _ => rfl) h) ?_
            exact pj_X_rt rfl rfl ⟨_, rfl, iG24, kG24, pj_i32 _⟩
          · refine pj_X_of (fun r h => pj_R_to (G21, 96, [(5, .int y18), (4, .int y7), (3, .int z5), (0, .ref 1), (1, .int p), (2, .int bk)], [.ref 1, .ref 14], 0, 0) 96 2 (fun _ => rfl) h) ?_
            refine pj_X_of (fun r h => pj_T_gr iG21 rfl rfl rfl h) ?_
            refine pj_X_of (fun r h => pj_R_to (G21, 105, [(5, .int y18), (4, .int y7), (3, .int z5), (0, .ref 1), (1, .int p), (2, .int bk)], [.int y7, .int y18, .int bk, .int z5, .ref 4, .ref 14], 0, 0) 105 5 (fun _ => rfl) h) ?_
            refine pj_X_ca (vs := [.ref 14, .ref 4, .int z5, .int bk, .int y18, .int y7]) rfl (fun _ => rfl) ⟨Nat.le_of_ble_eq_true rfl, Nat.le_of_ble_eq_true rfl, pj_T_rcv iG21 rfl⟩ ⟨rfl, rfl⟩ (pj_Y_up (by decide) (ct_51_14 G21 iG21 z5 bk y18 y7 ⟨by omega, by omega⟩)) ?_
            rintro _ G26 ⟨rfl, iG26, jG26⟩
            have kG26 : pj_kpt kc_134 G0 G26 := pj_kpt_t kG21 (pj_kpt_s jG26 rfl)
            show pj_X _ _ G26 108 [(5, .int y18), (4, .int y7), (3, .int z5), (0, .ref 1), (1, .int p), (2, .int bk)] [] _
            refine pj_X_of (fun r h => pj_R_to (G26, 110, [(5, .int y18), (4, .int y7), (3, .int z5), (0, .ref 1), (1, .int p), (2, .int bk)], [.int y18], 0, 0) 110 2 (fun _ => rfl) h) ?_
            exact pj_X_rt rfl rfl ⟨_, rfl, iG26, kG26, pj_i32 _⟩
        | false =>
          have ub19 := pj_u_neF b19
          refine pj_X_of (fun r h => pj_R_icF rfl b19 h) ?_
          refine pj_X_of (fun r h => pj_R_to (G0, 80, [(5, .int y18), (4, .int y7), (3, .int z5), (0, .ref 1), (1, .int p), (2, .int bk)], [.int ((Int8.ofInt (-2)).toInt32)], 0, 0) 80 2 (fun _ => rfl) h) ?_
          exact pj_X_rt rfl rfl ⟨_, rfl, hI, hK, pj_i32 _⟩
    | false =>
      have ub4 := pj_u0_neF b4
      refine pj_X_of (fun r h => pj_R_ifF rfl b4 h) ?_
      refine pj_X_of (fun r h => pj_R_to (G0, 23, [(0, .ref 1), (1, .int p), (2, .int bk)], [.int (Int32.ofInt (-1))], 0, 0) 23 2 (fun _ => rfl) h) ?_
      exact pj_X_rt rfl rfl ⟨_, rfl, hI, hK, pj_i32 _⟩
def kc_135 : pj_KT := ([(4, 1)], [4, 5], [])
theorem ct_135 (G0 : pj_G) (hI : pj_Inv G0) (bk : Int32) : pj_Y 5 135 [.ref 1, .int bk] G0 (fun v G' => ∃ y : Int32, v = some (.int y) ∧ pj_Inv G' ∧ pj_kpt kc_135 G0 G' ∧ ((-2147483648 : Int) ≤ y.toInt ∧ y.toInt ≤ 2147483647)) := by
  have c0_ : (Int32.ofInt (-1)).toInt = -1 := by decide
  have c1_ : (Int32.ofInt 0).toInt = 0 := by decide
  refine pj_Y_X (M := pj_m135) rfl rfl (Nat.le_of_ble_eq_true rfl) ?_
  have hK : pj_kpt kc_135 G0 G0 := pj_kpt_r _ _
  show pj_X _ _ G0 0 [(0, .ref 1), (1, .int bk)] [] _
  refine pj_X_of (fun r h => pj_R_to (G0, 1, [(0, .ref 1), (1, .int bk)], [.ref 1], 0, 0) 1 2 (fun _ => rfl) h) ?_
  refine pj_X_of (fun r h => pj_T_gr hI rfl rfl rfl h) ?_
  refine pj_X_of (fun r h => pj_R_to (G0, 5, [(0, .ref 1), (1, .int bk)], [.int bk, .ref 6], 0, 0) 5 2 (fun _ => rfl) h) ?_
  refine pj_X_ca (vs := [.ref 6, .int bk]) rfl (fun _ => rfl) ⟨Nat.le_of_ble_eq_true rfl, Nat.le_of_ble_eq_true rfl, pj_T_rcv hI rfl⟩ ⟨rfl, rfl⟩ (pj_Y_up (by decide) (ct_93 G0 hI bk)) ?_
  rintro _ _ ⟨y1, rfl, rfl, ry1⟩
  show pj_X _ _ G0 8 [(0, .ref 1), (1, .int bk)] [.int y1] _
  cases b2 : pj_c1 .ne y1 0 with
  | true =>
    have ub2 := pj_u0_neT b2
    refine pj_X_of (fun r h => pj_R_ifT 13 rfl rfl b2 h) ?_
    refine pj_X_of (fun r h => pj_R_to (G0, 14, [(0, .ref 1), (1, .int bk)], [.ref 1], 0, 0) 14 2 (fun _ => rfl) h) ?_
    refine pj_X_of (fun r h => pj_T_gr hI rfl rfl rfl h) ?_
    refine pj_X_of (fun r h => pj_R_to (G0, 19, [(0, .ref 1), (1, .int bk)], [.int (Int32.ofInt 0), .int (Int32.ofInt 0), .ref 6], 0, 0) 19 3 (fun _ => rfl) h) ?_
    refine pj_X_ca (vs := [.ref 6, .int (Int32.ofInt 0), .int (Int32.ofInt 0)]) rfl (fun _ => rfl) ⟨Nat.le_of_ble_eq_true rfl, Nat.le_of_ble_eq_true rfl, pj_T_rcv hI rfl⟩ ⟨rfl, rfl⟩ (pj_Y_up (by decide) (ct_108 G0 hI (Int32.ofInt 0) (Int32.ofInt 0))) ?_
    rintro _ _ ⟨y3, rfl, rfl, ry3⟩
    show pj_X _ _ G0 22 [(0, .ref 1), (1, .int bk)] [.int y3] _
    refine pj_X_of (fun r h => pj_R_to (G0, 24, [(2, .int y3), (0, .ref 1), (1, .int bk)], [.ref 1], 0, 0) 24 3 (fun _ => rfl) h) ?_
    refine pj_X_of (fun r h => pj_T_gr hI rfl rfl rfl h) ?_
    refine pj_X_of (fun r h => pj_R_to (G0, 28, [(2, .int y3), (0, .ref 1), (1, .int bk)], [.ref 1, .ref 4], 0, 0) 28 2 (fun _ => rfl) h) ?_
    refine pj_X_of (fun r h => pj_T_gr hI rfl rfl rfl h) ?_
    refine pj_X_gm hI rfl rfl (fun q4 => ?_) (fun q4 => ?_)
    · refine pj_X_of (fun r h => pj_R_to (G0, 35, [(2, .int y3), (0, .ref 1), (1, .int bk)], [.int y3, .ref 7, .ref 4], 0, 0) 35 2 (fun _ => rfl) h) ?_
      refine pj_X_ca (vs := [.ref 7, .int y3]) rfl (fun _ => rfl) ⟨Nat.le_of_ble_eq_true rfl, Nat.le_of_ble_eq_true rfl, pj_T_rcv hI rfl⟩ ⟨rfl, rfl⟩ (pj_Y_up (by decide) (ct_49_7 G0 hI y3)) ?_
      rintro _ _ ⟨y5, rfl, rfl, ry5⟩
      show pj_X _ _ G0 38 [(2, .int y3), (0, .ref 1), (1, .int bk)] [.int y5, .ref 4] _
      refine pj_X_of (fun r h => pj_R_to (G0, 39, [(2, .int y3), (0, .ref 1), (1, .int bk)], [.long y5.toInt64, .ref 4], 0, 0) 39 2 (fun _ => rfl) h) ?_
      have lc6 : (y5.toInt64).toInt = y5.toInt := Int32.toInt_toInt64 _
      refine pj_X_ca (vs := [.ref 4, .long y5.toInt64]) rfl (fun _ => rfl) ⟨Nat.le_of_ble_eq_true rfl, Nat.le_of_ble_eq_true rfl, pj_T_rcv hI rfl⟩ ⟨rfl, rfl⟩ (pj_Y_up (by decide) (ct_55x G0 hI y5.toInt64)) ?_
      rintro _ G8 ⟨rfl, iG8, jG8, fy7⟩
      have kG8 : pj_kpt kc_135 G0 G8 := pj_kpt_t hK (pj_kpt_s jG8 rfl)
      show pj_X _ _ G8 42 [(2, .int y3), (0, .ref 1), (1, .int bk)] [] _
      refine pj_X_of (fun r h => pj_R_to (G8, 43, [(2, .int y3), (0, .ref 1), (1, .int bk)], [.ref 1], 0, 0) 43 2 (fun _ => rfl) h) ?_
      refine pj_X_of (fun r h => pj_T_gr iG8 rfl rfl rfl h) ?_
      refine pj_X_gm iG8 rfl rfl (fun q9 => ?_) (fun q9 => ?_)
      · refine pj_X_of (fun r h => pj_R_to (G8, 51, [(2, .int y3), (0, .ref 1), (1, .int bk)], [.int y3, .int bk, .ref 7], 0, 0) 51 3 (fun _ => rfl) h) ?_
        refine pj_X_ca (vs := [.ref 7, .int bk, .int y3]) rfl (fun _ => rfl) ⟨Nat.le_of_ble_eq_true rfl, Nat.le_of_ble_eq_true rfl, pj_T_rcv iG8 rfl⟩ ⟨rfl, rfl⟩ (pj_Y_up (by decide) (ct_47_7 G8 iG8 bk y3)) ?_
        rintro _ _ ⟨y10, rfl, rfl, ry10⟩
        show pj_X _ _ G8 54 [(2, .int y3), (0, .ref 1), (1, .int bk)] [.int y10] _
        exact pj_X_rt rfl rfl ⟨_, rfl, iG8, kG8, pj_i32 _⟩
      · refine pj_X_of (fun r h => pj_R_to (G8, 51, [(2, .int y3), (0, .ref 1), (1, .int bk)], [.int y3, .int bk, .ref 14], 0, 0) 51 3 (fun _ => rfl) h) ?_
        refine pj_X_ca (vs := [.ref 14, .int bk, .int y3]) rfl (fun _ => rfl) ⟨Nat.le_of_ble_eq_true rfl, Nat.le_of_ble_eq_true rfl, pj_T_rcv iG8 rfl⟩ ⟨rfl, rfl⟩ (pj_Y_up (by decide) (ct_47_14 G8 iG8 bk y3)) ?_
        rintro _ _ ⟨y11, rfl, rfl, ry11⟩
        show pj_X _ _ G8 54 [(2, .int y3), (0, .ref 1), (1, .int bk)] [.int y11] _
        exact pj_X_rt rfl rfl ⟨_, rfl, iG8, kG8, pj_i32 _⟩
    · refine pj_X_of (fun r h => pj_R_to (G0, 35, [(2, .int y3), (0, .ref 1), (1, .int bk)], [.int y3, .ref 14, .ref 4], 0, 0) 35 2 (fun _ => rfl) h) ?_
      refine pj_X_ca (vs := [.ref 14, .int y3]) rfl (fun _ => rfl) ⟨Nat.le_of_ble_eq_true rfl, Nat.le_of_ble_eq_true rfl, pj_T_rcv hI rfl⟩ ⟨rfl, rfl⟩ (pj_Y_up (by decide) (ct_49_14 G0 hI y3)) ?_
      rintro _ _ ⟨y12, rfl, rfl, ry12⟩
      show pj_X _ _ G0 38 [(2, .int y3), (0, .ref 1), (1, .int bk)] [.int y12, .ref 4] _
      refine pj_X_of (fun r h => pj_R_to (G0, 39, [(2, .int y3), (0, .ref 1), (1, .int bk)], [.long y12.toInt64, .ref 4], 0, 0) 39 2 (fun _ => rfl) h) ?_
      have lc13 : (y12.toInt64).toInt = y12.toInt := Int32.toInt_toInt64 _
      refine pj_X_ca (vs := [.ref 4, .long y12.toInt64]) rfl (fun _ => rfl) ⟨Nat.le_of_ble_eq_true rfl, Nat.le_of_ble_eq_true rfl, pj_T_rcv hI rfl⟩ ⟨rfl, rfl⟩ (pj_Y_up (by decide) (ct_55x G0 hI y12.toInt64)) ?_
      rintro _ G15 ⟨rfl, iG15, jG15, fy14⟩
      have kG15 : pj_kpt kc_135 G0 G15 := pj_kpt_t hK (pj_kpt_s jG15 rfl)
      show pj_X _ _ G15 42 [(2, .int y3), (0, .ref 1), (1, .int bk)] [] _
      refine pj_X_of (fun r h => pj_R_to (G15, 43, [(2, .int y3), (0, .ref 1), (1, .int bk)], [.ref 1], 0, 0) 43 2 (fun _ => rfl) h) ?_
      refine pj_X_of (fun r h => pj_T_gr iG15 rfl rfl rfl h) ?_
      refine pj_X_gm iG15 rfl rfl (fun q16 => ?_) (fun q16 => ?_)
      · refine pj_X_of (fun r h => pj_R_to (G15, 51, [(2, .int y3), (0, .ref 1), (1, .int bk)], [.int y3, .int bk, .ref 7], 0, 0) 51 3 (fun _ => rfl) h) ?_
        refine pj_X_ca (vs := [.ref 7, .int bk, .int y3]) rfl (fun _ => rfl) ⟨Nat.le_of_ble_eq_true rfl, Nat.le_of_ble_eq_true rfl, pj_T_rcv iG15 rfl⟩ ⟨rfl, rfl⟩ (pj_Y_up (by decide) (ct_47_7 G15 iG15 bk y3)) ?_
        rintro _ _ ⟨y17, rfl, rfl, ry17⟩
        show pj_X _ _ G15 54 [(2, .int y3), (0, .ref 1), (1, .int bk)] [.int y17] _
        exact pj_X_rt rfl rfl ⟨_, rfl, iG15, kG15, pj_i32 _⟩
      · refine pj_X_of (fun r h => pj_R_to (G15, 51, [(2, .int y3), (0, .ref 1), (1, .int bk)], [.int y3, .int bk, .ref 14], 0, 0) 51 3 (fun _ => rfl) h) ?_
        refine pj_X_ca (vs := [.ref 14, .int bk, .int y3]) rfl (fun _ => rfl) ⟨Nat.le_of_ble_eq_true rfl, Nat.le_of_ble_eq_true rfl, pj_T_rcv iG15 rfl⟩ ⟨rfl, rfl⟩ (pj_Y_up (by decide) (ct_47_14 G15 iG15 bk y3)) ?_
        rintro _ _ ⟨y18, rfl, rfl, ry18⟩
        show pj_X _ _ G15 54 [(2, .int y3), (0, .ref 1), (1, .int bk)] [.int y18] _
        exact pj_X_rt rfl rfl ⟨_, rfl, iG15, kG15, pj_i32 _⟩
  | false =>
    have ub2 := pj_u0_neF b2
    refine pj_X_of (fun r h => pj_R_ifF rfl b2 h) ?_
    refine pj_X_of (fun r h => pj_R_to (G0, 12, [(0, .ref 1), (1, .int bk)], [.int (Int32.ofInt (-1))], 0, 0) 12 2 (fun _ => rfl) h) ?_
    exact pj_X_rt rfl rfl ⟨_, rfl, hI, hK, pj_i32 _⟩
def kc_136 : pj_KT := ([], [], [])
theorem lp_ct_136 (G0 : pj_G) (hI0 : pj_Inv G0) (p : Int32) (bk : Int32) : ∀ mn : Nat, (∀ (G : pj_G) (hI : pj_Inv G) (hK : pj_kpt kc_136 G0 G) (v3 : Int32) (v4 : Int32), ((-2147483648 : Int) ≤ v3.toInt ∧ v3.toInt ≤ 2147483647) → ((0 : Int) ≤ v4.toInt ∧ v4.toInt ≤ 100) → (0 ≤ p.toInt ∧ p.toInt ≤ 5) → 100 - v4.toInt < (mn : Int) → pj_X 4 pj_m136 G 42 [(0, .ref 1), (1, .int p), (2, .int bk), (3, .int v3), (4, .int v4)] [] (fun v G' => ∃ y : Int32, v = some (.int y) ∧ pj_Inv G' ∧ pj_kpt kc_136 G0 G' ∧ ((-2147483648 : Int) ≤ y.toInt ∧ y.toInt ≤ 2147483647))) := by
  have c0_ : ((Int8.ofInt (-2)).toInt32).toInt = -2 := by decide
  have c1_ : ((Int8.ofInt 99).toInt32).toInt = 99 := by decide
  have c2_ : (Int32.ofInt (-1)).toInt = -1 := by decide
  have c3_ : (Int32.ofInt 0).toInt = 0 := by decide
  have c4_ : (Int32.ofInt 1).toInt = 1 := by decide
  intro mn
  induction mn with
  | zero =>
    intro G hI hK v3 v4 rv3 rv4 x0_ hm
    exfalso
    omega
  | succ mn ih =>
    intro G hI hK v3 v4 rv3 rv4 x0_ hm
    refine pj_X_of (fun r h => pj_R_to (G, 46, [(0, .ref 1), (1, .int p), (2, .int bk), (3, .int v3), (4, .int v4)], [.int ((Int8.ofInt 99).toInt32), .int v4], 0, 0) 46 3 (fun _ => rfl) h) ?_
    cases b1 : pj_c1 .gt v4 ((Int8.ofInt 99).toInt32) with
    | true =>
      have ub1 := pj_u_gtT b1
      refine pj_X_of (fun r h => pj_R_icT 96 rfl rfl b1 h) ?_
      refine pj_X_of (fun r h => pj_R_to (G, 98, [(0, .ref 1), (1, .int p), (2, .int bk), (3, .int v3), (4, .int v4)], [.int ((Int8.ofInt (-2)).toInt32)], 0, 0) 98 2 (fun _ => rfl) h) ?_
      exact pj_X_rt rfl rfl ⟨_, rfl, hI, hK, pj_i32 _⟩
    | false =>
      have ub1 := pj_u_gtF b1
      refine pj_X_of (fun r h => pj_R_icF rfl b1 h) ?_
      refine pj_X_of (fun r h => pj_R_to (G, 51, [(0, .ref 1), (1, .int p), (2, .int bk), (3, .int v3), (4, .int v4)], [.int bk, .int v3], 0, 0) 51 3 (fun _ => rfl) h) ?_
      refine pj_X_ca (vs := [.int v3, .int bk]) rfl (fun _ => rfl) ⟨Nat.le_of_ble_eq_true rfl, Nat.le_of_ble_eq_true rfl, rfl⟩ ⟨rfl, rfl⟩ (pj_Y_up (by decide) (ct_163x G hI v3 bk)) ?_
      rintro _ _ ⟨y2, rfl, rfl, ry2, fy2⟩
      show pj_X _ _ G 54 [(0, .ref 1), (1, .int p), (2, .int bk), (3, .int v3), (4, .int v4)] [.int y2] _
      cases b3 : pj_c1 .eq y2 0 with
      | true =>
        have ub3 := pj_u0_eqT b3
        refine pj_X_of (fun r h => pj_R_ifT 60 rfl rfl b3 h) ?_
        refine pj_X_of (fun r h => pj_R_to (G, 61, [(0, .ref 1), (1, .int p), (2, .int bk), (3, .int v3), (4, .int v4)], [.ref 1], 0, 0) 61 2 (fun _ => rfl) h) ?_
        refine pj_X_of (fun r h => pj_T_gr hI rfl rfl rfl h) ?_
        refine pj_X_gm hI rfl rfl (fun q4 => ?_) (fun q4 => ?_)
        · refine pj_X_of (fun r h => pj_R_to (G, 69, [(0, .ref 1), (1, .int p), (2, .int bk), (3, .int v3), (4, .int v4)], [.ref 1, .int v3, .ref 7], 0, 0) 69 3 (fun _ => rfl) h) ?_
          refine pj_X_of (fun r h => pj_T_gr hI rfl rfl rfl h) ?_
          refine pj_X_of (fun r h => pj_R_to (G, 73, [(0, .ref 1), (1, .int p), (2, .int bk), (3, .int v3), (4, .int v4)], [.ref 1, .ref 6, .int v3, .ref 7], 0, 0) 73 2 (fun _ => rfl) h) ?_
          refine pj_X_of (fun r h => pj_T_gr hI rfl rfl rfl h) ?_
          refine pj_X_of (fun r h => pj_T_gr hI rfl rfl rfl h) ?_
          refine pj_X_of (fun r h => pj_R_to (G, 80, [(0, .ref 1), (1, .int p), (2, .int bk), (3, .int v3), (4, .int v4)], [.int p, .ref 32, .ref 6, .int v3, .ref 7], 0, 0) 80 2 (fun _ => rfl) h) ?_
          refine pj_X_of (fun r h => pj_T_il hI rfl rfl (by omega) (by omega) h) ?_
          show pj_X _ _ G 81 [(0, .ref 1), (1, .int p), (2, .int bk), (3, .int v3), (4, .int v4)] [.int (pj_ai G 32 p.toInt.toNat), .ref 6, .int v3, .ref 7] _
          obtain ⟨z5, hz5⟩ : ∃ z : Int32, z = pj_ai G 32 p.toInt.toNat := ⟨_, rfl⟩
          rw [← hz5]
          have ez5 : (pj_ai G 32 p.toInt.toNat).toInt = z5.toInt := by rw [hz5]
          refine pj_X_of (fun r h => pj_R_to (G, 83, [(0, .ref 1), (1, .int p), (2, .int bk), (3, .int v3), (4, .int v4)], [.int v4, .int z5, .ref 6, .int v3, .ref 7], 0, 0) 83 2 (fun _ => rfl) h) ?_
          refine pj_X_ca (vs := [.ref 6, .int z5, .int v4]) rfl (fun _ => rfl) ⟨Nat.le_of_ble_eq_true rfl, Nat.le_of_ble_eq_true rfl, pj_T_rcv hI rfl⟩ ⟨rfl, rfl⟩ (pj_Y_up (by decide) (ct_108 G hI z5 v4)) ?_
          rintro _ _ ⟨y6, rfl, rfl, ry6⟩
          show pj_X _ _ G 86 [(0, .ref 1), (1, .int p), (2, .int bk), (3, .int v3), (4, .int v4)] [.int y6, .int v3, .ref 7] _
          refine pj_X_ca (vs := [.ref 7, .int v3, .int y6]) rfl (fun _ => rfl) ⟨Nat.le_of_ble_eq_true rfl, Nat.le_of_ble_eq_true rfl, pj_T_rcv hI rfl⟩ ⟨rfl, rfl⟩ (pj_Y_up (by decide) (ct_45_7 G hI v3 y6)) ?_
          rintro _ _ ⟨y7, rfl, rfl, ry7⟩
          show pj_X _ _ G 89 [(0, .ref 1), (1, .int p), (2, .int bk), (3, .int v3), (4, .int v4)] [.int y7] _
          refine pj_X_of (fun r h => pj_R_to (G, 93, [(4, .int (v4 + Int32.ofInt 1)), (3, .int y7), (0, .ref 1), (1, .int p), (2, .int bk)], [], 0, 0) 93 3 (fun _ => rfl) h) ?_
          obtain ⟨z8, hz8⟩ : ∃ z : Int32, z = v4 + Int32.ofInt 1 := ⟨_, rfl⟩
          rw [← hz8]
          have fz8_0 : z8.toInt = v4.toInt + (Int32.ofInt 1).toInt := by rw [hz8]; exact pj_addI (by have := pj_i32 v4; have := pj_i32 (Int32.ofInt 1); omega) (by have := pj_i32 v4; have := pj_i32 (Int32.ofInt 1); omega)
          refine pj_X_of (fun r h => pj_R_to (G, 42, [(4, .int z8), (3, .int y7), (0, .ref 1), (1, .int p), (2, .int bk)], [], 0, 0) 42 2 (fun _ => rfl) h) ?_
          exact pj_X_sub [(0, .ref 1), (1, .int p), (2, .int bk), (3, .int y7), (4, .int z8)] (show List.Nodup [0, 1, 2, 3, 4] by decide) ⟨rfl, rfl, rfl, rfl, rfl, trivial⟩ (ih G hI hK y7 z8 (pj_i32 _) ⟨by omega, by omega⟩ (by omega) (by omega))
        · refine pj_X_of (fun r h => pj_R_to (G, 69, [(0, .ref 1), (1, .int p), (2, .int bk), (3, .int v3), (4, .int v4)], [.ref 1, .int v3, .ref 14], 0, 0) 69 3 (fun _ => rfl) h) ?_
          refine pj_X_of (fun r h => pj_T_gr hI rfl rfl rfl h) ?_
          refine pj_X_of (fun r h => pj_R_to (G, 73, [(0, .ref 1), (1, .int p), (2, .int bk), (3, .int v3), (4, .int v4)], [.ref 1, .ref 6, .int v3, .ref 14], 0, 0) 73 2 (fun _ => rfl) h) ?_
          refine pj_X_of (fun r h => pj_T_gr hI rfl rfl rfl h) ?_
          refine pj_X_of (fun r h => pj_T_gr hI rfl rfl rfl h) ?_
          refine pj_X_of (fun r h => pj_R_to (G, 80, [(0, .ref 1), (1, .int p), (2, .int bk), (3, .int v3), (4, .int v4)], [.int p, .ref 32, .ref 6, .int v3, .ref 14], 0, 0) 80 2 (fun _ => rfl) h) ?_
          refine pj_X_of (fun r h => pj_T_il hI rfl rfl (by omega) (by omega) h) ?_
          show pj_X _ _ G 81 [(0, .ref 1), (1, .int p), (2, .int bk), (3, .int v3), (4, .int v4)] [.int (pj_ai G 32 p.toInt.toNat), .ref 6, .int v3, .ref 14] _
          obtain ⟨z9, hz9⟩ : ∃ z : Int32, z = pj_ai G 32 p.toInt.toNat := ⟨_, rfl⟩
          rw [← hz9]
          have ez9 : (pj_ai G 32 p.toInt.toNat).toInt = z9.toInt := by rw [hz9]
          refine pj_X_of (fun r h => pj_R_to (G, 83, [(0, .ref 1), (1, .int p), (2, .int bk), (3, .int v3), (4, .int v4)], [.int v4, .int z9, .ref 6, .int v3, .ref 14], 0, 0) 83 2 (fun _ => rfl) h) ?_
          refine pj_X_ca (vs := [.ref 6, .int z9, .int v4]) rfl (fun _ => rfl) ⟨Nat.le_of_ble_eq_true rfl, Nat.le_of_ble_eq_true rfl, pj_T_rcv hI rfl⟩ ⟨rfl, rfl⟩ (pj_Y_up (by decide) (ct_108 G hI z9 v4)) ?_
          rintro _ _ ⟨y10, rfl, rfl, ry10⟩
          show pj_X _ _ G 86 [(0, .ref 1), (1, .int p), (2, .int bk), (3, .int v3), (4, .int v4)] [.int y10, .int v3, .ref 14] _
          refine pj_X_ca (vs := [.ref 14, .int v3, .int y10]) rfl (fun _ => rfl) ⟨Nat.le_of_ble_eq_true rfl, Nat.le_of_ble_eq_true rfl, pj_T_rcv hI rfl⟩ ⟨rfl, rfl⟩ (pj_Y_up (by decide) (ct_45_14 G hI v3 y10)) ?_
          rintro _ _ ⟨y11, rfl, rfl, ry11⟩
          show pj_X _ _ G 89 [(0, .ref 1), (1, .int p), (2, .int bk), (3, .int v3), (4, .int v4)] [.int y11] _
          refine pj_X_of (fun r h => pj_R_to (G, 93, [(4, .int (v4 + Int32.ofInt 1)), (3, .int y11), (0, .ref 1), (1, .int p), (2, .int bk)], [], 0, 0) 93 3 (fun _ => rfl) h) ?_
          obtain ⟨z12, hz12⟩ : ∃ z : Int32, z = v4 + Int32.ofInt 1 := ⟨_, rfl⟩
          rw [← hz12]
          have fz12_0 : z12.toInt = v4.toInt + (Int32.ofInt 1).toInt := by rw [hz12]; exact pj_addI (by have := pj_i32 v4; have := pj_i32 (Int32.ofInt 1); omega) (by have := pj_i32 v4; have := pj_i32 (Int32.ofInt 1); omega)
          refine pj_X_of (fun r h => pj_R_to (G, 42, [(4, .int z12), (3, .int y11), (0, .ref 1), (1, .int p), (2, .int bk)], [], 0, 0) 42 2 (fun _ => rfl) h) ?_
          exact pj_X_sub [(0, .ref 1), (1, .int p), (2, .int bk), (3, .int y11), (4, .int z12)] (show List.Nodup [0, 1, 2, 3, 4] by decide) ⟨rfl, rfl, rfl, rfl, rfl, trivial⟩ (ih G hI hK y11 z12 (pj_i32 _) ⟨by omega, by omega⟩ (by omega) (by omega))
      | false =>
        have ub3 := pj_u0_eqF b3
        refine pj_X_of (fun r h => pj_R_ifF rfl b3 h) ?_
        refine pj_X_of (fun r h => pj_R_to (G, 59, [(0, .ref 1), (1, .int p), (2, .int bk), (3, .int v3), (4, .int v4)], [.int v4], 0, 0) 59 2 (fun _ => rfl) h) ?_
        exact pj_X_rt rfl rfl ⟨_, rfl, hI, hK, pj_i32 _⟩
theorem ct_136 (G0 : pj_G) (hI : pj_Inv G0) (p : Int32) (bk : Int32) : pj_Y 5 136 [.ref 1, .int p, .int bk] G0 (fun v G' => ∃ y : Int32, v = some (.int y) ∧ pj_Inv G' ∧ pj_kpt kc_136 G0 G' ∧ ((-2147483648 : Int) ≤ y.toInt ∧ y.toInt ≤ 2147483647)) := by
  have c0_ : ((Int8.ofInt (-2)).toInt32).toInt = -2 := by decide
  have c1_ : ((Int8.ofInt 99).toInt32).toInt = 99 := by decide
  have c2_ : (Int32.ofInt (-1)).toInt = -1 := by decide
  have c3_ : (Int32.ofInt 0).toInt = 0 := by decide
  have c4_ : (Int32.ofInt 1).toInt = 1 := by decide
  refine pj_Y_X (M := pj_m136) rfl rfl (Nat.le_of_ble_eq_true rfl) ?_
  have hK : pj_kpt kc_136 G0 G0 := pj_kpt_r _ _
  show pj_X _ _ G0 0 [(0, .ref 1), (1, .int p), (2, .int bk)] [] _
  refine pj_X_of (fun r h => pj_R_to (G0, 1, [(0, .ref 1), (1, .int p), (2, .int bk)], [.ref 1], 0, 0) 1 2 (fun _ => rfl) h) ?_
  refine pj_X_of (fun r h => pj_T_gr hI rfl rfl rfl h) ?_
  refine pj_X_of (fun r h => pj_R_to (G0, 5, [(0, .ref 1), (1, .int p), (2, .int bk)], [.int p, .ref 6], 0, 0) 5 2 (fun _ => rfl) h) ?_
  refine pj_X_ca (vs := [.ref 6, .int p]) rfl (fun _ => rfl) ⟨Nat.le_of_ble_eq_true rfl, Nat.le_of_ble_eq_true rfl, pj_T_rcv hI rfl⟩ ⟨rfl, rfl⟩ (pj_Y_up (by decide) (ct_96x G0 hI p)) ?_
  rintro _ _ ⟨y13, rfl, rfl, ry13, ey13, fy13⟩
  show pj_X _ _ G0 8 [(0, .ref 1), (1, .int p), (2, .int bk)] [.int y13] _
  cases b14 : pj_c1 .eq y13 0 with
  | true =>
    have ub14 := pj_u0_eqT b14
    refine pj_X_of (fun r h => pj_R_ifT 22 rfl rfl b14 h) ?_
    refine pj_X_of (fun r h => pj_R_to (G0, 23, [(0, .ref 1), (1, .int p), (2, .int bk)], [.int (Int32.ofInt (-1))], 0, 0) 23 2 (fun _ => rfl) h) ?_
    exact pj_X_rt rfl rfl ⟨_, rfl, hI, hK, pj_i32 _⟩
  | false =>
    have ub14 := pj_u0_eqF b14
    refine pj_X_of (fun r h => pj_R_ifF rfl b14 h) ?_
    refine pj_X_of (fun r h => pj_R_to (G0, 12, [(0, .ref 1), (1, .int p), (2, .int bk)], [.ref 1], 0, 0) 12 2 (fun _ => rfl) h) ?_
    refine pj_X_of (fun r h => pj_T_gr hI rfl rfl rfl h) ?_
    refine pj_X_of (fun r h => pj_R_to (G0, 16, [(0, .ref 1), (1, .int p), (2, .int bk)], [.int bk, .ref 6], 0, 0) 16 2 (fun _ => rfl) h) ?_
    refine pj_X_ca (vs := [.ref 6, .int bk]) rfl (fun _ => rfl) ⟨Nat.le_of_ble_eq_true rfl, Nat.le_of_ble_eq_true rfl, pj_T_rcv hI rfl⟩ ⟨rfl, rfl⟩ (pj_Y_up (by decide) (ct_93 G0 hI bk)) ?_
    rintro _ _ ⟨y15, rfl, rfl, ry15⟩
    show pj_X _ _ G0 19 [(0, .ref 1), (1, .int p), (2, .int bk)] [.int y15] _
    cases b16 : pj_c1 .ne y15 0 with
    | true =>
      have ub16 := pj_u0_neT b16
      refine pj_X_of (fun r h => pj_R_ifT 24 rfl rfl b16 h) ?_
      refine pj_X_of (fun r h => pj_R_to (G0, 26, [(0, .ref 1), (1, .int p), (2, .int bk)], [.ref 1, .int (Int32.ofInt 1)], 0, 0) 26 3 (fun _ => rfl) h) ?_
      refine pj_X_of (fun r h => pj_T_gr hI rfl rfl rfl h) ?_
      refine pj_X_of (fun r h => pj_T_gr hI rfl rfl rfl h) ?_
      refine pj_X_of (fun r h => pj_T_gr hI rfl rfl rfl h) ?_
      refine pj_X_of (fun r h => pj_R_to (G0, 36, [(0, .ref 1), (1, .int p), (2, .int bk)], [.int p, .ref 26, .int (Int32.ofInt 1)], 0, 0) 36 2 (fun _ => rfl) h) ?_
      refine pj_X_of (fun r h => pj_T_il hI rfl rfl (by omega) (by omega) h) ?_
      show pj_X _ _ G0 37 [(0, .ref 1), (1, .int p), (2, .int bk)] [.int (pj_ai G0 26 p.toInt.toNat), .int (Int32.ofInt 1)] _
      obtain ⟨z17, hz17⟩ : ∃ z : Int32, z = pj_ai G0 26 p.toInt.toNat := ⟨_, rfl⟩
      rw [← hz17]
      have ez17 : (pj_ai G0 26 p.toInt.toNat).toInt = z17.toInt := by rw [hz17]
      have fz17_0 : (0 : Int) ≤ z17.toInt ∧ z17.toInt ≤ 7 ∧ (z17.toInt ≤ 0 ∨ 0 ≤ z17.toInt) := by rw [hz17]; exact hI.2.2.1 26 (6, 0, 7, 0, 0) rfl _ (by show _ < 6; omega)
      refine pj_X_of (fun r h => pj_R_to (G0, 38, [(0, .ref 1), (1, .int p), (2, .int bk)], [.int ((Int32.ofInt 1) <<< (z17 &&& 31))], 0, 0) 38 2 (fun _ => rfl) h) ?_
      obtain ⟨z18, hz18⟩ : ∃ z : Int32, z = (Int32.ofInt 1) <<< (z17 &&& 31) := ⟨_, rfl⟩
      rw [← hz18]
      have fz18_0 : 1 ≤ z18.toInt ∧ z18.toInt ≤ 128 := by rw [hz18]; exact pj_shlI7 (by omega) (by omega)
      refine pj_X_of (fun r h => pj_R_to (G0, 42, [(4, .int (Int32.ofInt 0)), (3, .int z18), (0, .ref 1), (1, .int p), (2, .int bk)], [], 0, 0) 42 4 (fun _ => rfl) h) ?_
      exact pj_X_sub [(0, .ref 1), (1, .int p), (2, .int bk), (3, .int z18), (4, .int (Int32.ofInt 0))] (show List.Nodup [0, 1, 2, 3, 4] by decide) ⟨rfl, rfl, rfl, rfl, rfl, trivial⟩ ((lp_ct_136 G0 hI p bk  101) G0 hI hK z18 (Int32.ofInt 0) (pj_i32 _) ⟨by omega, by omega⟩ (by omega) (by omega))
    | false =>
      have ub16 := pj_u0_neF b16
      refine pj_X_of (fun r h => pj_R_ifF rfl b16 h) ?_
      refine pj_X_of (fun r h => pj_R_to (G0, 23, [(0, .ref 1), (1, .int p), (2, .int bk)], [.int (Int32.ofInt (-1))], 0, 0) 23 2 (fun _ => rfl) h) ?_
      exact pj_X_rt rfl rfl ⟨_, rfl, hI, hK, pj_i32 _⟩
def kc_137 : pj_KT := ([(4, 1)], [4, 5], [])
theorem ct_137 (G0 : pj_G) (hI : pj_Inv G0) (p : Int32) (bk : Int32) : pj_Y 7 137 [.ref 1, .int p, .int bk] G0 (fun v G' => ∃ y : Int32, v = some (.int y) ∧ pj_Inv G' ∧ pj_kpt kc_137 G0 G' ∧ ((-2147483648 : Int) ≤ y.toInt ∧ y.toInt ≤ 2147483647)) := by
  have c0_ : ((Int8.ofInt (-2)).toInt32).toInt = -2 := by decide
  have c1_ : (Int32.ofInt (-1)).toInt = -1 := by decide
  have c2_ : (Int32.ofInt 0).toInt = 0 := by decide
  have c3_ : (Int32.ofInt 1).toInt = 1 := by decide
  have c4_ : (Int32.ofInt 2).toInt = 2 := by decide
  refine pj_Y_X (M := pj_m137) rfl rfl (Nat.le_of_ble_eq_true rfl) ?_
  have hK : pj_kpt kc_137 G0 G0 := pj_kpt_r _ _
  show pj_X _ _ G0 0 [(0, .ref 1), (1, .int p), (2, .int bk)] [] _
  refine pj_X_of (fun r h => pj_R_to (G0, 1, [(0, .ref 1), (1, .int p), (2, .int bk)], [.ref 1], 0, 0) 1 2 (fun _ => rfl) h) ?_
  refine pj_X_of (fun r h => pj_T_gr hI rfl rfl rfl h) ?_
  refine pj_X_of (fun r h => pj_R_to (G0, 5, [(0, .ref 1), (1, .int p), (2, .int bk)], [.int p, .ref 6], 0, 0) 5 2 (fun _ => rfl) h) ?_
  refine pj_X_ca (vs := [.ref 6, .int p]) rfl (fun _ => rfl) ⟨Nat.le_of_ble_eq_true rfl, Nat.le_of_ble_eq_true rfl, pj_T_rcv hI rfl⟩ ⟨rfl, rfl⟩ (pj_Y_up (by decide) (ct_96x G0 hI p)) ?_
  rintro _ _ ⟨y1, rfl, rfl, ry1, ey1, fy1⟩
  show pj_X _ _ G0 8 [(0, .ref 1), (1, .int p), (2, .int bk)] [.int y1] _
  cases b2 : pj_c1 .eq y1 0 with
  | true =>
    have ub2 := pj_u0_eqT b2
    refine pj_X_of (fun r h => pj_R_ifT 22 rfl rfl b2 h) ?_
    refine pj_X_of (fun r h => pj_R_to (G0, 23, [(0, .ref 1), (1, .int p), (2, .int bk)], [.int (Int32.ofInt (-1))], 0, 0) 23 2 (fun _ => rfl) h) ?_
    exact pj_X_rt rfl rfl ⟨_, rfl, hI, hK, pj_i32 _⟩
  | false =>
    have ub2 := pj_u0_eqF b2
    refine pj_X_of (fun r h => pj_R_ifF rfl b2 h) ?_
    refine pj_X_of (fun r h => pj_R_to (G0, 12, [(0, .ref 1), (1, .int p), (2, .int bk)], [.ref 1], 0, 0) 12 2 (fun _ => rfl) h) ?_
    refine pj_X_of (fun r h => pj_T_gr hI rfl rfl rfl h) ?_
    refine pj_X_of (fun r h => pj_R_to (G0, 16, [(0, .ref 1), (1, .int p), (2, .int bk)], [.int bk, .ref 6], 0, 0) 16 2 (fun _ => rfl) h) ?_
    refine pj_X_ca (vs := [.ref 6, .int bk]) rfl (fun _ => rfl) ⟨Nat.le_of_ble_eq_true rfl, Nat.le_of_ble_eq_true rfl, pj_T_rcv hI rfl⟩ ⟨rfl, rfl⟩ (pj_Y_up (by decide) (ct_93 G0 hI bk)) ?_
    rintro _ _ ⟨y3, rfl, rfl, ry3⟩
    show pj_X _ _ G0 19 [(0, .ref 1), (1, .int p), (2, .int bk)] [.int y3] _
    cases b4 : pj_c1 .ne y3 0 with
    | true =>
      have ub4 := pj_u0_neT b4
      refine pj_X_of (fun r h => pj_R_ifT 24 rfl rfl b4 h) ?_
      refine pj_X_of (fun r h => pj_R_to (G0, 25, [(0, .ref 1), (1, .int p), (2, .int bk)], [.ref 1], 0, 0) 25 2 (fun _ => rfl) h) ?_
      refine pj_X_of (fun r h => pj_T_gr hI rfl rfl rfl h) ?_
      refine pj_X_of (fun r h => pj_R_to (G0, 29, [(0, .ref 1), (1, .int p), (2, .int bk)], [.ref 1, .ref 6], 0, 0) 29 2 (fun _ => rfl) h) ?_
      refine pj_X_of (fun r h => pj_T_gr hI rfl rfl rfl h) ?_
      refine pj_X_of (fun r h => pj_T_gr hI rfl rfl rfl h) ?_
      refine pj_X_of (fun r h => pj_R_to (G0, 36, [(0, .ref 1), (1, .int p), (2, .int bk)], [.int p, .ref 32, .ref 6], 0, 0) 36 2 (fun _ => rfl) h) ?_
      refine pj_X_of (fun r h => pj_T_il hI rfl rfl (by omega) (by omega) h) ?_
      show pj_X _ _ G0 37 [(0, .ref 1), (1, .int p), (2, .int bk)] [.int (pj_ai G0 32 p.toInt.toNat), .ref 6] _
      obtain ⟨z5, hz5⟩ : ∃ z : Int32, z = pj_ai G0 32 p.toInt.toNat := ⟨_, rfl⟩
      rw [← hz5]
      have ez5 : (pj_ai G0 32 p.toInt.toNat).toInt = z5.toInt := by rw [hz5]
      refine pj_X_of (fun r h => pj_R_to (G0, 38, [(0, .ref 1), (1, .int p), (2, .int bk)], [.int (Int32.ofInt 0), .int z5, .ref 6], 0, 0) 38 2 (fun _ => rfl) h) ?_
      refine pj_X_ca (vs := [.ref 6, .int z5, .int (Int32.ofInt 0)]) rfl (fun _ => rfl) ⟨Nat.le_of_ble_eq_true rfl, Nat.le_of_ble_eq_true rfl, pj_T_rcv hI rfl⟩ ⟨rfl, rfl⟩ (pj_Y_up (by decide) (ct_108 G0 hI z5 (Int32.ofInt 0))) ?_
      rintro _ _ ⟨y6, rfl, rfl, ry6⟩
      show pj_X _ _ G0 41 [(0, .ref 1), (1, .int p), (2, .int bk)] [.int y6] _
      refine pj_X_of (fun r h => pj_R_to (G0, 43, [(3, .int y6), (0, .ref 1), (1, .int p), (2, .int bk)], [.ref 1], 0, 0) 43 3 (fun _ => rfl) h) ?_
      refine pj_X_of (fun r h => pj_T_gr hI rfl rfl rfl h) ?_
      refine pj_X_gm hI rfl rfl (fun q7 => ?_) (fun q7 => ?_)
      · refine pj_X_of (fun r h => pj_R_to (G0, 50, [(3, .int y6), (0, .ref 1), (1, .int p), (2, .int bk)], [.ref 1, .ref 7], 0, 0) 50 2 (fun _ => rfl) h) ?_
        refine pj_X_of (fun r h => pj_T_gr hI rfl rfl rfl h) ?_
        refine pj_X_of (fun r h => pj_T_gr hI rfl rfl rfl h) ?_
        refine pj_X_of (fun r h => pj_T_gr hI rfl rfl rfl h) ?_
        refine pj_X_of (fun r h => pj_R_to (G0, 60, [(3, .int y6), (0, .ref 1), (1, .int p), (2, .int bk)], [.int p, .ref 26, .ref 7], 0, 0) 60 2 (fun _ => rfl) h) ?_
        refine pj_X_of (fun r h => pj_T_il hI rfl rfl (by omega) (by omega) h) ?_
        show pj_X _ _ G0 61 [(3, .int y6), (0, .ref 1), (1, .int p), (2, .int bk)] [.int (pj_ai G0 26 p.toInt.toNat), .ref 7] _
        obtain ⟨z8, hz8⟩ : ∃ z : Int32, z = pj_ai G0 26 p.toInt.toNat := ⟨_, rfl⟩
        rw [← hz8]
        have ez8 : (pj_ai G0 26 p.toInt.toNat).toInt = z8.toInt := by rw [hz8]
        have fz8_0 : (0 : Int) ≤ z8.toInt ∧ z8.toInt ≤ 7 ∧ (z8.toInt ≤ 0 ∨ 0 ≤ z8.toInt) := by rw [hz8]; exact hI.2.2.1 26 (6, 0, 7, 0, 0) rfl _ (by show _ < 6; omega)
        refine pj_X_of (fun r h => pj_R_to (G0, 63, [(3, .int y6), (0, .ref 1), (1, .int p), (2, .int bk)], [.int y6, .int bk, .int z8, .ref 7], 0, 0) 63 3 (fun _ => rfl) h) ?_
        refine pj_X_ca (vs := [.ref 7, .int z8, .int bk, .int y6]) rfl (fun _ => rfl) ⟨Nat.le_of_ble_eq_true rfl, Nat.le_of_ble_eq_true rfl, pj_T_rcv hI rfl⟩ ⟨rfl, rfl⟩ (pj_Y_up (by decide) (ct_48_7 G0 hI z8 bk y6)) ?_
        rintro _ _ ⟨y9, rfl, rfl, ry9⟩
        show pj_X _ _ G0 66 [(3, .int y6), (0, .ref 1), (1, .int p), (2, .int bk)] [.int y9] _
        cases b10 : pj_c1 .eq y9 0 with
        | true =>
          have ub10 := pj_u0_eqT b10
          refine pj_X_of (fun r h => pj_R_ifT 78 rfl rfl b10 h) ?_
          refine pj_X_of (fun r h => pj_R_to (G0, 79, [(3, .int y6), (0, .ref 1), (1, .int p), (2, .int bk)], [.ref 1], 0, 0) 79 2 (fun _ => rfl) h) ?_
          refine pj_X_of (fun r h => pj_T_gr hI rfl rfl rfl h) ?_
          refine pj_X_of (fun r h => pj_R_to (G0, 83, [(3, .int y6), (0, .ref 1), (1, .int p), (2, .int bk)], [.ref 1, .ref 6], 0, 0) 83 2 (fun _ => rfl) h) ?_
          refine pj_X_of (fun r h => pj_T_gr hI rfl rfl rfl h) ?_
          refine pj_X_of (fun r h => pj_R_to (G0, 89, [(3, .int y6), (0, .ref 1), (1, .int p), (2, .int bk)], [.int y6, .int bk, .int p, .ref 4, .ref 6], 0, 0) 89 4 (fun _ => rfl) h) ?_
          refine pj_X_ca (vs := [.ref 6, .ref 4, .int p, .int bk, .int y6]) rfl (fun _ => rfl) ⟨Nat.le_of_ble_eq_true rfl, Nat.le_of_ble_eq_true rfl, pj_T_rcv hI rfl⟩ ⟨rfl, rfl⟩ (pj_Y_up (by decide) (ct_112 G0 hI p bk y6 ⟨by omega, by omega⟩)) ?_
          rintro _ G12 ⟨y11, rfl, iG12, jG12, ry11⟩
          have kG12 : pj_kpt kc_137 G0 G12 := pj_kpt_t hK (pj_kpt_s jG12 rfl)
          show pj_X _ _ G12 92 [(3, .int y6), (0, .ref 1), (1, .int p), (2, .int bk)] [.int y11] _
          cases b13 : pj_c1 .eq y11 0 with
          | true =>
            have ub13 := pj_u0_eqT b13
            refine pj_X_of (fun r h => pj_R_ifT 97 rfl rfl b13 h) ?_
            refine pj_X_of (fun r h => pj_R_to (G12, 98, [(3, .int y6), (0, .ref 1), (1, .int p), (2, .int bk)], [.ref 1], 0, 0) 98 2 (fun _ => rfl) h) ?_
            refine pj_X_of (fun r h => pj_T_gr iG12 rfl rfl rfl h) ?_
            refine pj_X_of (fun r h => pj_R_to (G12, 102, [(3, .int y6), (0, .ref 1), (1, .int p), (2, .int bk)], [.ref 1, .ref 6], 0, 0) 102 2 (fun _ => rfl) h) ?_
            refine pj_X_of (fun r h => pj_T_gr iG12 rfl rfl rfl h) ?_
            refine pj_X_of (fun r h => pj_R_to (G12, 108, [(3, .int y6), (0, .ref 1), (1, .int p), (2, .int bk)], [.int y6, .int bk, .int p, .ref 4, .ref 6], 0, 0) 108 4 (fun _ => rfl) h) ?_
            refine pj_X_ca (vs := [.ref 6, .ref 4, .int p, .int bk, .int y6]) rfl (fun _ => rfl) ⟨Nat.le_of_ble_eq_true rfl, Nat.le_of_ble_eq_true rfl, pj_T_rcv iG12 rfl⟩ ⟨rfl, rfl⟩ (pj_Y_up (by decide) (ct_113 G12 iG12 p bk y6 ⟨by omega, by omega⟩)) ?_
            rintro _ G15 ⟨y14, rfl, iG15, jG15, ry14⟩
            have kG15 : pj_kpt kc_137 G0 G15 := pj_kpt_t kG12 (pj_kpt_s jG15 rfl)
            show pj_X _ _ G15 111 [(3, .int y6), (0, .ref 1), (1, .int p), (2, .int bk)] [.int y14] _
            cases b16 : pj_c1 .eq y14 0 with
            | true =>
              have ub16 := pj_u0_eqT b16
              refine pj_X_of (fun r h => pj_R_ifT 118 rfl rfl b16 h) ?_
              refine pj_X_of (fun r h => pj_R_to (G15, 120, [(3, .int y6), (0, .ref 1), (1, .int p), (2, .int bk)], [.int ((Int8.ofInt (-2)).toInt32)], 0, 0) 120 2 (fun _ => rfl) h) ?_
              exact pj_X_rt rfl rfl ⟨_, rfl, iG15, kG15, pj_i32 _⟩
            | false =>
              have ub16 := pj_u0_eqF b16
              refine pj_X_of (fun r h => pj_R_ifF rfl b16 h) ?_
              refine pj_X_of (fun r h => pj_R_to (G15, 120, [(3, .int y6), (0, .ref 1), (1, .int p), (2, .int bk)], [.int (Int32.ofInt 2)], 0, 0) 120 3 (fun _ => rfl) h) ?_
              exact pj_X_rt rfl rfl ⟨_, rfl, iG15, kG15, pj_i32 _⟩
          | false =>
            have ub13 := pj_u0_eqF b13
            refine pj_X_of (fun r h => pj_R_ifF rfl b13 h) ?_
            refine pj_X_of (fun r h => pj_R_to (G12, 96, [(3, .int y6), (0, .ref 1), (1, .int p), (2, .int bk)], [.int (Int32.ofInt 1)], 0, 0) 96 2 (fun _ => rfl) h) ?_
            exact pj_X_rt rfl rfl ⟨_, rfl, iG12, kG12, pj_i32 _⟩
        | false =>
          have ub10 := pj_u0_eqF b10
          refine pj_X_of (fun r h => pj_R_ifF rfl b10 h) ?_
          refine pj_X_of (fun r h => pj_R_to (G0, 70, [(3, .int y6), (0, .ref 1), (1, .int p), (2, .int bk)], [.ref 1], 0, 0) 70 2 (fun _ => rfl) h) ?_
          refine pj_X_of (fun r h => pj_T_gr hI rfl rfl rfl h) ?_
          refine pj_X_ca (vs := [.ref 4]) rfl (fun _ => rfl) ⟨Nat.le_of_ble_eq_true rfl, Nat.le_of_ble_eq_true rfl, pj_T_rcv hI rfl⟩ ⟨rfl, rfl⟩ (pj_Y_up (by decide) (ct_53x G0 hI)) ?_
          rintro _ G18 ⟨rfl, iG18, jG18, fy17⟩
          have kG18 : pj_kpt kc_137 G0 G18 := pj_kpt_t hK (pj_kpt_s jG18 rfl)
          show pj_X _ _ G18 76 [(3, .int y6), (0, .ref 1), (1, .int p), (2, .int bk)] [] _
          refine pj_X_of (fun r h => pj_R_to (G18, 77, [(3, .int y6), (0, .ref 1), (1, .int p), (2, .int bk)], [.int (Int32.ofInt 0)], 0, 0) 77 2 (fun _ => rfl) h) ?_
          exact pj_X_rt rfl rfl ⟨_, rfl, iG18, kG18, pj_i32 _⟩
      · refine pj_X_of (fun r h => pj_R_to (G0, 50, [(3, .int y6), (0, .ref 1), (1, .int p), (2, .int bk)], [.ref 1, .ref 14], 0, 0) 50 2 (fun _ => rfl) h) ?_
        refine pj_X_of (fun r h => pj_T_gr hI rfl rfl rfl h) ?_
        refine pj_X_of (fun r h => pj_T_gr hI rfl rfl rfl h) ?_
        refine pj_X_of (fun r h => pj_T_gr hI rfl rfl rfl h) ?_
        refine pj_X_of (fun r h => pj_R_to (G0, 60, [(3, .int y6), (0, .ref 1), (1, .int p), (2, .int bk)], [.int p, .ref 26, .ref 14], 0, 0) 60 2 (fun _ => rfl) h) ?_
        refine pj_X_of (fun r h => pj_T_il hI rfl rfl (by omega) (by omega) h) ?_
        show pj_X _ _ G0 61 [(3, .int y6), (0, .ref 1), (1, .int p), (2, .int bk)] [.int (pj_ai G0 26 p.toInt.toNat), .ref 14] _
        obtain ⟨z19, hz19⟩ : ∃ z : Int32, z = pj_ai G0 26 p.toInt.toNat := ⟨_, rfl⟩
        rw [← hz19]
        have ez19 : (pj_ai G0 26 p.toInt.toNat).toInt = z19.toInt := by rw [hz19]
        have fz19_0 : (0 : Int) ≤ z19.toInt ∧ z19.toInt ≤ 7 ∧ (z19.toInt ≤ 0 ∨ 0 ≤ z19.toInt) := by rw [hz19]; exact hI.2.2.1 26 (6, 0, 7, 0, 0) rfl _ (by show _ < 6; omega)
        refine pj_X_of (fun r h => pj_R_to (G0, 63, [(3, .int y6), (0, .ref 1), (1, .int p), (2, .int bk)], [.int y6, .int bk, .int z19, .ref 14], 0, 0) 63 3 (fun _ => rfl) h) ?_
        refine pj_X_ca (vs := [.ref 14, .int z19, .int bk, .int y6]) rfl (fun _ => rfl) ⟨Nat.le_of_ble_eq_true rfl, Nat.le_of_ble_eq_true rfl, pj_T_rcv hI rfl⟩ ⟨rfl, rfl⟩ (pj_Y_up (by decide) (ct_48_14 G0 hI z19 bk y6)) ?_
        rintro _ _ ⟨y20, rfl, rfl, ry20⟩
        show pj_X _ _ G0 66 [(3, .int y6), (0, .ref 1), (1, .int p), (2, .int bk)] [.int y20] _
        cases b21 : pj_c1 .eq y20 0 with
        | true =>
          have ub21 := pj_u0_eqT b21
          refine pj_X_of (fun r h => pj_R_ifT 78 rfl rfl b21 h) ?_
          refine pj_X_of (fun r h => pj_R_to (G0, 79, [(3, .int y6), (0, .ref 1), (1, .int p), (2, .int bk)], [.ref 1], 0, 0) 79 2 (fun _ => rfl) h) ?_
          refine pj_X_of (fun r h => pj_T_gr hI rfl rfl rfl h) ?_
          refine pj_X_of (fun r h => pj_R_to (G0, 83, [(3, .int y6), (0, .ref 1), (1, .int p), (2, .int bk)], [.ref 1, .ref 6], 0, 0) 83 2 (fun _ => rfl) h) ?_
          refine pj_X_of (fun r h => pj_T_gr hI rfl rfl rfl h) ?_
          refine pj_X_of (fun r h => pj_R_to (G0, 89, [(3, .int y6), (0, .ref 1), (1, .int p), (2, .int bk)], [.int y6, .int bk, .int p, .ref 4, .ref 6], 0, 0) 89 4 (fun _ => rfl) h) ?_
          refine pj_X_ca (vs := [.ref 6, .ref 4, .int p, .int bk, .int y6]) rfl (fun _ => rfl) ⟨Nat.le_of_ble_eq_true rfl, Nat.le_of_ble_eq_true rfl, pj_T_rcv hI rfl⟩ ⟨rfl, rfl⟩ (pj_Y_up (by decide) (ct_112 G0 hI p bk y6 ⟨by omega, by omega⟩)) ?_
          rintro _ G23 ⟨y22, rfl, iG23, jG23, ry22⟩
          have kG23 : pj_kpt kc_137 G0 G23 := pj_kpt_t hK (pj_kpt_s jG23 rfl)
          show pj_X _ _ G23 92 [(3, .int y6), (0, .ref 1), (1, .int p), (2, .int bk)] [.int y22] _
          cases b24 : pj_c1 .eq y22 0 with
          | true =>
            have ub24 := pj_u0_eqT b24
            refine pj_X_of (fun r h => pj_R_ifT 97 rfl rfl b24 h) ?_
            refine pj_X_of (fun r h => pj_R_to (G23, 98, [(3, .int y6), (0, .ref 1), (1, .int p), (2, .int bk)], [.ref 1], 0, 0) 98 2 (fun _ => rfl) h) ?_
            refine pj_X_of (fun r h => pj_T_gr iG23 rfl rfl rfl h) ?_
            refine pj_X_of (fun r h => pj_R_to (G23, 102, [(3, .int y6), (0, .ref 1), (1, .int p), (2, .int bk)], [.ref 1, .ref 6], 0, 0) 102 2 (fun _ => rfl) h) ?_
            refine pj_X_of (fun r h => pj_T_gr iG23 rfl rfl rfl h) ?_
            refine pj_X_of (fun r h => pj_R_to (G23, 108, [(3, .int y6), (0, .ref 1), (1, .int p), (2, .int bk)], [.int y6, .int bk, .int p, .ref 4, .ref 6], 0, 0) 108 4 (fun _ => rfl) h) ?_
            refine pj_X_ca (vs := [.ref 6, .ref 4, .int p, .int bk, .int y6]) rfl (fun _ => rfl) ⟨Nat.le_of_ble_eq_true rfl, Nat.le_of_ble_eq_true rfl, pj_T_rcv iG23 rfl⟩ ⟨rfl, rfl⟩ (pj_Y_up (by decide) (ct_113 G23 iG23 p bk y6 ⟨by omega, by omega⟩)) ?_
            rintro _ G26 ⟨y25, rfl, iG26, jG26, ry25⟩
            have kG26 : pj_kpt kc_137 G0 G26 := pj_kpt_t kG23 (pj_kpt_s jG26 rfl)
            show pj_X _ _ G26 111 [(3, .int y6), (0, .ref 1), (1, .int p), (2, .int bk)] [.int y25] _
            cases b27 : pj_c1 .eq y25 0 with
            | true =>
              have ub27 := pj_u0_eqT b27
              refine pj_X_of (fun r h => pj_R_ifT 118 rfl rfl b27 h) ?_
              refine pj_X_of (fun r h => pj_R_to (G26, 120, [(3, .int y6), (0, .ref 1), (1, .int p), (2, .int bk)], [.int ((Int8.ofInt (-2)).toInt32)], 0, 0) 120 2 (fun _ => rfl) h) ?_
              exact pj_X_rt rfl rfl ⟨_, rfl, iG26, kG26, pj_i32 _⟩
            | false =>
              have ub27 := pj_u0_eqF b27
              refine pj_X_of (fun r h => pj_R_ifF rfl b27 h) ?_
              refine pj_X_of (fun r h => pj_R_to (G26, 120, [(3, .int y6), (0, .ref 1), (1, .int p), (2, .int bk)], [.int (Int32.ofInt 2)], 0, 0) 120 3 (fun _ => rfl) h) ?_
              exact pj_X_rt rfl rfl ⟨_, rfl, iG26, kG26, pj_i32 _⟩
          | false =>
            have ub24 := pj_u0_eqF b24
            refine pj_X_of (fun r h => pj_R_ifF rfl b24 h) ?_
            refine pj_X_of (fun r h => pj_R_to (G23, 96, [(3, .int y6), (0, .ref 1), (1, .int p), (2, .int bk)], [.int (Int32.ofInt 1)], 0, 0) 96 2 (fun _ => rfl) h) ?_
            exact pj_X_rt rfl rfl ⟨_, rfl, iG23, kG23, pj_i32 _⟩
        | false =>
          have ub21 := pj_u0_eqF b21
          refine pj_X_of (fun r h => pj_R_ifF rfl b21 h) ?_
          refine pj_X_of (fun r h => pj_R_to (G0, 70, [(3, .int y6), (0, .ref 1), (1, .int p), (2, .int bk)], [.ref 1], 0, 0) 70 2 (fun _ => rfl) h) ?_
          refine pj_X_of (fun r h => pj_T_gr hI rfl rfl rfl h) ?_
          refine pj_X_ca (vs := [.ref 4]) rfl (fun _ => rfl) ⟨Nat.le_of_ble_eq_true rfl, Nat.le_of_ble_eq_true rfl, pj_T_rcv hI rfl⟩ ⟨rfl, rfl⟩ (pj_Y_up (by decide) (ct_53x G0 hI)) ?_
          rintro _ G29 ⟨rfl, iG29, jG29, fy28⟩
          have kG29 : pj_kpt kc_137 G0 G29 := pj_kpt_t hK (pj_kpt_s jG29 rfl)
          show pj_X _ _ G29 76 [(3, .int y6), (0, .ref 1), (1, .int p), (2, .int bk)] [] _
          refine pj_X_of (fun r h => pj_R_to (G29, 77, [(3, .int y6), (0, .ref 1), (1, .int p), (2, .int bk)], [.int (Int32.ofInt 0)], 0, 0) 77 2 (fun _ => rfl) h) ?_
          exact pj_X_rt rfl rfl ⟨_, rfl, iG29, kG29, pj_i32 _⟩
    | false =>
      have ub4 := pj_u0_neF b4
      refine pj_X_of (fun r h => pj_R_ifF rfl b4 h) ?_
      refine pj_X_of (fun r h => pj_R_to (G0, 23, [(0, .ref 1), (1, .int p), (2, .int bk)], [.int (Int32.ofInt (-1))], 0, 0) 23 2 (fun _ => rfl) h) ?_
      exact pj_X_rt rfl rfl ⟨_, rfl, hI, hK, pj_i32 _⟩
def kc_138 : pj_KT := ([(4, 1)], [4, 5], [])
theorem lp_ct_138 (G0 : pj_G) (hI0 : pj_Inv G0) : ∀ mn : Nat, (∀ (G : pj_G) (hI : pj_Inv G) (hK : pj_kpt kc_138 G0 G) (v1 : Int32) (v2 : Int32) (v3 : Int32) (v4 : Int32), ((-2147483648 : Int) ≤ v1.toInt ∧ v1.toInt ≤ 2147483647) → ((-2147483648 : Int) ≤ v2.toInt ∧ v2.toInt ≤ 2147483647) → ((-2147483648 : Int) ≤ v3.toInt ∧ v3.toInt ≤ 2147483647) → ((0 : Int) ≤ v4.toInt ∧ v4.toInt ≤ 6) → 6 - v4.toInt < (mn : Int) → pj_X 4 pj_m138 G 17 [(0, .ref 1), (1, .int v1), (2, .int v2), (3, .int v3), (4, .int v4)] [] (fun v G' => ∃ y : Int32, v = some (.int y) ∧ pj_Inv G' ∧ pj_kpt kc_138 G0 G' ∧ ((-2147483648 : Int) ≤ y.toInt ∧ y.toInt ≤ 2147483647))) := by
  have c0_ : ((Int8.ofInt (-2)).toInt32).toInt = -2 := by decide
  have c1_ : (Int32.ofInt (-1)).toInt = -1 := by decide
  have c2_ : (Int32.ofInt 0).toInt = 0 := by decide
  have c3_ : (Int32.ofInt 1).toInt = 1 := by decide
  intro mn
  induction mn with
  | zero =>
    intro G hI hK v1 v2 v3 v4 rv1 rv2 rv3 rv4 hm
    exfalso
    omega
  | succ mn ih =>
    intro G hI hK v1 v2 v3 v4 rv1 rv2 rv3 rv4 hm
    refine pj_X_of (fun r h => pj_R_to (G, 20, [(0, .ref 1), (1, .int v1), (2, .int v2), (3, .int v3), (4, .int v4)], [.ref 1, .int v4], 0, 0) 20 3 (fun _ => rfl) h) ?_
    refine pj_X_of (fun r h => pj_T_gr hI rfl rfl rfl h) ?_
    refine pj_X_of (fun r h => pj_T_gr hI rfl rfl rfl h) ?_
    refine pj_X_of (fun r h => pj_T_gi hI rfl rfl h) ?_
    show pj_X _ _ G 29 [(0, .ref 1), (1, .int v1), (2, .int v2), (3, .int v3), (4, .int v4)] [.int (pj_fi G 21 0), .int v4] _
    obtain ⟨y1, hy1⟩ : ∃ z : Int32, z = pj_fi G 21 0 := ⟨_, rfl⟩
    rw [← hy1]
    have ey1 : (pj_fi G 21 0).toInt = y1.toInt := by rw [hy1]
    have ry1 : (0 : Int) ≤ y1.toInt ∧ y1.toInt ≤ 6 := by rw [hy1]; exact hI.2.1 21 0 (0, 6) rfl
    cases b2 : pj_c1 .ge v4 y1 with
    | true =>
      have ub2 := pj_u_geT b2
      refine pj_X_of (fun r h => pj_R_icT 101 rfl rfl b2 h) ?_
      refine pj_X_of (fun r h => pj_R_to (G, 103, [(0, .ref 1), (1, .int v1), (2, .int v2), (3, .int v3), (4, .int v4)], [.int (Int32.ofInt (-1)), .int v2], 0, 0) 103 3 (fun _ => rfl) h) ?_
      cases b3 : pj_c1 .ne v2 (Int32.ofInt (-1)) with
      | true =>
        have ub3 := pj_u_neT b3
        refine pj_X_of (fun r h => pj_R_icT 109 rfl rfl b3 h) ?_
        refine pj_X_of (fun r h => pj_R_to (G, 110, [(0, .ref 1), (1, .int v1), (2, .int v2), (3, .int v3), (4, .int v4)], [.ref 1], 0, 0) 110 2 (fun _ => rfl) h) ?_
        refine pj_X_of (fun r h => pj_T_gr hI rfl rfl rfl h) ?_
        refine pj_X_of (fun r h => pj_R_to (G, 116, [(0, .ref 1), (1, .int v1), (2, .int v2), (3, .int v3), (4, .int v4)], [.ref 1, .long v3.toInt64, .ref 4], 0, 0) 116 4 (fun _ => rfl) h) ?_
        refine pj_X_of (fun r h => pj_T_gr hI rfl rfl rfl h) ?_
        refine pj_X_gm hI rfl rfl (fun q4 => ?_) (fun q4 => ?_)
        · refine pj_X_of (fun r h => pj_R_to (G, 123, [(0, .ref 1), (1, .int v1), (2, .int v2), (3, .int v3), (4, .int v4)], [.int v1, .ref 7, .long v3.toInt64, .ref 4], 0, 0) 123 2 (fun _ => rfl) h) ?_
          refine pj_X_ca (vs := [.ref 7, .int v1]) rfl (fun _ => rfl) ⟨Nat.le_of_ble_eq_true rfl, Nat.le_of_ble_eq_true rfl, pj_T_rcv hI rfl⟩ ⟨rfl, rfl⟩ (pj_Y_up (by decide) (ct_49_7 G hI v1)) ?_
          rintro _ _ ⟨y5, rfl, rfl, ry5⟩
          show pj_X _ _ G 126 [(0, .ref 1), (1, .int v1), (2, .int v2), (3, .int v3), (4, .int v4)] [.int y5, .long v3.toInt64, .ref 4] _
          refine pj_X_of (fun r h => pj_R_to (G, 127, [(0, .ref 1), (1, .int v1), (2, .int v2), (3, .int v3), (4, .int v4)], [.long y5.toInt64, .long v3.toInt64, .ref 4], 0, 0) 127 2 (fun _ => rfl) h) ?_
          have lc6 : (v3.toInt64).toInt = v3.toInt := Int32.toInt_toInt64 _
          have lc7 : (y5.toInt64).toInt = y5.toInt := Int32.toInt_toInt64 _
          refine pj_X_ca (vs := [.ref 4, .long v3.toInt64, .long y5.toInt64]) rfl (fun _ => rfl) ⟨Nat.le_of_ble_eq_true rfl, Nat.le_of_ble_eq_true rfl, pj_T_rcv hI rfl⟩ ⟨rfl, rfl⟩ (pj_Y_up (by decide) (ct_56x G hI v3.toInt64 y5.toInt64)) ?_
          rintro _ G9 ⟨rfl, iG9, jG9, fy8⟩
          have kG9 : pj_kpt kc_138 G0 G9 := pj_kpt_t hK (pj_kpt_s jG9 rfl)
          show pj_X _ _ G9 130 [(0, .ref 1), (1, .int v1), (2, .int v2), (3, .int v3), (4, .int v4)] [] _
          refine pj_X_of (fun r h => pj_R_to (G9, 131, [(0, .ref 1), (1, .int v1), (2, .int v2), (3, .int v3), (4, .int v4)], [.int v2], 0, 0) 131 2 (fun _ => rfl) h) ?_
          exact pj_X_rt rfl rfl ⟨_, rfl, iG9, kG9, pj_i32 _⟩
        · refine pj_X_of (fun r h => pj_R_to (G, 123, [(0, .ref 1), (1, .int v1), (2, .int v2), (3, .int v3), (4, .int v4)], [.int v1, .ref 14, .long v3.toInt64, .ref 4], 0, 0) 123 2 (fun _ => rfl) h) ?_
          refine pj_X_ca (vs := [.ref 14, .int v1]) rfl (fun _ => rfl) ⟨Nat.le_of_ble_eq_true rfl, Nat.le_of_ble_eq_true rfl, pj_T_rcv hI rfl⟩ ⟨rfl, rfl⟩ (pj_Y_up (by decide) (ct_49_14 G hI v1)) ?_
          rintro _ _ ⟨y10, rfl, rfl, ry10⟩
          show pj_X _ _ G 126 [(0, .ref 1), (1, .int v1), (2, .int v2), (3, .int v3), (4, .int v4)] [.int y10, .long v3.toInt64, .ref 4] _
          refine pj_X_of (fun r h => pj_R_to (G, 127, [(0, .ref 1), (1, .int v1), (2, .int v2), (3, .int v3), (4, .int v4)], [.long y10.toInt64, .long v3.toInt64, .ref 4], 0, 0) 127 2 (fun _ => rfl) h) ?_
          have lc11 : (v3.toInt64).toInt = v3.toInt := Int32.toInt_toInt64 _
          have lc12 : (y10.toInt64).toInt = y10.toInt := Int32.toInt_toInt64 _
          refine pj_X_ca (vs := [.ref 4, .long v3.toInt64, .long y10.toInt64]) rfl (fun _ => rfl) ⟨Nat.le_of_ble_eq_true rfl, Nat.le_of_ble_eq_true rfl, pj_T_rcv hI rfl⟩ ⟨rfl, rfl⟩ (pj_Y_up (by decide) (ct_56x G hI v3.toInt64 y10.toInt64)) ?_
          rintro _ G14 ⟨rfl, iG14, jG14, fy13⟩
          have kG14 : pj_kpt kc_138 G0 G14 := pj_kpt_t hK (pj_kpt_s jG14 rfl)
          show pj_X _ _ G14 130 [(0, .ref 1), (1, .int v1), (2, .int v2), (3, .int v3), (4, .int v4)] [] _
          refine pj_X_of (fun r h => pj_R_to (G14, 131, [(0, .ref 1), (1, .int v1), (2, .int v2), (3, .int v3), (4, .int v4)], [.int v2], 0, 0) 131 2 (fun _ => rfl) h) ?_
          exact pj_X_rt rfl rfl ⟨_, rfl, iG14, kG14, pj_i32 _⟩
      | false =>
        have ub3 := pj_u_neF b3
        refine pj_X_of (fun r h => pj_R_icF rfl b3 h) ?_
        refine pj_X_of (fun r h => pj_R_to (G, 108, [(0, .ref 1), (1, .int v1), (2, .int v2), (3, .int v3), (4, .int v4)], [.int ((Int8.ofInt (-2)).toInt32)], 0, 0) 108 2 (fun _ => rfl) h) ?_
        exact pj_X_rt rfl rfl ⟨_, rfl, hI, hK, pj_i32 _⟩
    | false =>
      have ub2 := pj_u_geF b2
      refine pj_X_of (fun r h => pj_R_icF rfl b2 h) ?_
      refine pj_X_of (fun r h => pj_R_to (G, 33, [(0, .ref 1), (1, .int v1), (2, .int v2), (3, .int v3), (4, .int v4)], [.ref 1], 0, 0) 33 2 (fun _ => rfl) h) ?_
      refine pj_X_of (fun r h => pj_T_gr hI rfl rfl rfl h) ?_
      refine pj_X_of (fun r h => pj_T_gr hI rfl rfl rfl h) ?_
      refine pj_X_of (fun r h => pj_R_to (G, 41, [(0, .ref 1), (1, .int v1), (2, .int v2), (3, .int v3), (4, .int v4)], [.int v4, .ref 21], 0, 0) 41 2 (fun _ => rfl) h) ?_
      refine pj_X_ca (vs := [.ref 21, .int v4]) rfl (fun _ => rfl) ⟨Nat.le_of_ble_eq_true rfl, Nat.le_of_ble_eq_true rfl, pj_T_rcv hI rfl⟩ ⟨rfl, rfl⟩ (pj_Y_up (by decide) (ct_69_21x G hI v4 ⟨by omega, by omega⟩)) ?_
      rintro _ _ ⟨y15, rfl, rfl, ry15, ey15, fy15⟩
      replace ey15 := ey15 _ rfl
      show pj_X _ _ G 44 [(0, .ref 1), (1, .int v1), (2, .int v2), (3, .int v3), (4, .int v4)] [.int y15] _
      cases b16 : pj_c1 .eq y15 0 with
      | true =>
        have ub16 := pj_u0_eqT b16
        refine pj_X_of (fun r h => pj_R_ifT 95 rfl rfl b16 h) ?_
        refine pj_X_of (fun r h => pj_R_to (G, 98, [(4, .int (v4 + Int32.ofInt 1)), (0, .ref 1), (1, .int v1), (2, .int v2), (3, .int v3)], [], 0, 0) 98 2 (fun _ => rfl) h) ?_
        obtain ⟨z17, hz17⟩ : ∃ z : Int32, z = v4 + Int32.ofInt 1 := ⟨_, rfl⟩
        rw [← hz17]
        have fz17_0 : z17.toInt = v4.toInt + (Int32.ofInt 1).toInt := by rw [hz17]; exact pj_addI (by have := pj_i32 v4; have := pj_i32 (Int32.ofInt 1); omega) (by have := pj_i32 v4; have := pj_i32 (Int32.ofInt 1); omega)
        refine pj_X_of (fun r h => pj_R_to (G, 17, [(4, .int z17), (0, .ref 1), (1, .int v1), (2, .int v2), (3, .int v3)], [], 0, 0) 17 2 (fun _ => rfl) h) ?_
        exact pj_X_sub [(0, .ref 1), (1, .int v1), (2, .int v2), (3, .int v3), (4, .int z17)] (show List.Nodup [0, 1, 2, 3, 4] by decide) ⟨rfl, rfl, rfl, rfl, rfl, trivial⟩ (ih G hI hK v1 v2 v3 z17 (pj_i32 _) (pj_i32 _) (pj_i32 _) ⟨by omega, by omega⟩ (by omega))
      | false =>
        have ub16 := pj_u0_eqF b16
        refine pj_X_of (fun r h => pj_R_ifF rfl b16 h) ?_
        refine pj_X_of (fun r h => pj_R_to (G, 48, [(0, .ref 1), (1, .int v1), (2, .int v2), (3, .int v3), (4, .int v4)], [.ref 1], 0, 0) 48 2 (fun _ => rfl) h) ?_
        refine pj_X_of (fun r h => pj_T_gr hI rfl rfl rfl h) ?_
        refine pj_X_gm hI rfl rfl (fun q18 => ?_) (fun q18 => ?_)
        · refine pj_X_of (fun r h => pj_R_to (G, 57, [(0, .ref 1), (1, .int v1), (2, .int v2), (3, .int v3), (4, .int v4)], [.ref 1, .int (Int32.ofInt 1), .int v1, .ref 7], 0, 0) 57 4 (fun _ => rfl) h) ?_
          refine pj_X_of (fun r h => pj_T_gr hI rfl rfl rfl h) ?_
          refine pj_X_of (fun r h => pj_T_gr hI rfl rfl rfl h) ?_
          refine pj_X_of (fun r h => pj_T_gr hI rfl rfl rfl h) ?_
          refine pj_X_of (fun r h => pj_R_to (G, 68, [(0, .ref 1), (1, .int v1), (2, .int v2), (3, .int v3), (4, .int v4)], [.int v4, .ref 22, .int (Int32.ofInt 1), .int v1, .ref 7], 0, 0) 68 2 (fun _ => rfl) h) ?_
          refine pj_X_of (fun r h => pj_T_il hI rfl rfl (by omega) (by omega) h) ?_
          show pj_X _ _ G 69 [(0, .ref 1), (1, .int v1), (2, .int v2), (3, .int v3), (4, .int v4)] [.int (pj_ai G 22 v4.toInt.toNat), .int (Int32.ofInt 1), .int v1, .ref 7] _
          obtain ⟨z19, hz19⟩ : ∃ z : Int32, z = pj_ai G 22 v4.toInt.toNat := ⟨_, rfl⟩
          rw [← hz19]
          have ez19 : (pj_ai G 22 v4.toInt.toNat).toInt = z19.toInt := by rw [hz19]
          have fz19_0 : (-1 : Int) ≤ z19.toInt ∧ z19.toInt ≤ 9 ∧ (z19.toInt ≤ -1 ∨ -1 ≤ z19.toInt) := by rw [hz19]; exact hI.2.2.1 22 (6, -1, 9, -1, -1) rfl _ (by show _ < 6; omega)
          refine pj_X_of (fun r h => pj_R_to (G, 70, [(0, .ref 1), (1, .int v1), (2, .int v2), (3, .int v3), (4, .int v4)], [.int ((Int32.ofInt 1) <<< (z19 &&& 31)), .int v1, .ref 7], 0, 0) 70 2 (fun _ => rfl) h) ?_
          obtain ⟨z20, hz20⟩ : ∃ z : Int32, z = (Int32.ofInt 1) <<< (z19 &&& 31) := ⟨_, rfl⟩
          rw [← hz20]
          refine pj_X_of (fun r h => pj_R_to (G, 72, [(0, .ref 1), (1, .int v1), (2, .int v2), (3, .int v3), (4, .int v4)], [.int (z20 ^^^ (Int32.ofInt (-1))), .int v1, .ref 7], 0, 0) 72 3 (fun _ => rfl) h) ?_
          obtain ⟨z21, hz21⟩ : ∃ z : Int32, z = z20 ^^^ (Int32.ofInt (-1)) := ⟨_, rfl⟩
          rw [← hz21]
          refine pj_X_of (fun r h => pj_R_to (G, 73, [(0, .ref 1), (1, .int v1), (2, .int v2), (3, .int v3), (4, .int v4)], [.int (v1 &&& z21), .ref 7], 0, 0) 73 2 (fun _ => rfl) h) ?_
          obtain ⟨z22, hz22⟩ : ∃ z : Int32, z = v1 &&& z21 := ⟨_, rfl⟩
          rw [← hz22]
          refine pj_X_ca (vs := [.ref 7, .int z22]) rfl (fun _ => rfl) ⟨Nat.le_of_ble_eq_true rfl, Nat.le_of_ble_eq_true rfl, pj_T_rcv hI rfl⟩ ⟨rfl, rfl⟩ (pj_Y_up (by decide) (ct_49_7 G hI z22)) ?_
          rintro _ _ ⟨y23, rfl, rfl, ry23⟩
          show pj_X _ _ G 76 [(0, .ref 1), (1, .int v1), (2, .int v2), (3, .int v3), (4, .int v4)] [.int y23] _
          refine pj_X_of (fun r h => pj_R_to (G, 80, [(5, .int y23), (0, .ref 1), (1, .int v1), (2, .int v2), (3, .int v3), (4, .int v4)], [.int (Int32.ofInt (-1)), .int v2], 0, 0) 80 4 (fun _ => rfl) h) ?_
          cases b24 : pj_c1 .eq v2 (Int32.ofInt (-1)) with
          | true =>
            have ub24 := pj_u_eqT b24
            refine pj_X_of (fun r h => pj_R_icT 89 rfl rfl b24 h) ?_
            refine pj_X_of (fun r h => pj_R_to (G, 98, [(4, .int (v4 + Int32.ofInt 1)), (3, .int y23), (2, .int v4), (5, .int y23), (0, .ref 1), (1, .int v1)], [], 0, 0) 98 6 (fun _ => rfl) h) ?_
            obtain ⟨z25, hz25⟩ : ∃ z : Int32, z = v4 + Int32.ofInt 1 := ⟨_, rfl⟩
            rw [← hz25]
            have fz25_0 : z25.toInt = v4.toInt + (Int32.ofInt 1).toInt := by rw [hz25]; exact pj_addI (by have := pj_i32 v4; have := pj_i32 (Int32.ofInt 1); omega) (by have := pj_i32 v4; have := pj_i32 (Int32.ofInt 1); omega)
            refine pj_X_of (fun r h => pj_R_to (G, 17, [(4, .int z25), (3, .int y23), (2, .int v4), (5, .int y23), (0, .ref 1), (1, .int v1)], [], 0, 0) 17 2 (fun _ => rfl) h) ?_
            exact pj_X_sub [(0, .ref 1), (1, .int v1), (2, .int v4), (3, .int y23), (4, .int z25)] (show List.Nodup [0, 1, 2, 3, 4] by decide) ⟨rfl, rfl, rfl, rfl, rfl, trivial⟩ (ih G hI hK v1 v4 y23 z25 (pj_i32 _) (pj_i32 _) (pj_i32 _) ⟨by omega, by omega⟩ (by omega))
          | false =>
            have ub24 := pj_u_eqF b24
            refine pj_X_of (fun r h => pj_R_icF rfl b24 h) ?_
            refine pj_X_of (fun r h => pj_R_to (G, 86, [(5, .int y23), (0, .ref 1), (1, .int v1), (2, .int v2), (3, .int v3), (4, .int v4)], [.int v3, .int y23], 0, 0) 86 3 (fun _ => rfl) h) ?_
            cases b26 : pj_c1 .ge y23 v3 with
            | true =>
              have ub26 := pj_u_geT b26
              refine pj_X_of (fun r h => pj_R_icT 95 rfl rfl b26 h) ?_
              refine pj_X_of (fun r h => pj_R_to (G, 98, [(4, .int (v4 + Int32.ofInt 1)), (5, .int y23), (0, .ref 1), (1, .int v1), (2, .int v2), (3, .int v3)], [], 0, 0) 98 2 (fun _ => rfl) h) ?_
              obtain ⟨z27, hz27⟩ : ∃ z : Int32, z = v4 + Int32.ofInt 1 := ⟨_, rfl⟩
              rw [← hz27]
              have fz27_0 : z27.toInt = v4.toInt + (Int32.ofInt 1).toInt := by rw [hz27]; exact pj_addI (by have := pj_i32 v4; have := pj_i32 (Int32.ofInt 1); omega) (by have := pj_i32 v4; have := pj_i32 (Int32.ofInt 1); omega)
              refine pj_X_of (fun r h => pj_R_to (G, 17, [(4, .int z27), (5, .int y23), (0, .ref 1), (1, .int v1), (2, .int v2), (3, .int v3)], [], 0, 0) 17 2 (fun _ => rfl) h) ?_
              exact pj_X_sub [(0, .ref 1), (1, .int v1), (2, .int v2), (3, .int v3), (4, .int z27)] (show List.Nodup [0, 1, 2, 3, 4] by decide) ⟨rfl, rfl, rfl, rfl, rfl, trivial⟩ (ih G hI hK v1 v2 v3 z27 (pj_i32 _) (pj_i32 _) (pj_i32 _) ⟨by omega, by omega⟩ (by omega))
            | false =>
              have ub26 := pj_u_geF b26
              refine pj_X_of (fun r h => pj_R_icF rfl b26 h) ?_
              refine pj_X_of (fun r h => pj_R_to (G, 98, [(4, .int (v4 + Int32.ofInt 1)), (3, .int y23), (2, .int v4), (5, .int y23), (0, .ref 1), (1, .int v1)], [], 0, 0) 98 6 (fun _ => rfl) h) ?_
              obtain ⟨z28, hz28⟩ : ∃ z : Int32, z = v4 + Int32.ofInt 1 := ⟨_, rfl⟩
              rw [← hz28]
              have fz28_0 : z28.toInt = v4.toInt + (Int32.ofInt 1).toInt := by rw [hz28]; exact pj_addI (by have := pj_i32 v4; have := pj_i32 (Int32.ofInt 1); omega) (by have := pj_i32 v4; have := pj_i32 (Int32.ofInt 1); omega)
              refine pj_X_of (fun r h => pj_R_to (G, 17, [(4, .int z28), (3, .int y23), (2, .int v4), (5, .int y23), (0, .ref 1), (1, .int v1)], [], 0, 0) 17 2 (fun _ => rfl) h) ?_
              exact pj_X_sub [(0, .ref 1), (1, .int v1), (2, .int v4), (3, .int y23), (4, .int z28)] (show List.Nodup [0, 1, 2, 3, 4] by decide) ⟨rfl, rfl, rfl, rfl, rfl, trivial⟩ (ih G hI hK v1 v4 y23 z28 (pj_i32 _) (pj_i32 _) (pj_i32 _) ⟨by omega, by omega⟩ (by omega))
        · refine pj_X_of (fun r h => pj_R_to (G, 57, [(0, .ref 1), (1, .int v1), (2, .int v2), (3, .int v3), (4, .int v4)], [.ref 1, .int (Int32.ofInt 1), .int v1, .ref 14], 0, 0) 57 4 (fun _ => rfl) h) ?_
          refine pj_X_of (fun r h => pj_T_gr hI rfl rfl rfl h) ?_
          refine pj_X_of (fun r h => pj_T_gr hI rfl rfl rfl h) ?_
          refine pj_X_of (fun r h => pj_T_gr hI rfl rfl rfl h) ?_
          refine pj_X_of (fun r h => pj_R_to (G, 68, [(0, .ref 1), (1, .int v1), (2, .int v2), (3, .int v3), (4, .int v4)], [.int v4, .ref 22, .int (Int32.ofInt 1), .int v1, .ref 14], 0, 0) 68 2 (fun _ => rfl) h) ?_
          refine pj_X_of (fun r h => pj_T_il hI rfl rfl (by omega) (by omega) h) ?_
          show pj_X _ _ G 69 [(0, .ref 1), (1, .int v1), (2, .int v2), (3, .int v3), (4, .int v4)] [.int (pj_ai G 22 v4.toInt.toNat), .int (Int32.ofInt 1), .int v1, .ref 14] _
          obtain ⟨z29, hz29⟩ : ∃ z : Int32, z = pj_ai G 22 v4.toInt.toNat := ⟨_, rfl⟩
          rw [← hz29]
          have ez29 : (pj_ai G 22 v4.toInt.toNat).toInt = z29.toInt := by rw [hz29]
          have fz29_0 : (-1 : Int) ≤ z29.toInt ∧ z29.toInt ≤ 9 ∧ (z29.toInt ≤ -1 ∨ -1 ≤ z29.toInt) := by rw [hz29]; exact hI.2.2.1 22 (6, -1, 9, -1, -1) rfl _ (by show _ < 6; omega)
          refine pj_X_of (fun r h => pj_R_to (G, 70, [(0, .ref 1), (1, .int v1), (2, .int v2), (3, .int v3), (4, .int v4)], [.int ((Int32.ofInt 1) <<< (z29 &&& 31)), .int v1, .ref 14], 0, 0) 70 2 (fun _ => rfl) h) ?_
          obtain ⟨z30, hz30⟩ : ∃ z : Int32, z = (Int32.ofInt 1) <<< (z29 &&& 31) := ⟨_, rfl⟩
          rw [← hz30]
          refine pj_X_of (fun r h => pj_R_to (G, 72, [(0, .ref 1), (1, .int v1), (2, .int v2), (3, .int v3), (4, .int v4)], [.int (z30 ^^^ (Int32.ofInt (-1))), .int v1, .ref 14], 0, 0) 72 3 (fun _ => rfl) h) ?_
          obtain ⟨z31, hz31⟩ : ∃ z : Int32, z = z30 ^^^ (Int32.ofInt (-1)) := ⟨_, rfl⟩
          rw [← hz31]
          refine pj_X_of (fun r h => pj_R_to (G, 73, [(0, .ref 1), (1, .int v1), (2, .int v2), (3, .int v3), (4, .int v4)], [.int (v1 &&& z31), .ref 14], 0, 0) 73 2 (fun _ => rfl) h) ?_
          obtain ⟨z32, hz32⟩ : ∃ z : Int32, z = v1 &&& z31 := ⟨_, rfl⟩
          rw [← hz32]
          refine pj_X_ca (vs := [.ref 14, .int z32]) rfl (fun _ => rfl) ⟨Nat.le_of_ble_eq_true rfl, Nat.le_of_ble_eq_true rfl, pj_T_rcv hI rfl⟩ ⟨rfl, rfl⟩ (pj_Y_up (by decide) (ct_49_14 G hI z32)) ?_
          rintro _ _ ⟨y33, rfl, rfl, ry33⟩
          show pj_X _ _ G 76 [(0, .ref 1), (1, .int v1), (2, .int v2), (3, .int v3), (4, .int v4)] [.int y33] _
          refine pj_X_of (fun r h => pj_R_to (G, 80, [(5, .int y33), (0, .ref 1), (1, .int v1), (2, .int v2), (3, .int v3), (4, .int v4)], [.int (Int32.ofInt (-1)), .int v2], 0, 0) 80 4 (fun _ => rfl) h) ?_
          cases b34 : pj_c1 .eq v2 (Int32.ofInt (-1)) with
          | true =>
            have ub34 := pj_u_eqT b34
            refine pj_X_of (fun r h => pj_R_icT 89 rfl rfl b34 h) ?_
            refine pj_X_of (fun r h => pj_R_to (G, 98, [(4, .int (v4 + Int32.ofInt 1)), (3, .int y33), (2, .int v4), (5, .int y33), (0, .ref 1), (1, .int v1)], [], 0, 0) 98 6 (fun _ => rfl) h) ?_
            obtain ⟨z35, hz35⟩ : ∃ z : Int32, z = v4 + Int32.ofInt 1 := ⟨_, rfl⟩
            rw [← hz35]
            have fz35_0 : z35.toInt = v4.toInt + (Int32.ofInt 1).toInt := by rw [hz35]; exact pj_addI (by have := pj_i32 v4; have := pj_i32 (Int32.ofInt 1); omega) (by have := pj_i32 v4; have := pj_i32 (Int32.ofInt 1); omega)
            refine pj_X_of (fun r h => pj_R_to (G, 17, [(4, .int z35), (3, .int y33), (2, .int v4), (5, .int y33), (0, .ref 1), (1, .int v1)], [], 0, 0) 17 2 (fun _ => rfl) h) ?_
            exact pj_X_sub [(0, .ref 1), (1, .int v1), (2, .int v4), (3, .int y33), (4, .int z35)] (show List.Nodup [0, 1, 2, 3, 4] by decide) ⟨rfl, rfl, rfl, rfl, rfl, trivial⟩ (ih G hI hK v1 v4 y33 z35 (pj_i32 _) (pj_i32 _) (pj_i32 _) ⟨by omega, by omega⟩ (by omega))
          | false =>
            have ub34 := pj_u_eqF b34
            refine pj_X_of (fun r h => pj_R_icF rfl b34 h) ?_
            refine pj_X_of (fun r h => pj_R_to (G, 86, [(5, .int y33), (0, .ref 1), (1, .int v1), (2, .int v2), (3, .int v3), (4, .int v4)], [.int v3, .int y33], 0, 0) 86 3 (fun _ => rfl) h) ?_
            cases b36 : pj_c1 .ge y33 v3 with
            | true =>
              have ub36 := pj_u_geT b36
              refine pj_X_of (fun r h => pj_R_icT 95 rfl rfl b36 h) ?_
              refine pj_X_of (fun r h => pj_R_to (G, 98, [(4, .int (v4 + Int32.ofInt 1)), (5, .int y33), (0, .ref 1), (1, .int v1), (2, .int v2), (3, .int v3)], [], 0, 0) 98 2 (fun _ => rfl) h) ?_
              obtain ⟨z37, hz37⟩ : ∃ z : Int32, z = v4 + Int32.ofInt 1 := ⟨_, rfl⟩
              rw [← hz37]
              have fz37_0 : z37.toInt = v4.toInt + (Int32.ofInt 1).toInt := by rw [hz37]; exact pj_addI (by have := pj_i32 v4; have := pj_i32 (Int32.ofInt 1); omega) (by have := pj_i32 v4; have := pj_i32 (Int32.ofInt 1); omega)
              refine pj_X_of (fun r h => pj_R_to (G, 17, [(4, .int z37), (5, .int y33), (0, .ref 1), (1, .int v1), (2, .int v2), (3, .int v3)], [], 0, 0) 17 2 (fun _ => rfl) h) ?_
              exact pj_X_sub [(0, .ref 1), (1, .int v1), (2, .int v2), (3, .int v3), (4, .int z37)] (show List.Nodup [0, 1, 2, 3, 4] by decide) ⟨rfl, rfl, rfl, rfl, rfl, trivial⟩ (ih G hI hK v1 v2 v3 z37 (pj_i32 _) (pj_i32 _) (pj_i32 _) ⟨by omega, by omega⟩ (by omega))
            | false =>
              have ub36 := pj_u_geF b36
              refine pj_X_of (fun r h => pj_R_icF rfl b36 h) ?_
              refine pj_X_of (fun r h => pj_R_to (G, 98, [(4, .int (v4 + Int32.ofInt 1)), (3, .int y33), (2, .int v4), (5, .int y33), (0, .ref 1), (1, .int v1)], [], 0, 0) 98 6 (fun _ => rfl) h) ?_
              obtain ⟨z38, hz38⟩ : ∃ z : Int32, z = v4 + Int32.ofInt 1 := ⟨_, rfl⟩
              rw [← hz38]
              have fz38_0 : z38.toInt = v4.toInt + (Int32.ofInt 1).toInt := by rw [hz38]; exact pj_addI (by have := pj_i32 v4; have := pj_i32 (Int32.ofInt 1); omega) (by have := pj_i32 v4; have := pj_i32 (Int32.ofInt 1); omega)
              refine pj_X_of (fun r h => pj_R_to (G, 17, [(4, .int z38), (3, .int y33), (2, .int v4), (5, .int y33), (0, .ref 1), (1, .int v1)], [], 0, 0) 17 2 (fun _ => rfl) h) ?_
              exact pj_X_sub [(0, .ref 1), (1, .int v1), (2, .int v4), (3, .int y33), (4, .int z38)] (show List.Nodup [0, 1, 2, 3, 4] by decide) ⟨rfl, rfl, rfl, rfl, rfl, trivial⟩ (ih G hI hK v1 v4 y33 z38 (pj_i32 _) (pj_i32 _) (pj_i32 _) ⟨by omega, by omega⟩ (by omega))
theorem ct_138 (G0 : pj_G) (hI : pj_Inv G0) : pj_Y 5 138 [.ref 1] G0 (fun v G' => ∃ y : Int32, v = some (.int y) ∧ pj_Inv G' ∧ pj_kpt kc_138 G0 G' ∧ ((-2147483648 : Int) ≤ y.toInt ∧ y.toInt ≤ 2147483647)) := by
  have c0_ : ((Int8.ofInt (-2)).toInt32).toInt = -2 := by decide
  have c1_ : (Int32.ofInt (-1)).toInt = -1 := by decide
  have c2_ : (Int32.ofInt 0).toInt = 0 := by decide
  have c3_ : (Int32.ofInt 1).toInt = 1 := by decide
  refine pj_Y_X (M := pj_m138) rfl rfl (Nat.le_of_ble_eq_true rfl) ?_
  have hK : pj_kpt kc_138 G0 G0 := pj_kpt_r _ _
  show pj_X _ _ G0 0 [(0, .ref 1)] [] _
  refine pj_X_of (fun r h => pj_R_to (G0, 1, [(0, .ref 1)], [.ref 1], 0, 0) 1 2 (fun _ => rfl) h) ?_
  refine pj_X_of (fun r h => pj_T_gr hI rfl rfl rfl h) ?_
  refine pj_X_of (fun r h => pj_R_to (G0, 6, [(0, .ref 1)], [.int (Int32.ofInt 0), .int (Int32.ofInt 0), .ref 6], 0, 0) 6 3 (fun _ => rfl) h) ?_
  refine pj_X_ca (vs := [.ref 6, .int (Int32.ofInt 0), .int (Int32.ofInt 0)]) rfl (fun _ => rfl) ⟨Nat.le_of_ble_eq_true rfl, Nat.le_of_ble_eq_true rfl, pj_T_rcv hI rfl⟩ ⟨rfl, rfl⟩ (pj_Y_up (by decide) (ct_108 G0 hI (Int32.ofInt 0) (Int32.ofInt 0))) ?_
  rintro _ _ ⟨y39, rfl, rfl, ry39⟩
  show pj_X _ _ G0 9 [(0, .ref 1)] [.int y39] _
  refine pj_X_of (fun r h => pj_R_to (G0, 17, [(4, .int (Int32.ofInt 0)), (3, .int (Int32.ofInt 0)), (2, .int (Int32.ofInt (-1))), (1, .int y39), (0, .ref 1)], [], 0, 0) 17 8 (fun _ => rfl) h) ?_
  exact pj_X_sub [(0, .ref 1), (1, .int y39), (2, .int (Int32.ofInt (-1))), (3, .int (Int32.ofInt 0)), (4, .int (Int32.ofInt 0))] (show List.Nodup [0, 1, 2, 3, 4] by decide) ⟨rfl, rfl, rfl, rfl, rfl, trivial⟩ ((lp_ct_138 G0 hI   7) G0 hI hK y39 (Int32.ofInt (-1)) (Int32.ofInt 0) (Int32.ofInt 0) (pj_i32 _) (pj_i32 _) (pj_i32 _) ⟨by omega, by omega⟩ (by omega))
def kc_139 : pj_KT := ([(4, 1)], [4, 5, 36, 37], [36, 37])
theorem ct_139 (G0 : pj_G) (hI : pj_Inv G0) (th : Int32) : pj_Y 5 139 [.ref 1, .int th] G0 (fun v G' => ∃ y : Int32, v = some (.int y) ∧ pj_Inv G' ∧ pj_kpt kc_139 G0 G' ∧ ((-2147483648 : Int) ≤ y.toInt ∧ y.toInt ≤ 2147483647)) := by
  have c0_ : (Int32.ofInt (-1)).toInt = -1 := by decide
  have c1_ : (Int32.ofInt 0).toInt = 0 := by decide
  have c2_ : (Int32.ofInt 1).toInt = 1 := by decide
  refine pj_Y_X (M := pj_m139) rfl rfl (Nat.le_of_ble_eq_true rfl) ?_
  have hK : pj_kpt kc_139 G0 G0 := pj_kpt_r _ _
  show pj_X _ _ G0 0 [(0, .ref 1), (1, .int th)] [] _
  refine pj_X_of (fun r h => pj_R_to (G0, 2, [(0, .ref 1), (1, .int th)], [.ref 1, .int th], 0, 0) 2 3 (fun _ => rfl) h) ?_
  refine pj_X_of (fun r h => pj_T_gr hI rfl rfl rfl h) ?_
  refine pj_X_gm hI rfl rfl (fun q1 => ?_) (fun q1 => ?_)
  · refine pj_X_of (fun r h => pj_T_gi hI rfl rfl h) ?_
    show pj_X _ _ G0 11 [(0, .ref 1), (1, .int th)] [.int (pj_fi G0 7 1), .int th] _
    obtain ⟨y2, hy2⟩ : ∃ z : Int32, z = pj_fi G0 7 1 := ⟨_, rfl⟩
    rw [← hy2]
    have ey2 : (pj_fi G0 7 1).toInt = y2.toInt := by rw [hy2]
    have ry2 : (0 : Int) ≤ y2.toInt ∧ y2.toInt ≤ 10 := by rw [hy2]; exact hI.2.1 7 1 (0, 10) rfl
    refine pj_X_ca (vs := [.int th, .int y2]) rfl (fun _ => rfl) ⟨Nat.le_of_ble_eq_true rfl, Nat.le_of_ble_eq_true rfl, rfl⟩ ⟨rfl, rfl⟩ (pj_Y_up (by decide) (ct_164x G0 hI th y2)) ?_
    rintro _ _ ⟨y3, rfl, rfl, ry3, fy3⟩
    show pj_X _ _ G0 14 [(0, .ref 1), (1, .int th)] [.int y3] _
    cases b4 : pj_c1 .ne y3 0 with
    | true =>
      have ub4 := pj_u0_neT b4
      refine pj_X_of (fun r h => pj_R_ifT 19 rfl rfl b4 h) ?_
      refine pj_X_of (fun r h => pj_R_to (G0, 20, [(0, .ref 1), (1, .int th)], [.ref 1], 0, 0) 20 2 (fun _ => rfl) h) ?_
      refine pj_X_of (fun r h => pj_T_gr hI rfl rfl rfl h) ?_
      refine pj_X_ca (vs := [.ref 4]) rfl (fun _ => rfl) ⟨Nat.le_of_ble_eq_true rfl, Nat.le_of_ble_eq_true rfl, pj_T_rcv hI rfl⟩ ⟨rfl, rfl⟩ (pj_Y_up (by decide) (ct_53x G0 hI)) ?_
      rintro _ G6 ⟨rfl, iG6, jG6, fy5⟩
      have kG6 : pj_kpt kc_139 G0 G6 := pj_kpt_t hK (pj_kpt_s jG6 rfl)
      show pj_X _ _ G6 26 [(0, .ref 1), (1, .int th)] [] _
      refine pj_X_of (fun r h => pj_R_to (G6, 27, [(0, .ref 1), (1, .int th)], [.ref 1], 0, 0) 27 2 (fun _ => rfl) h) ?_
      refine pj_X_of (fun r h => pj_T_gr iG6 rfl rfl rfl h) ?_
      refine pj_X_ca (vs := [.ref 34]) rfl (fun _ => rfl) ⟨Nat.le_of_ble_eq_true rfl, Nat.le_of_ble_eq_true rfl, pj_T_rcv iG6 rfl⟩ ⟨rfl, rfl⟩ (pj_Y_up (by decide) (ct_23 G6 iG6)) ?_
      rintro _ G8 ⟨y7, rfl, iG8, jG8, ry7⟩
      have kG8 : pj_kpt kc_139 G0 G8 := pj_kpt_t kG6 (pj_kpt_s jG8 rfl)
      show pj_X _ _ G8 33 [(0, .ref 1), (1, .int th)] [.int y7] _
      refine pj_X_of (fun r h => pj_R_to (G8, 35, [(2, .int y7), (0, .ref 1), (1, .int th)], [.ref 1], 0, 0) 35 3 (fun _ => rfl) h) ?_
      refine pj_X_of (fun r h => pj_T_gr iG8 rfl rfl rfl h) ?_
      refine pj_X_of (fun r h => pj_R_to (G8, 40, [(2, .int y7), (0, .ref 1), (1, .int th)], [.int y7, .int th, .ref 34], 0, 0) 40 3 (fun _ => rfl) h) ?_
      refine pj_X_ca (vs := [.ref 34, .int th, .int y7]) rfl (fun _ => rfl) ⟨Nat.le_of_ble_eq_true rfl, Nat.le_of_ble_eq_true rfl, pj_T_rcv iG8 rfl⟩ ⟨rfl, rfl⟩ (pj_Y_up (by decide) (ct_24 G8 iG8 th y7)) ?_
      rintro _ _ ⟨y9, rfl, rfl, ry9⟩
      show pj_X _ _ G8 43 [(2, .int y7), (0, .ref 1), (1, .int th)] [.int y9] _
      cases b10 : pj_c1 .ne y9 0 with
      | true =>
        have ub10 := pj_u0_neT b10
        refine pj_X_of (fun r h => pj_R_ifT 48 rfl rfl b10 h) ?_
        refine pj_X_of (fun r h => pj_R_to (G8, 49, [(2, .int y7), (0, .ref 1), (1, .int th)], [.ref 1], 0, 0) 49 2 (fun _ => rfl) h) ?_
        refine pj_X_of (fun r h => pj_T_gr iG8 rfl rfl rfl h) ?_
        refine pj_X_of (fun r h => pj_R_to (G8, 53, [(2, .int y7), (0, .ref 1), (1, .int th)], [.ref 1, .ref 34], 0, 0) 53 2 (fun _ => rfl) h) ?_
        refine pj_X_of (fun r h => pj_T_gr iG8 rfl rfl rfl h) ?_
        refine pj_X_of (fun r h => pj_R_to (G8, 58, [(2, .int y7), (0, .ref 1), (1, .int th)], [.int y7, .int th, .ref 4, .ref 34], 0, 0) 58 3 (fun _ => rfl) h) ?_
        refine pj_X_ca (vs := [.ref 34, .ref 4, .int th, .int y7]) rfl (fun _ => rfl) ⟨Nat.le_of_ble_eq_true rfl, Nat.le_of_ble_eq_true rfl, pj_T_rcv iG8 rfl⟩ ⟨rfl, rfl⟩ (pj_Y_up (by decide) (ct_25 G8 iG8 th y7)) ?_
        rintro _ G12 ⟨rfl, iG12, jG12⟩
        have kG12 : pj_kpt kc_139 G0 G12 := pj_kpt_t kG8 (pj_kpt_s jG12 rfl)
        show pj_X _ _ G12 61 [(2, .int y7), (0, .ref 1), (1, .int th)] [] _
        refine pj_X_of (fun r h => pj_R_to (G12, 62, [(2, .int y7), (0, .ref 1), (1, .int th)], [.int (Int32.ofInt 1)], 0, 0) 62 2 (fun _ => rfl) h) ?_
        exact pj_X_rt rfl rfl ⟨_, rfl, iG12, kG12, pj_i32 _⟩
      | false =>
        have ub10 := pj_u0_neF b10
        refine pj_X_of (fun r h => pj_R_ifF rfl b10 h) ?_
        refine pj_X_of (fun r h => pj_R_to (G8, 47, [(2, .int y7), (0, .ref 1), (1, .int th)], [.int (Int32.ofInt 0)], 0, 0) 47 2 (fun _ => rfl) h) ?_
        exact pj_X_rt rfl rfl ⟨_, rfl, iG8, kG8, pj_i32 _⟩
    | false =>
      have ub4 := pj_u0_neF b4
      refine pj_X_of (fun r h => pj_R_ifF rfl b4 h) ?_
      refine pj_X_of (fun r h => pj_R_to (G0, 18, [(0, .ref 1), (1, .int th)], [.int (Int32.ofInt (-1))], 0, 0) 18 2 (fun _ => rfl) h) ?_
      exact pj_X_rt rfl rfl ⟨_, rfl, hI, hK, pj_i32 _⟩
  · refine pj_X_of (fun r h => pj_T_gi hI rfl rfl h) ?_
    show pj_X _ _ G0 11 [(0, .ref 1), (1, .int th)] [.int (pj_fi G0 14 1), .int th] _
    obtain ⟨y13, hy13⟩ : ∃ z : Int32, z = pj_fi G0 14 1 := ⟨_, rfl⟩
    rw [← hy13]
    have ey13 : (pj_fi G0 14 1).toInt = y13.toInt := by rw [hy13]
    have ry13 : (0 : Int) ≤ y13.toInt ∧ y13.toInt ≤ 10 := by rw [hy13]; exact hI.2.1 14 1 (0, 10) rfl
    refine pj_X_ca (vs := [.int th, .int y13]) rfl (fun _ => rfl) ⟨Nat.le_of_ble_eq_true rfl, Nat.le_of_ble_eq_true rfl, rfl⟩ ⟨rfl, rfl⟩ (pj_Y_up (by decide) (ct_164x G0 hI th y13)) ?_
    rintro _ _ ⟨y14, rfl, rfl, ry14, fy14⟩
    show pj_X _ _ G0 14 [(0, .ref 1), (1, .int th)] [.int y14] _
    cases b15 : pj_c1 .ne y14 0 with
    | true =>
      have ub15 := pj_u0_neT b15
      refine pj_X_of (fun r h => pj_R_ifT 19 rfl rfl b15 h) ?_
      refine pj_X_of (fun r h => pj_R_to (G0, 20, [(0, .ref 1), (1, .int th)], [.ref 1], 0, 0) 20 2 (fun _ => rfl) h) ?_
      refine pj_X_of (fun r h => pj_T_gr hI rfl rfl rfl h) ?_
      refine pj_X_ca (vs := [.ref 4]) rfl (fun _ => rfl) ⟨Nat.le_of_ble_eq_true rfl, Nat.le_of_ble_eq_true rfl, pj_T_rcv hI rfl⟩ ⟨rfl, rfl⟩ (pj_Y_up (by decide) (ct_53x G0 hI)) ?_
      rintro _ G17 ⟨rfl, iG17, jG17, fy16⟩
      have kG17 : pj_kpt kc_139 G0 G17 := pj_kpt_t hK (pj_kpt_s jG17 rfl)
      show pj_X _ _ G17 26 [(0, .ref 1), (1, .int th)] [] _
      refine pj_X_of (fun r h => pj_R_to (G17, 27, [(0, .ref 1), (1, .int th)], [.ref 1], 0, 0) 27 2 (fun _ => rfl) h) ?_
      refine pj_X_of (fun r h => pj_T_gr iG17 rfl rfl rfl h) ?_
      refine pj_X_ca (vs := [.ref 34]) rfl (fun _ => rfl) ⟨Nat.le_of_ble_eq_true rfl, Nat.le_of_ble_eq_true rfl, pj_T_rcv iG17 rfl⟩ ⟨rfl, rfl⟩ (pj_Y_up (by decide) (ct_23 G17 iG17)) ?_
      rintro _ G19 ⟨y18, rfl, iG19, jG19, ry18⟩
      have kG19 : pj_kpt kc_139 G0 G19 := pj_kpt_t kG17 (pj_kpt_s jG19 rfl)
      show pj_X _ _ G19 33 [(0, .ref 1), (1, .int th)] [.int y18] _
      refine pj_X_of (fun r h => pj_R_to (G19, 35, [(2, .int y18), (0, .ref 1), (1, .int th)], [.ref 1], 0, 0) 35 3 (fun _ => rfl) h) ?_
      refine pj_X_of (fun r h => pj_T_gr iG19 rfl rfl rfl h) ?_
      refine pj_X_of (fun r h => pj_R_to (G19, 40, [(2, .int y18), (0, .ref 1), (1, .int th)], [.int y18, .int th, .ref 34], 0, 0) 40 3 (fun _ => rfl) h) ?_
      refine pj_X_ca (vs := [.ref 34, .int th, .int y18]) rfl (fun _ => rfl) ⟨Nat.le_of_ble_eq_true rfl, Nat.le_of_ble_eq_true rfl, pj_T_rcv iG19 rfl⟩ ⟨rfl, rfl⟩ (pj_Y_up (by decide) (ct_24 G19 iG19 th y18)) ?_
      rintro _ _ ⟨y20, rfl, rfl, ry20⟩
      show pj_X _ _ G19 43 [(2, .int y18), (0, .ref 1), (1, .int th)] [.int y20] _
      cases b21 : pj_c1 .ne y20 0 with
      | true =>
        have ub21 := pj_u0_neT b21
        refine pj_X_of (fun r h => pj_R_ifT 48 rfl rfl b21 h) ?_
        refine pj_X_of (fun r h => pj_R_to (G19, 49, [(2, .int y18), (0, .ref 1), (1, .int th)], [.ref 1], 0, 0) 49 2 (fun _ => rfl) h) ?_
        refine pj_X_of (fun r h => pj_T_gr iG19 rfl rfl rfl h) ?_
        refine pj_X_of (fun r h => pj_R_to (G19, 53, [(2, .int y18), (0, .ref 1), (1, .int th)], [.ref 1, .ref 34], 0, 0) 53 2 (fun _ => rfl) h) ?_
        refine pj_X_of (fun r h => pj_T_gr iG19 rfl rfl rfl h) ?_
        refine pj_X_of (fun r h => pj_R_to (G19, 58, [(2, .int y18), (0, .ref 1), (1, .int th)], [.int y18, .int th, .ref 4, .ref 34], 0, 0) 58 3 (fun _ => rfl) h) ?_
        refine pj_X_ca (vs := [.ref 34, .ref 4, .int th, .int y18]) rfl (fun _ => rfl) ⟨Nat.le_of_ble_eq_true rfl, Nat.le_of_ble_eq_true rfl, pj_T_rcv iG19 rfl⟩ ⟨rfl, rfl⟩ (pj_Y_up (by decide) (ct_25 G19 iG19 th y18)) ?_
        rintro _ G23 ⟨rfl, iG23, jG23⟩
        have kG23 : pj_kpt kc_139 G0 G23 := pj_kpt_t kG19 (pj_kpt_s jG23 rfl)
        show pj_X _ _ G23 61 [(2, .int y18), (0, .ref 1), (1, .int th)] [] _
        refine pj_X_of (fun r h => pj_R_to (G23, 62, [(2, .int y18), (0, .ref 1), (1, .int th)], [.int (Int32.ofInt 1)], 0, 0) 62 2 (fun _ => rfl) h) ?_
        exact pj_X_rt rfl rfl ⟨_, rfl, iG23, kG23, pj_i32 _⟩
      | false =>
        have ub21 := pj_u0_neF b21
        refine pj_X_of (fun r h => pj_R_ifF rfl b21 h) ?_
        refine pj_X_of (fun r h => pj_R_to (G19, 47, [(2, .int y18), (0, .ref 1), (1, .int th)], [.int (Int32.ofInt 0)], 0, 0) 47 2 (fun _ => rfl) h) ?_
        exact pj_X_rt rfl rfl ⟨_, rfl, iG19, kG19, pj_i32 _⟩
    | false =>
      have ub15 := pj_u0_neF b15
      refine pj_X_of (fun r h => pj_R_ifF rfl b15 h) ?_
      refine pj_X_of (fun r h => pj_R_to (G0, 18, [(0, .ref 1), (1, .int th)], [.int (Int32.ofInt (-1))], 0, 0) 18 2 (fun _ => rfl) h) ?_
      exact pj_X_rt rfl rfl ⟨_, rfl, hI, hK, pj_i32 _⟩
def kc_140 : pj_KT := ([(4, 1), (34, 2)], [4, 5, 34, 35, 36, 37], [35, 36, 37])
theorem ct_140 (G0 : pj_G) (hI : pj_Inv G0) (th : Int32) : pj_Y 6 140 [.ref 1, .int th] G0 (fun v G' => ∃ y : Int32, v = some (.int y) ∧ pj_Inv G' ∧ pj_kpt kc_140 G0 G' ∧ ((-2147483648 : Int) ≤ y.toInt ∧ y.toInt ≤ 2147483647)) := by
  have c0_ : (Int32.ofInt (-1)).toInt = -1 := by decide
  refine pj_Y_X (M := pj_m140) rfl rfl (Nat.le_of_ble_eq_true rfl) ?_
  have hK : pj_kpt kc_140 G0 G0 := pj_kpt_r _ _
  show pj_X _ _ G0 0 [(0, .ref 1), (1, .int th)] [] _
  refine pj_X_of (fun r h => pj_R_to (G0, 2, [(0, .ref 1), (1, .int th)], [.ref 1, .int th], 0, 0) 2 3 (fun _ => rfl) h) ?_
  refine pj_X_of (fun r h => pj_T_gr hI rfl rfl rfl h) ?_
  refine pj_X_gm hI rfl rfl (fun q1 => ?_) (fun q1 => ?_)
  · refine pj_X_of (fun r h => pj_T_gi hI rfl rfl h) ?_
    show pj_X _ _ G0 11 [(0, .ref 1), (1, .int th)] [.int (pj_fi G0 7 0), .int th] _
    obtain ⟨y2, hy2⟩ : ∃ z : Int32, z = pj_fi G0 7 0 := ⟨_, rfl⟩
    rw [← hy2]
    have ey2 : (pj_fi G0 7 0).toInt = y2.toInt := by rw [hy2]
    have ry2 : (0 : Int) ≤ y2.toInt ∧ y2.toInt ≤ 8 := by rw [hy2]; exact hI.2.1 7 0 (0, 8) rfl
    refine pj_X_ca (vs := [.int th, .int y2]) rfl (fun _ => rfl) ⟨Nat.le_of_ble_eq_true rfl, Nat.le_of_ble_eq_true rfl, rfl⟩ ⟨rfl, rfl⟩ (pj_Y_up (by decide) (ct_164x G0 hI th y2)) ?_
    rintro _ _ ⟨y3, rfl, rfl, ry3, fy3⟩
    show pj_X _ _ G0 14 [(0, .ref 1), (1, .int th)] [.int y3] _
    cases b4 : pj_c1 .ne y3 0 with
    | true =>
      have ub4 := pj_u0_neT b4
      refine pj_X_of (fun r h => pj_R_ifT 19 rfl rfl b4 h) ?_
      refine pj_X_of (fun r h => pj_R_to (G0, 20, [(0, .ref 1), (1, .int th)], [.ref 1], 0, 0) 20 2 (fun _ => rfl) h) ?_
      refine pj_X_of (fun r h => pj_T_gr hI rfl rfl rfl h) ?_
      refine pj_X_of (fun r h => pj_R_to (G0, 24, [(0, .ref 1), (1, .int th)], [.int th, .ref 34], 0, 0) 24 2 (fun _ => rfl) h) ?_
      refine pj_X_ca (vs := [.ref 34, .int th]) rfl (fun _ => rfl) ⟨Nat.le_of_ble_eq_true rfl, Nat.le_of_ble_eq_true rfl, pj_T_rcv hI rfl⟩ ⟨rfl, rfl⟩ (pj_Y_up (by decide) (ct_27 G0 hI th)) ?_
      rintro _ G6 ⟨rfl, iG6, jG6⟩
      have kG6 : pj_kpt kc_140 G0 G6 := pj_kpt_t hK (pj_kpt_s jG6 rfl)
      show pj_X _ _ G6 27 [(0, .ref 1), (1, .int th)] [] _
      refine pj_X_of (fun r h => pj_R_to (G6, 28, [(0, .ref 1), (1, .int th)], [.ref 1], 0, 0) 28 2 (fun _ => rfl) h) ?_
      refine pj_X_of (fun r h => pj_T_gr iG6 rfl rfl rfl h) ?_
      refine pj_X_of (fun r h => pj_R_to (G6, 32, [(0, .ref 1), (1, .int th)], [.ref 1, .ref 34], 0, 0) 32 2 (fun _ => rfl) h) ?_
      refine pj_X_of (fun r h => pj_T_gr iG6 rfl rfl rfl h) ?_
      refine pj_X_ca (vs := [.ref 34, .ref 4]) rfl (fun _ => rfl) ⟨Nat.le_of_ble_eq_true rfl, Nat.le_of_ble_eq_true rfl, pj_T_rcv iG6 rfl⟩ ⟨rfl, rfl⟩ (pj_Y_up (by decide) (ct_30 G6 iG6)) ?_
      rintro _ G8 ⟨y7, rfl, iG8, jG8, ry7⟩
      have kG8 : pj_kpt kc_140 G0 G8 := pj_kpt_t kG6 (pj_kpt_s jG8 rfl)
      show pj_X _ _ G8 38 [(0, .ref 1), (1, .int th)] [.int y7] _
      exact pj_X_rt rfl rfl ⟨_, rfl, iG8, kG8, pj_i32 _⟩
    | false =>
      have ub4 := pj_u0_neF b4
      refine pj_X_of (fun r h => pj_R_ifF rfl b4 h) ?_
      refine pj_X_of (fun r h => pj_R_to (G0, 18, [(0, .ref 1), (1, .int th)], [.int (Int32.ofInt (-1))], 0, 0) 18 2 (fun _ => rfl) h) ?_
      exact pj_X_rt rfl rfl ⟨_, rfl, hI, hK, pj_i32 _⟩
  · refine pj_X_of (fun r h => pj_T_gi hI rfl rfl h) ?_
    show pj_X _ _ G0 11 [(0, .ref 1), (1, .int th)] [.int (pj_fi G0 14 0), .int th] _
    obtain ⟨y9, hy9⟩ : ∃ z : Int32, z = pj_fi G0 14 0 := ⟨_, rfl⟩
    rw [← hy9]
    have ey9 : (pj_fi G0 14 0).toInt = y9.toInt := by rw [hy9]
    have ry9 : (0 : Int) ≤ y9.toInt ∧ y9.toInt ≤ 8 := by rw [hy9]; exact hI.2.1 14 0 (0, 8) rfl
    refine pj_X_ca (vs := [.int th, .int y9]) rfl (fun _ => rfl) ⟨Nat.le_of_ble_eq_true rfl, Nat.le_of_ble_eq_true rfl, rfl⟩ ⟨rfl, rfl⟩ (pj_Y_up (by decide) (ct_164x G0 hI th y9)) ?_
    rintro _ _ ⟨y10, rfl, rfl, ry10, fy10⟩
    show pj_X _ _ G0 14 [(0, .ref 1), (1, .int th)] [.int y10] _
    cases b11 : pj_c1 .ne y10 0 with
    | true =>
      have ub11 := pj_u0_neT b11
      refine pj_X_of (fun r h => pj_R_ifT 19 rfl rfl b11 h) ?_
      refine pj_X_of (fun r h => pj_R_to (G0, 20, [(0, .ref 1), (1, .int th)], [.ref 1], 0, 0) 20 2 (fun _ => rfl) h) ?_
      refine pj_X_of (fun r h => pj_T_gr hI rfl rfl rfl h) ?_
      refine pj_X_of (fun r h => pj_R_to (G0, 24, [(0, .ref 1), (1, .int th)], [.int th, .ref 34], 0, 0) 24 2 (fun _ => rfl) h) ?_
      refine pj_X_ca (vs := [.ref 34, .int th]) rfl (fun _ => rfl) ⟨Nat.le_of_ble_eq_true rfl, Nat.le_of_ble_eq_true rfl, pj_T_rcv hI rfl⟩ ⟨rfl, rfl⟩ (pj_Y_up (by decide) (ct_27 G0 hI th)) ?_
      rintro _ G13 ⟨rfl, iG13, jG13⟩
      have kG13 : pj_kpt kc_140 G0 G13 := pj_kpt_t hK (pj_kpt_s jG13 rfl)
      show pj_X _ _ G13 27 [(0, .ref 1), (1, .int th)] [] _
      refine pj_X_of (fun r h => pj_R_to (G13, 28, [(0, .ref 1), (1, .int th)], [.ref 1], 0, 0) 28 2 (fun _ => rfl) h) ?_
      refine pj_X_of (fun r h => pj_T_gr iG13 rfl rfl rfl h) ?_
      refine pj_X_of (fun r h => pj_R_to (G13, 32, [(0, .ref 1), (1, .int th)], [.ref 1, .ref 34], 0, 0) 32 2 (fun _ => rfl) h) ?_
      refine pj_X_of (fun r h => pj_T_gr iG13 rfl rfl rfl h) ?_
      refine pj_X_ca (vs := [.ref 34, .ref 4]) rfl (fun _ => rfl) ⟨Nat.le_of_ble_eq_true rfl, Nat.le_of_ble_eq_true rfl, pj_T_rcv iG13 rfl⟩ ⟨rfl, rfl⟩ (pj_Y_up (by decide) (ct_30 G13 iG13)) ?_
      rintro _ G15 ⟨y14, rfl, iG15, jG15, ry14⟩
      have kG15 : pj_kpt kc_140 G0 G15 := pj_kpt_t kG13 (pj_kpt_s jG15 rfl)
      show pj_X _ _ G15 38 [(0, .ref 1), (1, .int th)] [.int y14] _
      exact pj_X_rt rfl rfl ⟨_, rfl, iG15, kG15, pj_i32 _⟩
    | false =>
      have ub11 := pj_u0_neF b11
      refine pj_X_of (fun r h => pj_R_ifF rfl b11 h) ?_
      refine pj_X_of (fun r h => pj_R_to (G0, 18, [(0, .ref 1), (1, .int th)], [.int (Int32.ofInt (-1))], 0, 0) 18 2 (fun _ => rfl) h) ?_
      exact pj_X_rt rfl rfl ⟨_, rfl, hI, hK, pj_i32 _⟩
def kc_141 : pj_KT := ([(4, 1)], [4, 5, 36, 37], [36, 37])
theorem ct_141 (G0 : pj_G) (hI : pj_Inv G0) : pj_Y 6 141 [.ref 1] G0 (fun v G' => ∃ y : Int32, v = some (.int y) ∧ pj_Inv G' ∧ pj_kpt kc_141 G0 G' ∧ ((-2147483648 : Int) ≤ y.toInt ∧ y.toInt ≤ 2147483647)) := by
  refine pj_Y_X (M := pj_m141) rfl rfl (Nat.le_of_ble_eq_true rfl) ?_
  have hK : pj_kpt kc_141 G0 G0 := pj_kpt_r _ _
  show pj_X _ _ G0 0 [(0, .ref 1)] [] _
  refine pj_X_of (fun r h => pj_R_to (G0, 1, [(0, .ref 1)], [.ref 1], 0, 0) 1 2 (fun _ => rfl) h) ?_
  refine pj_X_of (fun r h => pj_T_gr hI rfl rfl rfl h) ?_
  refine pj_X_of (fun r h => pj_R_to (G0, 5, [(0, .ref 1)], [.ref 1, .ref 34], 0, 0) 5 2 (fun _ => rfl) h) ?_
  refine pj_X_of (fun r h => pj_T_gr hI rfl rfl rfl h) ?_
  refine pj_X_ca (vs := [.ref 34, .ref 4]) rfl (fun _ => rfl) ⟨Nat.le_of_ble_eq_true rfl, Nat.le_of_ble_eq_true rfl, pj_T_rcv hI rfl⟩ ⟨rfl, rfl⟩ (pj_Y_up (by decide) (ct_31 G0 hI)) ?_
  rintro _ G2 ⟨y1, rfl, iG2, jG2, ry1⟩
  have kG2 : pj_kpt kc_141 G0 G2 := pj_kpt_t hK (pj_kpt_s jG2 rfl)
  show pj_X _ _ G2 11 [(0, .ref 1)] [.int y1] _
  exact pj_X_rt rfl rfl ⟨_, rfl, iG2, kG2, pj_i32 _⟩
def kc_143 : pj_KT := ([(4, 1)], [4, 5], [])
theorem ct_143 (G0 : pj_G) (hI : pj_Inv G0) (v : Int32) : pj_Y 5 143 [.ref 1, .int v] G0 (fun v G' => ∃ y : Int32, v = some (.int y) ∧ pj_Inv G' ∧ pj_kpt kc_143 G0 G' ∧ ((-2147483648 : Int) ≤ y.toInt ∧ y.toInt ≤ 2147483647)) := by
  have c0_ : ((Int8.ofInt 9).toInt32).toInt = 9 := by decide
  have c1_ : (Int32.ofInt (-1)).toInt = -1 := by decide
  have c2_ : (Int32.ofInt 0).toInt = 0 := by decide
  refine pj_Y_X (M := pj_m143) rfl rfl (Nat.le_of_ble_eq_true rfl) ?_
  have hK : pj_kpt kc_143 G0 G0 := pj_kpt_r _ _
  show pj_X _ _ G0 0 [(0, .ref 1), (1, .int v)] [] _
  refine pj_X_of (fun r h => pj_R_to (G0, 1, [(0, .ref 1), (1, .int v)], [.int v], 0, 0) 1 2 (fun _ => rfl) h) ?_
  cases b1 : pj_c1 .lt v 0 with
  | true =>
    have ub1 := pj_u0_ltT b1
    refine pj_X_of (fun r h => pj_R_ifT 10 rfl rfl b1 h) ?_
    refine pj_X_of (fun r h => pj_R_to (G0, 11, [(0, .ref 1), (1, .int v)], [.int (Int32.ofInt (-1))], 0, 0) 11 2 (fun _ => rfl) h) ?_
    exact pj_X_rt rfl rfl ⟨_, rfl, hI, hK, pj_i32 _⟩
  | false =>
    have ub1 := pj_u0_ltF b1
    refine pj_X_of (fun r h => pj_R_ifF rfl b1 h) ?_
    refine pj_X_of (fun r h => pj_R_to (G0, 7, [(0, .ref 1), (1, .int v)], [.int ((Int8.ofInt 9).toInt32), .int v], 0, 0) 7 3 (fun _ => rfl) h) ?_
    cases b2 : pj_c1 .le v ((Int8.ofInt 9).toInt32) with
    | true =>
      have ub2 := pj_u_leT b2
      refine pj_X_of (fun r h => pj_R_icT 12 rfl rfl b2 h) ?_
      refine pj_X_of (fun r h => pj_R_to (G0, 13, [(0, .ref 1), (1, .int v)], [.ref 1], 0, 0) 13 2 (fun _ => rfl) h) ?_
      refine pj_X_of (fun r h => pj_T_gr hI rfl rfl rfl h) ?_
      refine pj_X_of (fun r h => pj_R_to (G0, 17, [(0, .ref 1), (1, .int v)], [.int v, .ref 6], 0, 0) 17 2 (fun _ => rfl) h) ?_
      refine pj_X_ca (vs := [.ref 6, .int v]) rfl (fun _ => rfl) ⟨Nat.le_of_ble_eq_true rfl, Nat.le_of_ble_eq_true rfl, pj_T_rcv hI rfl⟩ ⟨rfl, rfl⟩ (pj_Y_up (by decide) (ct_109 G0 hI v)) ?_
      rintro _ _ ⟨y3, rfl, rfl, ry3⟩
      show pj_X _ _ G0 20 [(0, .ref 1), (1, .int v)] [.int y3] _
      refine pj_X_of (fun r h => pj_R_to (G0, 22, [(2, .int y3), (0, .ref 1), (1, .int v)], [.ref 1], 0, 0) 22 3 (fun _ => rfl) h) ?_
      refine pj_X_of (fun r h => pj_T_gr hI rfl rfl rfl h) ?_
      refine pj_X_of (fun r h => pj_R_to (G0, 26, [(2, .int y3), (0, .ref 1), (1, .int v)], [.ref 1, .ref 4], 0, 0) 26 2 (fun _ => rfl) h) ?_
      refine pj_X_of (fun r h => pj_T_gr hI rfl rfl rfl h) ?_
      refine pj_X_gm hI rfl rfl (fun q4 => ?_) (fun q4 => ?_)
      · refine pj_X_of (fun r h => pj_R_to (G0, 33, [(2, .int y3), (0, .ref 1), (1, .int v)], [.ref 1, .ref 7, .ref 4], 0, 0) 33 2 (fun _ => rfl) h) ?_
        refine pj_X_of (fun r h => pj_T_gr hI rfl rfl rfl h) ?_
        refine pj_X_of (fun r h => pj_R_to (G0, 38, [(2, .int y3), (0, .ref 1), (1, .int v)], [.int (Int32.ofInt 0), .int (Int32.ofInt 0), .ref 6, .ref 7, .ref 4], 0, 0) 38 3 (fun _ => rfl) h) ?_
        refine pj_X_ca (vs := [.ref 6, .int (Int32.ofInt 0), .int (Int32.ofInt 0)]) rfl (fun _ => rfl) ⟨Nat.le_of_ble_eq_true rfl, Nat.le_of_ble_eq_true rfl, pj_T_rcv hI rfl⟩ ⟨rfl, rfl⟩ (pj_Y_up (by decide) (ct_108 G0 hI (Int32.ofInt 0) (Int32.ofInt 0))) ?_
        rintro _ _ ⟨y5, rfl, rfl, ry5⟩
        show pj_X _ _ G0 41 [(2, .int y3), (0, .ref 1), (1, .int v)] [.int y5, .ref 7, .ref 4] _
        refine pj_X_of (fun r h => pj_R_to (G0, 44, [(2, .int y3), (0, .ref 1), (1, .int v)], [.int (y3 ^^^ (Int32.ofInt (-1))), .int y5, .ref 7, .ref 4], 0, 0) 44 4 (fun _ => rfl) h) ?_
        obtain ⟨z6, hz6⟩ : ∃ z : Int32, z = y3 ^^^ (Int32.ofInt (-1)) := ⟨_, rfl⟩
        rw [← hz6]
        refine pj_X_of (fun r h => pj_R_to (G0, 45, [(2, .int y3), (0, .ref 1), (1, .int v)], [.int (y5 &&& z6), .ref 7, .ref 4], 0, 0) 45 2 (fun _ => rfl) h) ?_
        obtain ⟨z7, hz7⟩ : ∃ z : Int32, z = y5 &&& z6 := ⟨_, rfl⟩
        rw [← hz7]
        refine pj_X_ca (vs := [.ref 7, .int z7]) rfl (fun _ => rfl) ⟨Nat.le_of_ble_eq_true rfl, Nat.le_of_ble_eq_true rfl, pj_T_rcv hI rfl⟩ ⟨rfl, rfl⟩ (pj_Y_up (by decide) (ct_49_7 G0 hI z7)) ?_
        rintro _ _ ⟨y8, rfl, rfl, ry8⟩
        show pj_X _ _ G0 48 [(2, .int y3), (0, .ref 1), (1, .int v)] [.int y8, .ref 4] _
        refine pj_X_of (fun r h => pj_R_to (G0, 49, [(2, .int y3), (0, .ref 1), (1, .int v)], [.long y8.toInt64, .ref 4], 0, 0) 49 2 (fun _ => rfl) h) ?_
        have lc9 : (y8.toInt64).toInt = y8.toInt := Int32.toInt_toInt64 _
        refine pj_X_ca (vs := [.ref 4, .long y8.toInt64]) rfl (fun _ => rfl) ⟨Nat.le_of_ble_eq_true rfl, Nat.le_of_ble_eq_true rfl, pj_T_rcv hI rfl⟩ ⟨rfl, rfl⟩ (pj_Y_up (by decide) (ct_55x G0 hI y8.toInt64)) ?_
        rintro _ G11 ⟨rfl, iG11, jG11, fy10⟩
        have kG11 : pj_kpt kc_143 G0 G11 := pj_kpt_t hK (pj_kpt_s jG11 rfl)
        show pj_X _ _ G11 52 [(2, .int y3), (0, .ref 1), (1, .int v)] [] _
        refine pj_X_of (fun r h => pj_R_to (G11, 53, [(2, .int y3), (0, .ref 1), (1, .int v)], [.int y3], 0, 0) 53 2 (fun _ => rfl) h) ?_
        exact pj_X_rt rfl rfl ⟨_, rfl, iG11, kG11, pj_i32 _⟩
      · refine pj_X_of (fun r h => pj_R_to (G0, 33, [(2, .int y3), (0, .ref 1), (1, .int v)], [.ref 1, .ref 14, .ref 4], 0, 0) 33 2 (fun _ => rfl) h) ?_
        refine pj_X_of (fun r h => pj_T_gr hI rfl rfl rfl h) ?_
        refine pj_X_of (fun r h => pj_R_to (G0, 38, [(2, .int y3), (0, .ref 1), (1, .int v)], [.int (Int32.ofInt 0), .int (Int32.ofInt 0), .ref 6, .ref 14, .ref 4], 0, 0) 38 3 (fun _ => rfl) h) ?_
        refine pj_X_ca (vs := [.ref 6, .int (Int32.ofInt 0), .int (Int32.ofInt 0)]) rfl (fun _ => rfl) ⟨Nat.le_of_ble_eq_true rfl, Nat.le_of_ble_eq_true rfl, pj_T_rcv hI rfl⟩ ⟨rfl, rfl⟩ (pj_Y_up (by decide) (ct_108 G0 hI (Int32.ofInt 0) (Int32.ofInt 0))) ?_
        rintro _ _ ⟨y12, rfl, rfl, ry12⟩
        show pj_X _ _ G0 41 [(2, .int y3), (0, .ref 1), (1, .int v)] [.int y12, .ref 14, .ref 4] _
        refine pj_X_of (fun r h => pj_R_to (G0, 44, [(2, .int y3), (0, .ref 1), (1, .int v)], [.int (y3 ^^^ (Int32.ofInt (-1))), .int y12, .ref 14, .ref 4], 0, 0) 44 4 (fun _ => rfl) h) ?_
        obtain ⟨z13, hz13⟩ : ∃ z : Int32, z = y3 ^^^ (Int32.ofInt (-1)) := ⟨_, rfl⟩
        rw [← hz13]
        refine pj_X_of (fun r h => pj_R_to (G0, 45, [(2, .int y3), (0, .ref 1), (1, .int v)], [.int (y12 &&& z13), .ref 14, .ref 4], 0, 0) 45 2 (fun _ => rfl) h) ?_
        obtain ⟨z14, hz14⟩ : ∃ z : Int32, z = y12 &&& z13 := ⟨_, rfl⟩
        rw [← hz14]
        refine pj_X_ca (vs := [.ref 14, .int z14]) rfl (fun _ => rfl) ⟨Nat.le_of_ble_eq_true rfl, Nat.le_of_ble_eq_true rfl, pj_T_rcv hI rfl⟩ ⟨rfl, rfl⟩ (pj_Y_up (by decide) (ct_49_14 G0 hI z14)) ?_
        rintro _ _ ⟨y15, rfl, rfl, ry15⟩
        show pj_X _ _ G0 48 [(2, .int y3), (0, .ref 1), (1, .int v)] [.int y15, .ref 4] _
        refine pj_X_of (fun r h => pj_R_to (G0, 49, [(2, .int y3), (0, .ref 1), (1, .int v)], [.long y15.toInt64, .ref 4], 0, 0) 49 2 (fun _ => rfl) h) ?_
        have lc16 : (y15.toInt64).toInt = y15.toInt := Int32.toInt_toInt64 _
        refine pj_X_ca (vs := [.ref 4, .long y15.toInt64]) rfl (fun _ => rfl) ⟨Nat.le_of_ble_eq_true rfl, Nat.le_of_ble_eq_true rfl, pj_T_rcv hI rfl⟩ ⟨rfl, rfl⟩ (pj_Y_up (by decide) (ct_55x G0 hI y15.toInt64)) ?_
        rintro _ G18 ⟨rfl, iG18, jG18, fy17⟩
        have kG18 : pj_kpt kc_143 G0 G18 := pj_kpt_t hK (pj_kpt_s jG18 rfl)
        show pj_X _ _ G18 52 [(2, .int y3), (0, .ref 1), (1, .int v)] [] _
        refine pj_X_of (fun r h => pj_R_to (G18, 53, [(2, .int y3), (0, .ref 1), (1, .int v)], [.int y3], 0, 0) 53 2 (fun _ => rfl) h) ?_
        exact pj_X_rt rfl rfl ⟨_, rfl, iG18, kG18, pj_i32 _⟩
    | false =>
      have ub2 := pj_u_leF b2
      refine pj_X_of (fun r h => pj_R_icF rfl b2 h) ?_
      refine pj_X_of (fun r h => pj_R_to (G0, 11, [(0, .ref 1), (1, .int v)], [.int (Int32.ofInt (-1))], 0, 0) 11 2 (fun _ => rfl) h) ?_
      exact pj_X_rt rfl rfl ⟨_, rfl, hI, hK, pj_i32 _⟩
def kc_144 : pj_KT := ([(4, 1)], [4, 5], [])
theorem lp_ct_144 (G0 : pj_G) (hI0 : pj_Inv G0) : ∀ mn : Nat, (∀ (G : pj_G) (hI : pj_Inv G) (hK : pj_kpt kc_144 G0 G) (v1 : Int32) (v2 : Int32) (v3 : Int32), ((-2147483648 : Int) ≤ v1.toInt ∧ v1.toInt ≤ 2147483647) → ((-2147483648 : Int) ≤ v2.toInt ∧ v2.toInt ≤ 2147483647) → ((1 : Int) ≤ v3.toInt ∧ v3.toInt ≤ 10) → 10 - v3.toInt < (mn : Int) → pj_X 4 pj_m144 G 24 [(0, .ref 1), (1, .int v1), (2, .int v2), (3, .int v3)] [] (fun v G' => ∃ y : Int32, v = some (.int y) ∧ pj_Inv G' ∧ pj_kpt kc_144 G0 G' ∧ ((-2147483648 : Int) ≤ y.toInt ∧ y.toInt ≤ 2147483647))) := by
  have c0_ : ((Int8.ofInt 9).toInt32).toInt = 9 := by decide
  have c1_ : (Int32.ofInt (-1)).toInt = -1 := by decide
  have c2_ : (Int32.ofInt 0).toInt = 0 := by decide
  have c3_ : (Int32.ofInt 1).toInt = 1 := by decide
  intro mn
  induction mn with
  | zero =>
    intro G hI hK v1 v2 v3 rv1 rv2 rv3 hm
    exfalso
    omega
  | succ mn ih =>
    intro G hI hK v1 v2 v3 rv1 rv2 rv3 hm
    refine pj_X_of (fun r h => pj_R_to (G, 27, [(0, .ref 1), (1, .int v1), (2, .int v2), (3, .int v3)], [.int ((Int8.ofInt 9).toInt32), .int v3], 0, 0) 27 3 (fun _ => rfl) h) ?_
    cases b1 : pj_c1 .gt v3 ((Int8.ofInt 9).toInt32) with
    | true =>
      have ub1 := pj_u_gtT b1
      refine pj_X_of (fun r h => pj_R_icT 80 rfl rfl b1 h) ?_
      refine pj_X_of (fun r h => pj_R_to (G, 81, [(0, .ref 1), (1, .int v1), (2, .int v2), (3, .int v3)], [.ref 1], 0, 0) 81 2 (fun _ => rfl) h) ?_
      refine pj_X_of (fun r h => pj_T_gr hI rfl rfl rfl h) ?_
      refine pj_X_of (fun r h => pj_R_to (G, 87, [(0, .ref 1), (1, .int v1), (2, .int v2), (3, .int v3)], [.long (Int64.ofInt (-1)), .ref 4], 0, 0) 87 2 (fun _ => rfl) h) ?_
      have lc2 : (Int64.ofInt (-1)).toInt = -1 := by decide
      refine pj_X_ca (vs := [.ref 4, .long (Int64.ofInt (-1))]) rfl (fun _ => rfl) ⟨Nat.le_of_ble_eq_true rfl, Nat.le_of_ble_eq_true rfl, pj_T_rcv hI rfl⟩ ⟨rfl, rfl⟩ (pj_Y_up (by decide) (ct_55x G hI (Int64.ofInt (-1)))) ?_
      rintro _ G4 ⟨rfl, iG4, jG4, fy3⟩
      have kG4 : pj_kpt kc_144 G0 G4 := pj_kpt_t hK (pj_kpt_s jG4 rfl)
      show pj_X _ _ G4 90 [(0, .ref 1), (1, .int v1), (2, .int v2), (3, .int v3)] [] _
      refine pj_X_of (fun r h => pj_R_to (G4, 92, [(0, .ref 1), (1, .int v1), (2, .int v2), (3, .int v3)], [.int ((Int8.ofInt 9).toInt32)], 0, 0) 92 2 (fun _ => rfl) h) ?_
      exact pj_X_rt rfl rfl ⟨_, rfl, iG4, kG4, pj_i32 _⟩
    | false =>
      have ub1 := pj_u_gtF b1
      refine pj_X_of (fun r h => pj_R_icF rfl b1 h) ?_
      refine pj_X_of (fun r h => pj_R_to (G, 31, [(0, .ref 1), (1, .int v1), (2, .int v2), (3, .int v3)], [.ref 1], 0, 0) 31 2 (fun _ => rfl) h) ?_
      refine pj_X_of (fun r h => pj_T_gr hI rfl rfl rfl h) ?_
      refine pj_X_gm hI rfl rfl (fun q5 => ?_) (fun q5 => ?_)
      · refine pj_X_of (fun r h => pj_R_to (G, 39, [(0, .ref 1), (1, .int v1), (2, .int v2), (3, .int v3)], [.ref 1, .int v1, .ref 7], 0, 0) 39 3 (fun _ => rfl) h) ?_
        refine pj_X_of (fun r h => pj_T_gr hI rfl rfl rfl h) ?_
        refine pj_X_of (fun r h => pj_R_to (G, 43, [(0, .ref 1), (1, .int v1), (2, .int v2), (3, .int v3)], [.int v3, .ref 6, .int v1, .ref 7], 0, 0) 43 2 (fun _ => rfl) h) ?_
        refine pj_X_ca (vs := [.ref 6, .int v3]) rfl (fun _ => rfl) ⟨Nat.le_of_ble_eq_true rfl, Nat.le_of_ble_eq_true rfl, pj_T_rcv hI rfl⟩ ⟨rfl, rfl⟩ (pj_Y_up (by decide) (ct_109 G hI v3)) ?_
        rintro _ _ ⟨y6, rfl, rfl, ry6⟩
        show pj_X _ _ G 46 [(0, .ref 1), (1, .int v1), (2, .int v2), (3, .int v3)] [.int y6, .int v1, .ref 7] _
        refine pj_X_of (fun r h => pj_R_to (G, 48, [(0, .ref 1), (1, .int v1), (2, .int v2), (3, .int v3)], [.int (y6 ^^^ (Int32.ofInt (-1))), .int v1, .ref 7], 0, 0) 48 3 (fun _ => rfl) h) ?_
        obtain ⟨z7, hz7⟩ : ∃ z : Int32, z = y6 ^^^ (Int32.ofInt (-1)) := ⟨_, rfl⟩
        rw [← hz7]
        refine pj_X_of (fun r h => pj_R_to (G, 49, [(0, .ref 1), (1, .int v1), (2, .int v2), (3, .int v3)], [.int (v1 &&& z7), .ref 7], 0, 0) 49 2 (fun _ => rfl) h) ?_
        obtain ⟨z8, hz8⟩ : ∃ z : Int32, z = v1 &&& z7 := ⟨_, rfl⟩
        rw [← hz8]
        refine pj_X_ca (vs := [.ref 7, .int z8]) rfl (fun _ => rfl) ⟨Nat.le_of_ble_eq_true rfl, Nat.le_of_ble_eq_true rfl, pj_T_rcv hI rfl⟩ ⟨rfl, rfl⟩ (pj_Y_up (by decide) (ct_49_7 G hI z8)) ?_
        rintro _ _ ⟨y9, rfl, rfl, ry9⟩
        show pj_X _ _ G 52 [(0, .ref 1), (1, .int v1), (2, .int v2), (3, .int v3)] [.int y9] _
        refine pj_X_of (fun r h => pj_R_to (G, 57, [(4, .int y9), (0, .ref 1), (1, .int v1), (2, .int v2), (3, .int v3)], [.int v2, .int y9], 0, 0) 57 4 (fun _ => rfl) h) ?_
        cases b10 : pj_c1 .ge y9 v2 with
        | true =>
          have ub10 := pj_u_geT b10
          refine pj_X_of (fun r h => pj_R_icT 74 rfl rfl b10 h) ?_
          refine pj_X_of (fun r h => pj_R_to (G, 77, [(3, .int (v3 + Int32.ofInt 1)), (4, .int y9), (0, .ref 1), (1, .int v1), (2, .int v2)], [], 0, 0) 77 2 (fun _ => rfl) h) ?_
          obtain ⟨z11, hz11⟩ : ∃ z : Int32, z = v3 + Int32.ofInt 1 := ⟨_, rfl⟩
          rw [← hz11]
          have fz11_0 : z11.toInt = v3.toInt + (Int32.ofInt 1).toInt := by rw [hz11]; exact pj_addI (by have := pj_i32 v3; have := pj_i32 (Int32.ofInt 1); omega) (by have := pj_i32 v3; have := pj_i32 (Int32.ofInt 1); omega)
          refine pj_X_of (fun r h => pj_R_to (G, 24, [(3, .int z11), (4, .int y9), (0, .ref 1), (1, .int v1), (2, .int v2)], [], 0, 0) 24 2 (fun _ => rfl) h) ?_
          exact pj_X_sub [(0, .ref 1), (1, .int v1), (2, .int v2), (3, .int z11)] (show List.Nodup [0, 1, 2, 3] by decide) ⟨rfl, rfl, rfl, rfl, trivial⟩ (ih G hI hK v1 v2 z11 (pj_i32 _) (pj_i32 _) ⟨by omega, by omega⟩ (by omega))
        | false =>
          have ub10 := pj_u_geF b10
          refine pj_X_of (fun r h => pj_R_icF rfl b10 h) ?_
          refine pj_X_of (fun r h => pj_R_to (G, 61, [(4, .int y9), (0, .ref 1), (1, .int v1), (2, .int v2), (3, .int v3)], [.ref 1], 0, 0) 61 2 (fun _ => rfl) h) ?_
          refine pj_X_of (fun r h => pj_T_gr hI rfl rfl rfl h) ?_
          refine pj_X_of (fun r h => pj_R_to (G, 67, [(4, .int y9), (0, .ref 1), (1, .int v1), (2, .int v2), (3, .int v3)], [.long y9.toInt64, .ref 4], 0, 0) 67 3 (fun _ => rfl) h) ?_
          have lc12 : (y9.toInt64).toInt = y9.toInt := Int32.toInt_toInt64 _
          refine pj_X_ca (vs := [.ref 4, .long y9.toInt64]) rfl (fun _ => rfl) ⟨Nat.le_of_ble_eq_true rfl, Nat.le_of_ble_eq_true rfl, pj_T_rcv hI rfl⟩ ⟨rfl, rfl⟩ (pj_Y_up (by decide) (ct_55x G hI y9.toInt64)) ?_
          rintro _ G14 ⟨rfl, iG14, jG14, fy13⟩
          have kG14 : pj_kpt kc_144 G0 G14 := pj_kpt_t hK (pj_kpt_s jG14 rfl)
          show pj_X _ _ G14 70 [(4, .int y9), (0, .ref 1), (1, .int v1), (2, .int v2), (3, .int v3)] [] _
          refine pj_X_of (fun r h => pj_R_to (G14, 73, [(4, .int y9), (0, .ref 1), (1, .int v1), (2, .int v2), (3, .int v3)], [.int (v3 - (Int32.ofInt 1))], 0, 0) 73 4 (fun _ => rfl) h) ?_
          obtain ⟨z15, hz15⟩ : ∃ z : Int32, z = v3 - (Int32.ofInt 1) := ⟨_, rfl⟩
          rw [← hz15]
          have fz15_0 : z15.toInt = v3.toInt - (Int32.ofInt 1).toInt := by rw [hz15]; exact pj_subI (by have := pj_i32 v3; have := pj_i32 (Int32.ofInt 1); omega) (by have := pj_i32 v3; have := pj_i32 (Int32.ofInt 1); omega)
          exact pj_X_rt rfl rfl ⟨_, rfl, iG14, kG14, pj_i32 _⟩
      · refine pj_X_of (fun r h => pj_R_to (G, 39, [(0, .ref 1), (1, .int v1), (2, .int v2), (3, .int v3)], [.ref 1, .int v1, .ref 14], 0, 0) 39 3 (fun _ => rfl) h) ?_
        refine pj_X_of (fun r h => pj_T_gr hI rfl rfl rfl h) ?_
        refine pj_X_of (fun r h => pj_R_to (G, 43, [(0, .ref 1), (1, .int v1), (2, .int v2), (3, .int v3)], [.int v3, .ref 6, .int v1, .ref 14], 0, 0) 43 2 (fun _ => rfl) h) ?_
        refine pj_X_ca (vs := [.ref 6, .int v3]) rfl (fun _ => rfl) ⟨Nat.le_of_ble_eq_true rfl, Nat.le_of_ble_eq_true rfl, pj_T_rcv hI rfl⟩ ⟨rfl, rfl⟩ (pj_Y_up (by decide) (ct_109 G hI v3)) ?_
        rintro _ _ ⟨y16, rfl, rfl, ry16⟩
        show pj_X _ _ G 46 [(0, .ref 1), (1, .int v1), (2, .int v2), (3, .int v3)] [.int y16, .int v1, .ref 14] _
        refine pj_X_of (fun r h => pj_R_to (G, 48, [(0, .ref 1), (1, .int v1), (2, .int v2), (3, .int v3)], [.int (y16 ^^^ (Int32.ofInt (-1))), .int v1, .ref 14], 0, 0) 48 3 (fun _ => rfl) h) ?_
        obtain ⟨z17, hz17⟩ : ∃ z : Int32, z = y16 ^^^ (Int32.ofInt (-1)) := ⟨_, rfl⟩
        rw [← hz17]
        refine pj_X_of (fun r h => pj_R_to (G, 49, [(0, .ref 1), (1, .int v1), (2, .int v2), (3, .int v3)], [.int (v1 &&& z17), .ref 14], 0, 0) 49 2 (fun _ => rfl) h) ?_
        obtain ⟨z18, hz18⟩ : ∃ z : Int32, z = v1 &&& z17 := ⟨_, rfl⟩
        rw [← hz18]
        refine pj_X_ca (vs := [.ref 14, .int z18]) rfl (fun _ => rfl) ⟨Nat.le_of_ble_eq_true rfl, Nat.le_of_ble_eq_true rfl, pj_T_rcv hI rfl⟩ ⟨rfl, rfl⟩ (pj_Y_up (by decide) (ct_49_14 G hI z18)) ?_
        rintro _ _ ⟨y19, rfl, rfl, ry19⟩
        show pj_X _ _ G 52 [(0, .ref 1), (1, .int v1), (2, .int v2), (3, .int v3)] [.int y19] _
        refine pj_X_of (fun r h => pj_R_to (G, 57, [(4, .int y19), (0, .ref 1), (1, .int v1), (2, .int v2), (3, .int v3)], [.int v2, .int y19], 0, 0) 57 4 (fun _ => rfl) h) ?_
        cases b20 : pj_c1 .ge y19 v2 with
        | true =>
          have ub20 := pj_u_geT b20
          refine pj_X_of (fun r h => pj_R_icT 74 rfl rfl b20 h) ?_
          refine pj_X_of (fun r h => pj_R_to (G, 77, [(3, .int (v3 + Int32.ofInt 1)), (4, .int y19), (0, .ref 1), (1, .int v1), (2, .int v2)], [], 0, 0) 77 2 (fun _ => rfl) h) ?_
          obtain ⟨z21, hz21⟩ : ∃ z : Int32, z = v3 + Int32.ofInt 1 := ⟨_, rfl⟩
          rw [← hz21]
          have fz21_0 : z21.toInt = v3.toInt + (Int32.ofInt 1).toInt := by rw [hz21]; exact pj_addI (by have := pj_i32 v3; have := pj_i32 (Int32.ofInt 1); omega) (by have := pj_i32 v3; have := pj_i32 (Int32.ofInt 1); omega)
          refine pj_X_of (fun r h => pj_R_to (G, 24, [(3, .int z21), (4, .int y19), (0, .ref 1), (1, .int v1), (2, .int v2)], [], 0, 0) 24 2 (fun _ => rfl) h) ?_
          exact pj_X_sub [(0, .ref 1), (1, .int v1), (2, .int v2), (3, .int z21)] (show List.Nodup [0, 1, 2, 3] by decide) ⟨rfl, rfl, rfl, rfl, trivial⟩ (ih G hI hK v1 v2 z21 (pj_i32 _) (pj_i32 _) ⟨by omega, by omega⟩ (by omega))
        | false =>
          have ub20 := pj_u_geF b20
          refine pj_X_of (fun r h => pj_R_icF rfl b20 h) ?_
          refine pj_X_of (fun r h => pj_R_to (G, 61, [(4, .int y19), (0, .ref 1), (1, .int v1), (2, .int v2), (3, .int v3)], [.ref 1], 0, 0) 61 2 (fun _ => rfl) h) ?_
          refine pj_X_of (fun r h => pj_T_gr hI rfl rfl rfl h) ?_
          refine pj_X_of (fun r h => pj_R_to (G, 67, [(4, .int y19), (0, .ref 1), (1, .int v1), (2, .int v2), (3, .int v3)], [.long y19.toInt64, .ref 4], 0, 0) 67 3 (fun _ => rfl) h) ?_
          have lc22 : (y19.toInt64).toInt = y19.toInt := Int32.toInt_toInt64 _
          refine pj_X_ca (vs := [.ref 4, .long y19.toInt64]) rfl (fun _ => rfl) ⟨Nat.le_of_ble_eq_true rfl, Nat.le_of_ble_eq_true rfl, pj_T_rcv hI rfl⟩ ⟨rfl, rfl⟩ (pj_Y_up (by decide) (ct_55x G hI y19.toInt64)) ?_
          rintro _ G24 ⟨rfl, iG24, jG24, fy23⟩
          have kG24 : pj_kpt kc_144 G0 G24 := pj_kpt_t hK (pj_kpt_s jG24 rfl)
          show pj_X _ _ G24 70 [(4, .int y19), (0, .ref 1), (1, .int v1), (2, .int v2), (3, .int v3)] [] _
          refine pj_X_of (fun r h => pj_R_to (G24, 73, [(4, .int y19), (0, .ref 1), (1, .int v1), (2, .int v2), (3, .int v3)], [.int (v3 - (Int32.ofInt 1))], 0, 0) 73 4 (fun _ => rfl) h) ?_
          obtain ⟨z25, hz25⟩ : ∃ z : Int32, z = v3 - (Int32.ofInt 1) := ⟨_, rfl⟩
          rw [← hz25]
          have fz25_0 : z25.toInt = v3.toInt - (Int32.ofInt 1).toInt := by rw [hz25]; exact pj_subI (by have := pj_i32 v3; have := pj_i32 (Int32.ofInt 1); omega) (by have := pj_i32 v3; have := pj_i32 (Int32.ofInt 1); omega)
          exact pj_X_rt rfl rfl ⟨_, rfl, iG24, kG24, pj_i32 _⟩
theorem ct_144 (G0 : pj_G) (hI : pj_Inv G0) : pj_Y 5 144 [.ref 1] G0 (fun v G' => ∃ y : Int32, v = some (.int y) ∧ pj_Inv G' ∧ pj_kpt kc_144 G0 G' ∧ ((-2147483648 : Int) ≤ y.toInt ∧ y.toInt ≤ 2147483647)) := by
  have c0_ : ((Int8.ofInt 9).toInt32).toInt = 9 := by decide
  have c1_ : (Int32.ofInt (-1)).toInt = -1 := by decide
  have c2_ : (Int32.ofInt 0).toInt = 0 := by decide
  have c3_ : (Int32.ofInt 1).toInt = 1 := by decide
  refine pj_Y_X (M := pj_m144) rfl rfl (Nat.le_of_ble_eq_true rfl) ?_
  have hK : pj_kpt kc_144 G0 G0 := pj_kpt_r _ _
  show pj_X _ _ G0 0 [(0, .ref 1)] [] _
  refine pj_X_of (fun r h => pj_R_to (G0, 1, [(0, .ref 1)], [.ref 1], 0, 0) 1 2 (fun _ => rfl) h) ?_
  refine pj_X_of (fun r h => pj_T_gr hI rfl rfl rfl h) ?_
  refine pj_X_of (fun r h => pj_R_to (G0, 6, [(0, .ref 1)], [.int (Int32.ofInt 0), .int (Int32.ofInt 0), .ref 6], 0, 0) 6 3 (fun _ => rfl) h) ?_
  refine pj_X_ca (vs := [.ref 6, .int (Int32.ofInt 0), .int (Int32.ofInt 0)]) rfl (fun _ => rfl) ⟨Nat.le_of_ble_eq_true rfl, Nat.le_of_ble_eq_true rfl, pj_T_rcv hI rfl⟩ ⟨rfl, rfl⟩ (pj_Y_up (by decide) (ct_108 G0 hI (Int32.ofInt 0) (Int32.ofInt 0))) ?_
  rintro _ _ ⟨y26, rfl, rfl, ry26⟩
  show pj_X _ _ G0 9 [(0, .ref 1)] [.int y26] _
  refine pj_X_of (fun r h => pj_R_to (G0, 11, [(1, .int y26), (0, .ref 1)], [.ref 1], 0, 0) 11 3 (fun _ => rfl) h) ?_
  refine pj_X_of (fun r h => pj_T_gr hI rfl rfl rfl h) ?_
  refine pj_X_gm hI rfl rfl (fun q27 => ?_) (fun q27 => ?_)
  · refine pj_X_of (fun r h => pj_R_to (G0, 18, [(1, .int y26), (0, .ref 1)], [.int y26, .ref 7], 0, 0) 18 2 (fun _ => rfl) h) ?_
    refine pj_X_ca (vs := [.ref 7, .int y26]) rfl (fun _ => rfl) ⟨Nat.le_of_ble_eq_true rfl, Nat.le_of_ble_eq_true rfl, pj_T_rcv hI rfl⟩ ⟨rfl, rfl⟩ (pj_Y_up (by decide) (ct_49_7 G0 hI y26)) ?_
    rintro _ _ ⟨y28, rfl, rfl, ry28⟩
    show pj_X _ _ G0 21 [(1, .int y26), (0, .ref 1)] [.int y28] _
    refine pj_X_of (fun r h => pj_R_to (G0, 24, [(3, .int (Int32.ofInt 1)), (2, .int y28), (1, .int y26), (0, .ref 1)], [], 0, 0) 24 4 (fun _ => rfl) h) ?_
    exact pj_X_sub [(0, .ref 1), (1, .int y26), (2, .int y28), (3, .int (Int32.ofInt 1))] (show List.Nodup [0, 1, 2, 3] by decide) ⟨rfl, rfl, rfl, rfl, trivial⟩ ((lp_ct_144 G0 hI   10) G0 hI hK y26 y28 (Int32.ofInt 1) (pj_i32 _) (pj_i32 _) ⟨by omega, by omega⟩ (by omega))
  · refine pj_X_of (fun r h => pj_R_to (G0, 18, [(1, .int y26), (0, .ref 1)], [.int y26, .ref 14], 0, 0) 18 2 (fun _ => rfl) h) ?_
    refine pj_X_ca (vs := [.ref 14, .int y26]) rfl (fun _ => rfl) ⟨Nat.le_of_ble_eq_true rfl, Nat.le_of_ble_eq_true rfl, pj_T_rcv hI rfl⟩ ⟨rfl, rfl⟩ (pj_Y_up (by decide) (ct_49_14 G0 hI y26)) ?_
    rintro _ _ ⟨y29, rfl, rfl, ry29⟩
    show pj_X _ _ G0 21 [(1, .int y26), (0, .ref 1)] [.int y29] _
    refine pj_X_of (fun r h => pj_R_to (G0, 24, [(3, .int (Int32.ofInt 1)), (2, .int y29), (1, .int y26), (0, .ref 1)], [], 0, 0) 24 4 (fun _ => rfl) h) ?_
    exact pj_X_sub [(0, .ref 1), (1, .int y26), (2, .int y29), (3, .int (Int32.ofInt 1))] (show List.Nodup [0, 1, 2, 3] by decide) ⟨rfl, rfl, rfl, rfl, trivial⟩ ((lp_ct_144 G0 hI   10) G0 hI hK y26 y29 (Int32.ofInt 1) (pj_i32 _) (pj_i32 _) ⟨by omega, by omega⟩ (by omega))
def kc_145 : pj_KT := ([(4, 1)], [4, 5], [])
theorem lp_ct_145 (G0 : pj_G) (hI0 : pj_Inv G0) (n : Int32) : ∀ mn : Nat, (∀ (G : pj_G) (hI : pj_Inv G) (hK : pj_kpt kc_145 G0 G) (v2 : Int32) (v3 : Int32) (v4 : Int32) (v5 : Int32) (v6 : Int32), ((0 : Int) ≤ v2.toInt ∧ v2.toInt ≤ 1023) → ((-2147483648 : Int) ≤ v3.toInt ∧ v3.toInt ≤ 2147483647) → ((-2147483648 : Int) ≤ v4.toInt ∧ v4.toInt ≤ 2147483647) → ((-2147483648 : Int) ≤ v5.toInt ∧ v5.toInt ≤ 2147483647) → ((0 : Int) ≤ v6.toInt ∧ v6.toInt ≤ 1024) → 1024 - v6.toInt < (mn : Int) → pj_X 4 pj_m145 G 39 [(0, .ref 1), (1, .int n), (2, .int v2), (3, .int v3), (4, .int v4), (5, .int v5), (6, .int v6)] [] (fun v G' => ∃ y : Int32, v = some (.int y) ∧ pj_Inv G' ∧ pj_kpt kc_145 G0 G' ∧ ((-2147483648 : Int) ≤ y.toInt ∧ y.toInt ≤ 2147483647))) := by
  have c0_ : (Int32.ofInt (-1)).toInt = -1 := by decide
  have c1_ : (Int32.ofInt 0).toInt = 0 := by decide
  have c2_ : (Int32.ofInt 1).toInt = 1 := by decide
  have c3_ : (Int32.ofInt 3).toInt = 3 := by decide
  intro mn
  induction mn with
  | zero =>
    intro G hI hK v2 v3 v4 v5 v6 rv2 rv3 rv4 rv5 rv6 hm
    exfalso
    omega
  | succ mn ih =>
    intro G hI hK v2 v3 v4 v5 v6 rv2 rv3 rv4 rv5 rv6 hm
    refine pj_X_of (fun r h => pj_R_to (G, 42, [(0, .ref 1), (1, .int n), (2, .int v2), (3, .int v3), (4, .int v4), (5, .int v5), (6, .int v6)], [.int v2, .int v6], 0, 0) 42 3 (fun _ => rfl) h) ?_
    cases b1 : pj_c1 .gt v6 v2 with
    | true =>
      have ub1 := pj_u_gtT b1
      refine pj_X_of (fun r h => pj_R_icT 108 rfl rfl b1 h) ?_
      refine pj_X_of (fun r h => pj_R_to (G, 109, [(0, .ref 1), (1, .int n), (2, .int v2), (3, .int v3), (4, .int v4), (5, .int v5), (6, .int v6)], [.ref 1], 0, 0) 109 2 (fun _ => rfl) h) ?_
      refine pj_X_of (fun r h => pj_T_gr hI rfl rfl rfl h) ?_
      refine pj_X_of (fun r h => pj_R_to (G, 115, [(0, .ref 1), (1, .int n), (2, .int v2), (3, .int v3), (4, .int v4), (5, .int v5), (6, .int v6)], [.long v5.toInt64, .ref 4], 0, 0) 115 3 (fun _ => rfl) h) ?_
      have lc2 : (v5.toInt64).toInt = v5.toInt := Int32.toInt_toInt64 _
      refine pj_X_ca (vs := [.ref 4, .long v5.toInt64]) rfl (fun _ => rfl) ⟨Nat.le_of_ble_eq_true rfl, Nat.le_of_ble_eq_true rfl, pj_T_rcv hI rfl⟩ ⟨rfl, rfl⟩ (pj_Y_up (by decide) (ct_55x G hI v5.toInt64)) ?_
      rintro _ G4 ⟨rfl, iG4, jG4, fy3⟩
      have kG4 : pj_kpt kc_145 G0 G4 := pj_kpt_t hK (pj_kpt_s jG4 rfl)
      show pj_X _ _ G4 118 [(0, .ref 1), (1, .int n), (2, .int v2), (3, .int v3), (4, .int v4), (5, .int v5), (6, .int v6)] [] _
      refine pj_X_of (fun r h => pj_R_to (G4, 120, [(0, .ref 1), (1, .int n), (2, .int v2), (3, .int v3), (4, .int v4), (5, .int v5), (6, .int v6)], [.int v4], 0, 0) 120 2 (fun _ => rfl) h) ?_
      exact pj_X_rt rfl rfl ⟨_, rfl, iG4, kG4, pj_i32 _⟩
    | false =>
      have ub1 := pj_u_gtF b1
      refine pj_X_of (fun r h => pj_R_icF rfl b1 h) ?_
      refine pj_X_of (fun r h => pj_R_to (G, 50, [(0, .ref 1), (1, .int n), (2, .int v2), (3, .int v3), (4, .int v4), (5, .int v5), (6, .int v6)], [.int (v2 ^^^ (Int32.ofInt (-1))), .int v6], 0, 0) 50 5 (fun _ => rfl) h) ?_
      obtain ⟨z5, hz5⟩ : ∃ z : Int32, z = v2 ^^^ (Int32.ofInt (-1)) := ⟨_, rfl⟩
      rw [← hz5]
      refine pj_X_of (fun r h => pj_R_to (G, 51, [(0, .ref 1), (1, .int n), (2, .int v2), (3, .int v3), (4, .int v4), (5, .int v5), (6, .int v6)], [.int (v6 &&& z5)], 0, 0) 51 2 (fun _ => rfl) h) ?_
      obtain ⟨z6, hz6⟩ : ∃ z : Int32, z = v6 &&& z5 := ⟨_, rfl⟩
      rw [← hz6]
      cases b7 : pj_c1 .ne z6 0 with
      | true =>
        have ub7 := pj_u0_neT b7
        refine pj_X_of (fun r h => pj_R_ifT 102 rfl rfl b7 h) ?_
        refine pj_X_of (fun r h => pj_R_to (G, 105, [(6, .int (v6 + Int32.ofInt 1)), (0, .ref 1), (1, .int n), (2, .int v2), (3, .int v3), (4, .int v4), (5, .int v5)], [], 0, 0) 105 2 (fun _ => rfl) h) ?_
        obtain ⟨z8, hz8⟩ : ∃ z : Int32, z = v6 + Int32.ofInt 1 := ⟨_, rfl⟩
        rw [← hz8]
        have fz8_0 : z8.toInt = v6.toInt + (Int32.ofInt 1).toInt := by rw [hz8]; exact pj_addI (by have := pj_i32 v6; have := pj_i32 (Int32.ofInt 1); omega) (by have := pj_i32 v6; have := pj_i32 (Int32.ofInt 1); omega)
        refine pj_X_of (fun r h => pj_R_to (G, 39, [(6, .int z8), (0, .ref 1), (1, .int n), (2, .int v2), (3, .int v3), (4, .int v4), (5, .int v5)], [], 0, 0) 39 2 (fun _ => rfl) h) ?_
        exact pj_X_sub [(0, .ref 1), (1, .int n), (2, .int v2), (3, .int v3), (4, .int v4), (5, .int v5), (6, .int z8)] (show List.Nodup [0, 1, 2, 3, 4, 5, 6] by decide) ⟨rfl, rfl, rfl, rfl, rfl, rfl, rfl, trivial⟩ (ih G hI hK v2 v3 v4 v5 z8 ⟨by omega, by omega⟩ (pj_i32 _) (pj_i32 _) (pj_i32 _) ⟨by omega, by omega⟩ (by omega))
      | false =>
        have ub7 := pj_u0_neF b7
        refine pj_X_of (fun r h => pj_R_ifF rfl b7 h) ?_
        refine pj_X_of (fun r h => pj_R_to (G, 56, [(0, .ref 1), (1, .int n), (2, .int v2), (3, .int v3), (4, .int v4), (5, .int v5), (6, .int v6)], [.int v6], 0, 0) 56 2 (fun _ => rfl) h) ?_
        refine pj_X_ca (vs := [.int v6]) rfl (fun _ => rfl) ⟨Nat.le_of_ble_eq_true rfl, Nat.le_of_ble_eq_true rfl, rfl⟩ ⟨rfl, rfl⟩ (pj_Y_up (by decide) (ct_287 G hI v6)) ?_
        rintro _ _ ⟨y9, rfl, rfl, ry9⟩
        show pj_X _ _ G 59 [(0, .ref 1), (1, .int n), (2, .int v2), (3, .int v3), (4, .int v4), (5, .int v5), (6, .int v6)] [.int y9] _
        refine pj_X_of (fun r h => pj_R_to (G, 60, [(0, .ref 1), (1, .int n), (2, .int v2), (3, .int v3), (4, .int v4), (5, .int v5), (6, .int v6)], [.int v3, .int y9], 0, 0) 60 2 (fun _ => rfl) h) ?_
        cases b10 : pj_c1 .ne y9 v3 with
        | true =>
          have ub10 := pj_u_neT b10
          refine pj_X_of (fun r h => pj_R_icT 102 rfl rfl b10 h) ?_
          refine pj_X_of (fun r h => pj_R_to (G, 105, [(6, .int (v6 + Int32.ofInt 1)), (0, .ref 1), (1, .int n), (2, .int v2), (3, .int v3), (4, .int v4), (5, .int v5)], [], 0, 0) 105 2 (fun _ => rfl) h) ?_
          obtain ⟨z11, hz11⟩ : ∃ z : Int32, z = v6 + Int32.ofInt 1 := ⟨_, rfl⟩
          rw [← hz11]
          have fz11_0 : z11.toInt = v6.toInt + (Int32.ofInt 1).toInt := by rw [hz11]; exact pj_addI (by have := pj_i32 v6; have := pj_i32 (Int32.ofInt 1); omega) (by have := pj_i32 v6; have := pj_i32 (Int32.ofInt 1); omega)
          refine pj_X_of (fun r h => pj_R_to (G, 39, [(6, .int z11), (0, .ref 1), (1, .int n), (2, .int v2), (3, .int v3), (4, .int v4), (5, .int v5)], [], 0, 0) 39 2 (fun _ => rfl) h) ?_
          exact pj_X_sub [(0, .ref 1), (1, .int n), (2, .int v2), (3, .int v3), (4, .int v4), (5, .int v5), (6, .int z11)] (show List.Nodup [0, 1, 2, 3, 4, 5, 6] by decide) ⟨rfl, rfl, rfl, rfl, rfl, rfl, rfl, trivial⟩ (ih G hI hK v2 v3 v4 v5 z11 ⟨by omega, by omega⟩ (pj_i32 _) (pj_i32 _) (pj_i32 _) ⟨by omega, by omega⟩ (by omega))
        | false =>
          have ub10 := pj_u_neF b10
          refine pj_X_of (fun r h => pj_R_icF rfl b10 h) ?_
          refine pj_X_of (fun r h => pj_R_to (G, 64, [(0, .ref 1), (1, .int n), (2, .int v2), (3, .int v3), (4, .int v4), (5, .int v5), (6, .int v6)], [.ref 1], 0, 0) 64 2 (fun _ => rfl) h) ?_
          refine pj_X_of (fun r h => pj_T_gr hI rfl rfl rfl h) ?_
          refine pj_X_gm hI rfl rfl (fun q12 => ?_) (fun q12 => ?_)
          · refine pj_X_of (fun r h => pj_R_to (G, 75, [(0, .ref 1), (1, .int n), (2, .int v2), (3, .int v3), (4, .int v4), (5, .int v5), (6, .int v6)], [.int (v6 ^^^ (Int32.ofInt (-1))), .int v2, .ref 7], 0, 0) 75 5 (fun _ => rfl) h) ?_
            obtain ⟨z13, hz13⟩ : ∃ z : Int32, z = v6 ^^^ (Int32.ofInt (-1)) := ⟨_, rfl⟩
            rw [← hz13]
            refine pj_X_of (fun r h => pj_R_to (G, 76, [(0, .ref 1), (1, .int n), (2, .int v2), (3, .int v3), (4, .int v4), (5, .int v5), (6, .int v6)], [.int (v2 &&& z13), .ref 7], 0, 0) 76 2 (fun _ => rfl) h) ?_
            obtain ⟨z14, hz14⟩ : ∃ z : Int32, z = v2 &&& z13 := ⟨_, rfl⟩
            rw [← hz14]
            refine pj_X_ca (vs := [.ref 7, .int z14]) rfl (fun _ => rfl) ⟨Nat.le_of_ble_eq_true rfl, Nat.le_of_ble_eq_true rfl, pj_T_rcv hI rfl⟩ ⟨rfl, rfl⟩ (pj_Y_up (by decide) (ct_49_7 G hI z14)) ?_
            rintro _ _ ⟨y15, rfl, rfl, ry15⟩
            show pj_X _ _ G 79 [(0, .ref 1), (1, .int n), (2, .int v2), (3, .int v3), (4, .int v4), (5, .int v5), (6, .int v6)] [.int y15] _
            refine pj_X_of (fun r h => pj_R_to (G, 84, [(7, .int y15), (0, .ref 1), (1, .int n), (2, .int v2), (3, .int v3), (4, .int v4), (5, .int v5), (6, .int v6)], [.int (Int32.ofInt (-1)), .int v4], 0, 0) 84 4 (fun _ => rfl) h) ?_
            cases b16 : pj_c1 .eq v4 (Int32.ofInt (-1)) with
            | true =>
              have ub16 := pj_u_eqT b16
              refine pj_X_of (fun r h => pj_R_icT 94 rfl rfl b16 h) ?_
              refine pj_X_of (fun r h => pj_R_to (G, 105, [(6, .int (v6 + Int32.ofInt 1)), (5, .int v6), (4, .int y15), (7, .int y15), (0, .ref 1), (1, .int n), (2, .int v2), (3, .int v3)], [], 0, 0) 105 6 (fun _ => rfl) h) ?_
              obtain ⟨z17, hz17⟩ : ∃ z : Int32, z = v6 + Int32.ofInt 1 := ⟨_, rfl⟩
              rw [← hz17]
              have fz17_0 : z17.toInt = v6.toInt + (Int32.ofInt 1).toInt := by rw [hz17]; exact pj_addI (by have := pj_i32 v6; have := pj_i32 (Int32.ofInt 1); omega) (by have := pj_i32 v6; have := pj_i32 (Int32.ofInt 1); omega)
              refine pj_X_of (fun r h => pj_R_to (G, 39, [(6, .int z17), (5, .int v6), (4, .int y15), (7, .int y15), (0, .ref 1), (1, .int n), (2, .int v2), (3, .int v3)], [], 0, 0) 39 2 (fun _ => rfl) h) ?_
              exact pj_X_sub [(0, .ref 1), (1, .int n), (2, .int v2), (3, .int v3), (4, .int y15), (5, .int v6), (6, .int z17)] (show List.Nodup [0, 1, 2, 3, 4, 5, 6] by decide) ⟨rfl, rfl, rfl, rfl, rfl, rfl, rfl, trivial⟩ (ih G hI hK v2 v3 y15 v6 z17 ⟨by omega, by omega⟩ (pj_i32 _) (pj_i32 _) (pj_i32 _) ⟨by omega, by omega⟩ (by omega))
            | false =>
              have ub16 := pj_u_eqF b16
              refine pj_X_of (fun r h => pj_R_icF rfl b16 h) ?_
              refine pj_X_of (fun r h => pj_R_to (G, 91, [(7, .int y15), (0, .ref 1), (1, .int n), (2, .int v2), (3, .int v3), (4, .int v4), (5, .int v5), (6, .int v6)], [.int v4, .int y15], 0, 0) 91 3 (fun _ => rfl) h) ?_
              cases b18 : pj_c1 .ge y15 v4 with
              | true =>
                have ub18 := pj_u_geT b18
                refine pj_X_of (fun r h => pj_R_icT 102 rfl rfl b18 h) ?_
                refine pj_X_of (fun r h => pj_R_to (G, 105, [(6, .int (v6 + Int32.ofInt 1)), (7, .int y15), (0, .ref 1), (1, .int n), (2, .int v2), (3, .int v3), (4, .int v4), (5, .int v5)], [], 0, 0) 105 2 (fun _ => rfl) h) ?_
                obtain ⟨z19, hz19⟩ : ∃ z : Int32, z = v6 + Int32.ofInt 1 := ⟨_, rfl⟩
                rw [← hz19]
                have fz19_0 : z19.toInt = v6.toInt + (Int32.ofInt 1).toInt := by rw [hz19]; exact pj_addI (by have := pj_i32 v6; have := pj_i32 (Int32.ofInt 1); omega) (by have := pj_i32 v6; have := pj_i32 (Int32.ofInt 1); omega)
                refine pj_X_of (fun r h => pj_R_to (G, 39, [(6, .int z19), (7, .int y15), (0, .ref 1), (1, .int n), (2, .int v2), (3, .int v3), (4, .int v4), (5, .int v5)], [], 0, 0) 39 2 (fun _ => rfl) h) ?_
                exact pj_X_sub [(0, .ref 1), (1, .int n), (2, .int v2), (3, .int v3), (4, .int v4), (5, .int v5), (6, .int z19)] (show List.Nodup [0, 1, 2, 3, 4, 5, 6] by decide) ⟨rfl, rfl, rfl, rfl, rfl, rfl, rfl, trivial⟩ (ih G hI hK v2 v3 v4 v5 z19 ⟨by omega, by omega⟩ (pj_i32 _) (pj_i32 _) (pj_i32 _) ⟨by omega, by omega⟩ (by omega))
              | false =>
                have ub18 := pj_u_geF b18
                refine pj_X_of (fun r h => pj_R_icF rfl b18 h) ?_
                refine pj_X_of (fun r h => pj_R_to (G, 105, [(6, .int (v6 + Int32.ofInt 1)), (5, .int v6), (4, .int y15), (7, .int y15), (0, .ref 1), (1, .int n), (2, .int v2), (3, .int v3)], [], 0, 0) 105 6 (fun _ => rfl) h) ?_
                obtain ⟨z20, hz20⟩ : ∃ z : Int32, z = v6 + Int32.ofInt 1 := ⟨_, rfl⟩
                rw [← hz20]
                have fz20_0 : z20.toInt = v6.toInt + (Int32.ofInt 1).toInt := by rw [hz20]; exact pj_addI (by have := pj_i32 v6; have := pj_i32 (Int32.ofInt 1); omega) (by have := pj_i32 v6; have := pj_i32 (Int32.ofInt 1); omega)
                refine pj_X_of (fun r h => pj_R_to (G, 39, [(6, .int z20), (5, .int v6), (4, .int y15), (7, .int y15), (0, .ref 1), (1, .int n), (2, .int v2), (3, .int v3)], [], 0, 0) 39 2 (fun _ => rfl) h) ?_
                exact pj_X_sub [(0, .ref 1), (1, .int n), (2, .int v2), (3, .int v3), (4, .int y15), (5, .int v6), (6, .int z20)] (show List.Nodup [0, 1, 2, 3, 4, 5, 6] by decide) ⟨rfl, rfl, rfl, rfl, rfl, rfl, rfl, trivial⟩ (ih G hI hK v2 v3 y15 v6 z20 ⟨by omega, by omega⟩ (pj_i32 _) (pj_i32 _) (pj_i32 _) ⟨by omega, by omega⟩ (by omega))
          · refine pj_X_of (fun r h => pj_R_to (G, 75, [(0, .ref 1), (1, .int n), (2, .int v2), (3, .int v3), (4, .int v4), (5, .int v5), (6, .int v6)], [.int (v6 ^^^ (Int32.ofInt (-1))), .int v2, .ref 14], 0, 0) 75 5 (fun _ => rfl) h) ?_
            obtain ⟨z21, hz21⟩ : ∃ z : Int32, z = v6 ^^^ (Int32.ofInt (-1)) := ⟨_, rfl⟩
            rw [← hz21]
            refine pj_X_of (fun r h => pj_R_to (G, 76, [(0, .ref 1), (1, .int n), (2, .int v2), (3, .int v3), (4, .int v4), (5, .int v5), (6, .int v6)], [.int (v2 &&& z21), .ref 14], 0, 0) 76 2 (fun _ => rfl) h) ?_
            obtain ⟨z22, hz22⟩ : ∃ z : Int32, z = v2 &&& z21 := ⟨_, rfl⟩
            rw [← hz22]
            refine pj_X_ca (vs := [.ref 14, .int z22]) rfl (fun _ => rfl) ⟨Nat.le_of_ble_eq_true rfl, Nat.le_of_ble_eq_true rfl, pj_T_rcv hI rfl⟩ ⟨rfl, rfl⟩ (pj_Y_up (by decide) (ct_49_14 G hI z22)) ?_
            rintro _ _ ⟨y23, rfl, rfl, ry23⟩
            show pj_X _ _ G 79 [(0, .ref 1), (1, .int n), (2, .int v2), (3, .int v3), (4, .int v4), (5, .int v5), (6, .int v6)] [.int y23] _
            refine pj_X_of (fun r h => pj_R_to (G, 84, [(7, .int y23), (0, .ref 1), (1, .int n), (2, .int v2), (3, .int v3), (4, .int v4), (5, .int v5), (6, .int v6)], [.int (Int32.ofInt (-1)), .int v4], 0, 0) 84 4 (fun _ => rfl) h) ?_
            cases b24 : pj_c1 .eq v4 (Int32.ofInt (-1)) with
            | true =>
              have ub24 := pj_u_eqT b24
              refine pj_X_of (fun r h => pj_R_icT 94 rfl rfl b24 h) ?_
              refine pj_X_of (fun r h => pj_R_to (G, 105, [(6, .int (v6 + Int32.ofInt 1)), (5, .int v6), (4, .int y23), (7, .int y23), (0, .ref 1), (1, .int n), (2, .int v2), (3, .int v3)], [], 0, 0) 105 6 (fun _ => rfl) h) ?_
              obtain ⟨z25, hz25⟩ : ∃ z : Int32, z = v6 + Int32.ofInt 1 := ⟨_, rfl⟩
              rw [← hz25]
              have fz25_0 : z25.toInt = v6.toInt + (Int32.ofInt 1).toInt := by rw [hz25]; exact pj_addI (by have := pj_i32 v6; have := pj_i32 (Int32.ofInt 1); omega) (by have := pj_i32 v6; have := pj_i32 (Int32.ofInt 1); omega)
              refine pj_X_of (fun r h => pj_R_to (G, 39, [(6, .int z25), (5, .int v6), (4, .int y23), (7, .int y23), (0, .ref 1), (1, .int n), (2, .int v2), (3, .int v3)], [], 0, 0) 39 2 (fun _ => rfl) h) ?_
              exact pj_X_sub [(0, .ref 1), (1, .int n), (2, .int v2), (3, .int v3), (4, .int y23), (5, .int v6), (6, .int z25)] (show List.Nodup [0, 1, 2, 3, 4, 5, 6] by decide) ⟨rfl, rfl, rfl, rfl, rfl, rfl, rfl, trivial⟩ (ih G hI hK v2 v3 y23 v6 z25 ⟨by omega, by omega⟩ (pj_i32 _) (pj_i32 _) (pj_i32 _) ⟨by omega, by omega⟩ (by omega))
            | false =>
              have ub24 := pj_u_eqF b24
              refine pj_X_of (fun r h => pj_R_icF rfl b24 h) ?_
              refine pj_X_of (fun r h => pj_R_to (G, 91, [(7, .int y23), (0, .ref 1), (1, .int n), (2, .int v2), (3, .int v3), (4, .int v4), (5, .int v5), (6, .int v6)], [.int v4, .int y23], 0, 0) 91 3 (fun _ => rfl) h) ?_
              cases b26 : pj_c1 .ge y23 v4 with
              | true =>
                have ub26 := pj_u_geT b26
                refine pj_X_of (fun r h => pj_R_icT 102 rfl rfl b26 h) ?_
                refine pj_X_of (fun r h => pj_R_to (G, 105, [(6, .int (v6 + Int32.ofInt 1)), (7, .int y23), (0, .ref 1), (1, .int n), (2, .int v2), (3, .int v3), (4, .int v4), (5, .int v5)], [], 0, 0) 105 2 (fun _ => rfl) h) ?_
                obtain ⟨z27, hz27⟩ : ∃ z : Int32, z = v6 + Int32.ofInt 1 := ⟨_, rfl⟩
                rw [← hz27]
                have fz27_0 : z27.toInt = v6.toInt + (Int32.ofInt 1).toInt := by rw [hz27]; exact pj_addI (by have := pj_i32 v6; have := pj_i32 (Int32.ofInt 1); omega) (by have := pj_i32 v6; have := pj_i32 (Int32.ofInt 1); omega)
                refine pj_X_of (fun r h => pj_R_to (G, 39, [(6, .int z27), (7, .int y23), (0, .ref 1), (1, .int n), (2, .int v2), (3, .int v3), (4, .int v4), (5, .int v5)], [], 0, 0) 39 2 (fun _ => rfl) h) ?_
                exact pj_X_sub [(0, .ref 1), (1, .int n), (2, .int v2), (3, .int v3), (4, .int v4), (5, .int v5), (6, .int z27)] (show List.Nodup [0, 1, 2, 3, 4, 5, 6] by decide) ⟨rfl, rfl, rfl, rfl, rfl, rfl, rfl, trivial⟩ (ih G hI hK v2 v3 v4 v5 z27 ⟨by omega, by omega⟩ (pj_i32 _) (pj_i32 _) (pj_i32 _) ⟨by omega, by omega⟩ (by omega))
              | false =>
                have ub26 := pj_u_geF b26
                refine pj_X_of (fun r h => pj_R_icF rfl b26 h) ?_
                refine pj_X_of (fun r h => pj_R_to (G, 105, [(6, .int (v6 + Int32.ofInt 1)), (5, .int v6), (4, .int y23), (7, .int y23), (0, .ref 1), (1, .int n), (2, .int v2), (3, .int v3)], [], 0, 0) 105 6 (fun _ => rfl) h) ?_
                obtain ⟨z28, hz28⟩ : ∃ z : Int32, z = v6 + Int32.ofInt 1 := ⟨_, rfl⟩
                rw [← hz28]
                have fz28_0 : z28.toInt = v6.toInt + (Int32.ofInt 1).toInt := by rw [hz28]; exact pj_addI (by have := pj_i32 v6; have := pj_i32 (Int32.ofInt 1); omega) (by have := pj_i32 v6; have := pj_i32 (Int32.ofInt 1); omega)
                refine pj_X_of (fun r h => pj_R_to (G, 39, [(6, .int z28), (5, .int v6), (4, .int y23), (7, .int y23), (0, .ref 1), (1, .int n), (2, .int v2), (3, .int v3)], [], 0, 0) 39 2 (fun _ => rfl) h) ?_
                exact pj_X_sub [(0, .ref 1), (1, .int n), (2, .int v2), (3, .int v3), (4, .int y23), (5, .int v6), (6, .int z28)] (show List.Nodup [0, 1, 2, 3, 4, 5, 6] by decide) ⟨rfl, rfl, rfl, rfl, rfl, rfl, rfl, trivial⟩ (ih G hI hK v2 v3 y23 v6 z28 ⟨by omega, by omega⟩ (pj_i32 _) (pj_i32 _) (pj_i32 _) ⟨by omega, by omega⟩ (by omega))
theorem ct_145 (G0 : pj_G) (hI : pj_Inv G0) (n : Int32) : pj_Y 5 145 [.ref 1, .int n] G0 (fun v G' => ∃ y : Int32, v = some (.int y) ∧ pj_Inv G' ∧ pj_kpt kc_145 G0 G' ∧ ((-2147483648 : Int) ≤ y.toInt ∧ y.toInt ≤ 2147483647)) := by
  have c0_ : (Int32.ofInt (-1)).toInt = -1 := by decide
  have c1_ : (Int32.ofInt 0).toInt = 0 := by decide
  have c2_ : (Int32.ofInt 1).toInt = 1 := by decide
  have c3_ : (Int32.ofInt 3).toInt = 3 := by decide
  refine pj_Y_X (M := pj_m145) rfl rfl (Nat.le_of_ble_eq_true rfl) ?_
  have hK : pj_kpt kc_145 G0 G0 := pj_kpt_r _ _
  show pj_X _ _ G0 0 [(0, .ref 1), (1, .int n)] [] _
  refine pj_X_of (fun r h => pj_R_to (G0, 1, [(0, .ref 1), (1, .int n)], [.int n], 0, 0) 1 2 (fun _ => rfl) h) ?_
  cases b29 : pj_c1 .lt n 0 with
  | true =>
    have ub29 := pj_u0_ltT b29
    refine pj_X_of (fun r h => pj_R_ifT 9 rfl rfl b29 h) ?_
    refine pj_X_of (fun r h => pj_R_to (G0, 10, [(0, .ref 1), (1, .int n)], [.int (Int32.ofInt (-1))], 0, 0) 10 2 (fun _ => rfl) h) ?_
    exact pj_X_rt rfl rfl ⟨_, rfl, hI, hK, pj_i32 _⟩
  | false =>
    have ub29 := pj_u0_ltF b29
    refine pj_X_of (fun r h => pj_R_ifF rfl b29 h) ?_
    refine pj_X_of (fun r h => pj_R_to (G0, 6, [(0, .ref 1), (1, .int n)], [.int (Int32.ofInt 3), .int n], 0, 0) 6 3 (fun _ => rfl) h) ?_
    cases b30 : pj_c1 .le n (Int32.ofInt 3) with
    | true =>
      have ub30 := pj_u_leT b30
      refine pj_X_of (fun r h => pj_R_icT 11 rfl rfl b30 h) ?_
      refine pj_X_of (fun r h => pj_R_to (G0, 12, [(0, .ref 1), (1, .int n)], [.ref 1], 0, 0) 12 2 (fun _ => rfl) h) ?_
      refine pj_X_of (fun r h => pj_T_gr hI rfl rfl rfl h) ?_
      refine pj_X_of (fun r h => pj_R_to (G0, 17, [(0, .ref 1), (1, .int n)], [.int (Int32.ofInt 0), .int (Int32.ofInt 0), .ref 6], 0, 0) 17 3 (fun _ => rfl) h) ?_
      refine pj_X_ca (vs := [.ref 6, .int (Int32.ofInt 0), .int (Int32.ofInt 0)]) rfl (fun _ => rfl) ⟨Nat.le_of_ble_eq_true rfl, Nat.le_of_ble_eq_true rfl, pj_T_rcv hI rfl⟩ ⟨rfl, rfl⟩ (pj_Y_up (by decide) (ct_108 G0 hI (Int32.ofInt 0) (Int32.ofInt 0))) ?_
      rintro _ _ ⟨y31, rfl, rfl, ry31⟩
      show pj_X _ _ G0 20 [(0, .ref 1), (1, .int n)] [.int y31] _
      refine pj_X_of (fun r h => pj_R_to (G0, 23, [(2, .int y31), (0, .ref 1), (1, .int n)], [.int y31, .int n], 0, 0) 23 4 (fun _ => rfl) h) ?_
      refine pj_X_ca (vs := [.int y31]) rfl (fun _ => rfl) ⟨Nat.le_of_ble_eq_true rfl, Nat.le_of_ble_eq_true rfl, rfl⟩ ⟨rfl, rfl⟩ (pj_Y_up (by decide) (ct_287 G0 hI y31)) ?_
      rintro _ _ ⟨y32, rfl, rfl, ry32⟩
      show pj_X _ _ G0 26 [(2, .int y31), (0, .ref 1), (1, .int n)] [.int y32, .int n] _
      refine pj_X_of (fun r h => pj_R_mn (v := (if y32 < n then y32 else n)) rfl rfl rfl (Nat.le_of_ble_eq_true rfl) h) ?_
      show pj_X _ _ G0 29 [(2, .int y31), (0, .ref 1), (1, .int n)] [.int (if y32 < n then y32 else n)] _
      obtain ⟨z33, hz33⟩ : ∃ z : Int32, z = (if y32 < n then y32 else n) := ⟨_, rfl⟩
      rw [← hz33]
      have fz33_0 : z33.toInt ≤ n.toInt ∧ z33.toInt ≤ y32.toInt ∧ (z33.toInt = n.toInt ∨ z33.toInt = y32.toInt) := by rw [hz33]; exact pj_minI
      refine pj_X_of (fun r h => pj_R_to (G0, 39, [(6, .int (Int32.ofInt 0)), (5, .int (Int32.ofInt 0)), (4, .int (Int32.ofInt (-1))), (3, .int z33), (2, .int y31), (0, .ref 1), (1, .int n)], [], 0, 0) 39 8 (fun _ => rfl) h) ?_
      exact pj_X_sub [(0, .ref 1), (1, .int n), (2, .int y31), (3, .int z33), (4, .int (Int32.ofInt (-1))), (5, .int (Int32.ofInt 0)), (6, .int (Int32.ofInt 0))] (show List.Nodup [0, 1, 2, 3, 4, 5, 6] by decide) ⟨rfl, rfl, rfl, rfl, rfl, rfl, rfl, trivial⟩ ((lp_ct_145 G0 hI n  1025) G0 hI hK y31 z33 (Int32.ofInt (-1)) (Int32.ofInt 0) (Int32.ofInt 0) ⟨by omega, by omega⟩ (pj_i32 _) (pj_i32 _) (pj_i32 _) ⟨by omega, by omega⟩ (by omega))
    | false =>
      have ub30 := pj_u_leF b30
      refine pj_X_of (fun r h => pj_R_icF rfl b30 h) ?_
      refine pj_X_of (fun r h => pj_R_to (G0, 10, [(0, .ref 1), (1, .int n)], [.int (Int32.ofInt (-1))], 0, 0) 10 2 (fun _ => rfl) h) ?_
      exact pj_X_rt rfl rfl ⟨_, rfl, hI, hK, pj_i32 _⟩
def kc_146 : pj_KT := ([(4, 1), (38, 3)], [4, 5, 38, 45], [])
theorem ct_146 (G0 : pj_G) (hI : pj_Inv G0) (b : Int32) (p : Int32) (n : Int32) (c : Int32) : pj_Y 4 146 [.ref 1, .int b, .int p, .int n, .int c] G0 (fun v G' => ∃ y : Int32, v = some (.int y) ∧ pj_Inv G' ∧ pj_kpt kc_146 G0 G' ∧ ((-2147483648 : Int) ≤ y.toInt ∧ y.toInt ≤ 2147483647)) := by
  have c0_ : ((Int8.ofInt (-2)).toInt32).toInt = -2 := by decide
  have c1_ : (Int32.ofInt (-1)).toInt = -1 := by decide
  have c2_ : (Int32.ofInt 0).toInt = 0 := by decide
  refine pj_Y_X (M := pj_m146) rfl rfl (Nat.le_of_ble_eq_true rfl) ?_
  have hK : pj_kpt kc_146 G0 G0 := pj_kpt_r _ _
  show pj_X _ _ G0 0 [(0, .ref 1), (1, .int b), (2, .int p), (3, .int n), (4, .int c)] [] _
  refine pj_X_of (fun r h => pj_R_to (G0, 1, [(0, .ref 1), (1, .int b), (2, .int p), (3, .int n), (4, .int c)], [.ref 1], 0, 0) 1 2 (fun _ => rfl) h) ?_
  refine pj_X_of (fun r h => pj_T_gr hI rfl rfl rfl h) ?_
  refine pj_X_of (fun r h => pj_R_to (G0, 6, [(0, .ref 1), (1, .int b), (2, .int p), (3, .int n), (4, .int c)], [.int c, .ref 6], 0, 0) 6 2 (fun _ => rfl) h) ?_
  refine pj_X_ca (vs := [.ref 6, .int c]) rfl (fun _ => rfl) ⟨Nat.le_of_ble_eq_true rfl, Nat.le_of_ble_eq_true rfl, pj_T_rcv hI rfl⟩ ⟨rfl, rfl⟩ (pj_Y_up (by decide) (ct_94x G0 hI c)) ?_
  rintro _ _ ⟨y1, rfl, rfl, ry1, ey1, fy1⟩
  show pj_X _ _ G0 9 [(0, .ref 1), (1, .int b), (2, .int p), (3, .int n), (4, .int c)] [.int y1] _
  cases b2 : pj_c1 .eq y1 0 with
  | true =>
    have ub2 := pj_u0_eqT b2
    refine pj_X_of (fun r h => pj_R_ifT 35 rfl rfl b2 h) ?_
    refine pj_X_of (fun r h => pj_R_to (G0, 36, [(0, .ref 1), (1, .int b), (2, .int p), (3, .int n), (4, .int c)], [.int (Int32.ofInt (-1))], 0, 0) 36 2 (fun _ => rfl) h) ?_
    exact pj_X_rt rfl rfl ⟨_, rfl, hI, hK, pj_i32 _⟩
  | false =>
    have ub2 := pj_u0_eqF b2
    refine pj_X_of (fun r h => pj_R_ifF rfl b2 h) ?_
    refine pj_X_of (fun r h => pj_R_to (G0, 13, [(0, .ref 1), (1, .int b), (2, .int p), (3, .int n), (4, .int c)], [.ref 1], 0, 0) 13 2 (fun _ => rfl) h) ?_
    refine pj_X_of (fun r h => pj_T_gr hI rfl rfl rfl h) ?_
    refine pj_X_of (fun r h => pj_R_to (G0, 17, [(0, .ref 1), (1, .int b), (2, .int p), (3, .int n), (4, .int c)], [.int b, .ref 6], 0, 0) 17 2 (fun _ => rfl) h) ?_
    refine pj_X_ca (vs := [.ref 6, .int b]) rfl (fun _ => rfl) ⟨Nat.le_of_ble_eq_true rfl, Nat.le_of_ble_eq_true rfl, pj_T_rcv hI rfl⟩ ⟨rfl, rfl⟩ (pj_Y_up (by decide) (ct_95x G0 hI b)) ?_
    rintro _ _ ⟨y3, rfl, rfl, ry3, ey3, fy3⟩
    show pj_X _ _ G0 20 [(0, .ref 1), (1, .int b), (2, .int p), (3, .int n), (4, .int c)] [.int y3] _
    cases b4 : pj_c1 .eq y3 0 with
    | true =>
      have ub4 := pj_u0_eqT b4
      refine pj_X_of (fun r h => pj_R_ifT 35 rfl rfl b4 h) ?_
      refine pj_X_of (fun r h => pj_R_to (G0, 36, [(0, .ref 1), (1, .int b), (2, .int p), (3, .int n), (4, .int c)], [.int (Int32.ofInt (-1))], 0, 0) 36 2 (fun _ => rfl) h) ?_
      exact pj_X_rt rfl rfl ⟨_, rfl, hI, hK, pj_i32 _⟩
    | false =>
      have ub4 := pj_u0_eqF b4
      refine pj_X_of (fun r h => pj_R_ifF rfl b4 h) ?_
      refine pj_X_of (fun r h => pj_R_to (G0, 24, [(0, .ref 1), (1, .int b), (2, .int p), (3, .int n), (4, .int c)], [.ref 1], 0, 0) 24 2 (fun _ => rfl) h) ?_
      refine pj_X_of (fun r h => pj_T_gr hI rfl rfl rfl h) ?_
      refine pj_X_of (fun r h => pj_R_to (G0, 29, [(0, .ref 1), (1, .int b), (2, .int p), (3, .int n), (4, .int c)], [.int n, .int p, .ref 38], 0, 0) 29 3 (fun _ => rfl) h) ?_
      refine pj_X_ca (vs := [.ref 38, .int p, .int n]) rfl (fun _ => rfl) ⟨Nat.le_of_ble_eq_true rfl, Nat.le_of_ble_eq_true rfl, pj_T_rcv hI rfl⟩ ⟨rfl, rfl⟩ (pj_Y_up (by decide) (ct_6 G0 hI p n)) ?_
      rintro _ _ ⟨y5, rfl, rfl, ry5, ey5⟩
      show pj_X _ _ G0 32 [(0, .ref 1), (1, .int b), (2, .int p), (3, .int n), (4, .int c)] [.int y5] _
      cases b6 : pj_c1 .ne y5 0 with
      | true =>
        have ub6 := pj_u0_neT b6
        refine pj_X_of (fun r h => pj_R_ifT 37 rfl rfl b6 h) ?_
        refine pj_X_of (fun r h => pj_R_to (G0, 38, [(0, .ref 1), (1, .int b), (2, .int p), (3, .int n), (4, .int c)], [.ref 1], 0, 0) 38 2 (fun _ => rfl) h) ?_
        refine pj_X_of (fun r h => pj_T_gr hI rfl rfl rfl h) ?_
        refine pj_X_of (fun r h => pj_T_gr hI rfl rfl rfl h) ?_
        refine pj_X_of (fun r h => pj_R_to (G0, 45, [(0, .ref 1), (1, .int b), (2, .int p), (3, .int n), (4, .int c)], [.int b, .ref 21], 0, 0) 45 2 (fun _ => rfl) h) ?_
        refine pj_X_ca (vs := [.ref 21, .int b]) rfl (fun _ => rfl) ⟨Nat.le_of_ble_eq_true rfl, Nat.le_of_ble_eq_true rfl, pj_T_rcv hI rfl⟩ ⟨rfl, rfl⟩ (pj_Y_up (by decide) (ct_69_21x G0 hI b ⟨by omega, by omega⟩)) ?_
        rintro _ _ ⟨y7, rfl, rfl, ry7, ey7, fy7⟩
        replace ey7 := ey7 _ rfl
        show pj_X _ _ G0 48 [(0, .ref 1), (1, .int b), (2, .int p), (3, .int n), (4, .int c)] [.int y7] _
        cases b8 : pj_c1 .ne y7 0 with
        | true =>
          have ub8 := pj_u0_neT b8
          refine pj_X_of (fun r h => pj_R_ifT 54 rfl rfl b8 h) ?_
          refine pj_X_of (fun r h => pj_R_to (G0, 55, [(0, .ref 1), (1, .int b), (2, .int p), (3, .int n), (4, .int c)], [.ref 1], 0, 0) 55 2 (fun _ => rfl) h) ?_
          refine pj_X_of (fun r h => pj_T_gr hI rfl rfl rfl h) ?_
          refine pj_X_of (fun r h => pj_R_to (G0, 59, [(0, .ref 1), (1, .int b), (2, .int p), (3, .int n), (4, .int c)], [.ref 1, .ref 38], 0, 0) 59 2 (fun _ => rfl) h) ?_
          refine pj_X_of (fun r h => pj_T_gr hI rfl rfl rfl h) ?_
          refine pj_X_of (fun r h => pj_T_gr hI rfl rfl rfl h) ?_
          refine pj_X_of (fun r h => pj_T_gr hI rfl rfl rfl h) ?_
          refine pj_X_of (fun r h => pj_R_to (G0, 69, [(0, .ref 1), (1, .int b), (2, .int p), (3, .int n), (4, .int c)], [.int b, .ref 22, .ref 38], 0, 0) 69 2 (fun _ => rfl) h) ?_
          refine pj_X_of (fun r h => pj_T_il hI rfl rfl (by omega) (by omega) h) ?_
          show pj_X _ _ G0 70 [(0, .ref 1), (1, .int b), (2, .int p), (3, .int n), (4, .int c)] [.int (pj_ai G0 22 b.toInt.toNat), .ref 38] _
          obtain ⟨z9, hz9⟩ : ∃ z : Int32, z = pj_ai G0 22 b.toInt.toNat := ⟨_, rfl⟩
          rw [← hz9]
          have ez9 : (pj_ai G0 22 b.toInt.toNat).toInt = z9.toInt := by rw [hz9]
          have fz9_0 : (-1 : Int) ≤ z9.toInt ∧ z9.toInt ≤ 9 ∧ (z9.toInt ≤ -1 ∨ -1 ≤ z9.toInt) := by rw [hz9]; exact hI.2.2.1 22 (6, -1, 9, -1, -1) rfl _ (by show _ < 6; omega)
          refine pj_X_of (fun r h => pj_R_to (G0, 72, [(0, .ref 1), (1, .int b), (2, .int p), (3, .int n), (4, .int c)], [.int n, .int p, .int z9, .ref 38], 0, 0) 72 3 (fun _ => rfl) h) ?_
          refine pj_X_ca (vs := [.ref 38, .int z9, .int p, .int n]) rfl (fun _ => rfl) ⟨Nat.le_of_ble_eq_true rfl, Nat.le_of_ble_eq_true rfl, pj_T_rcv hI rfl⟩ ⟨rfl, rfl⟩ (pj_Y_up (by decide) (ct_7 G0 hI z9 p n ⟨by omega, by omega⟩ ⟨by omega, by omega⟩)) ?_
          rintro _ G11 ⟨rfl, iG11, jG11⟩
          have kG11 : pj_kpt kc_146 G0 G11 := pj_kpt_t hK (pj_kpt_s jG11 rfl)
          show pj_X _ _ G11 75 [(0, .ref 1), (1, .int b), (2, .int p), (3, .int n), (4, .int c)] [] _
          refine pj_X_of (fun r h => pj_R_to (G11, 76, [(0, .ref 1), (1, .int b), (2, .int p), (3, .int n), (4, .int c)], [.ref 1], 0, 0) 76 2 (fun _ => rfl) h) ?_
          refine pj_X_of (fun r h => pj_T_gr iG11 rfl rfl rfl h) ?_
          refine pj_X_of (fun r h => pj_R_to (G11, 80, [(0, .ref 1), (1, .int b), (2, .int p), (3, .int n), (4, .int c)], [.ref 1, .ref 38], 0, 0) 80 2 (fun _ => rfl) h) ?_
          refine pj_X_of (fun r h => pj_T_gr iG11 rfl rfl rfl h) ?_
          refine pj_X_of (fun r h => pj_R_to (G11, 85, [(0, .ref 1), (1, .int b), (2, .int p), (3, .int n), (4, .int c)], [.int c, .ref 4, .ref 38], 0, 0) 85 2 (fun _ => rfl) h) ?_
          refine pj_X_ca (vs := [.ref 38, .ref 4, .int c]) rfl (fun _ => rfl) ⟨Nat.le_of_ble_eq_true rfl, Nat.le_of_ble_eq_true rfl, pj_T_rcv iG11 rfl⟩ ⟨rfl, rfl⟩ (pj_Y_up (by decide) (ct_10 G11 iG11 c ⟨by omega, by omega⟩)) ?_
          rintro _ G13 ⟨rfl, iG13, jG13⟩
          have kG13 : pj_kpt kc_146 G0 G13 := pj_kpt_t kG11 (pj_kpt_s jG13 rfl)
          show pj_X _ _ G13 88 [(0, .ref 1), (1, .int b), (2, .int p), (3, .int n), (4, .int c)] [] _
          refine pj_X_of (fun r h => pj_R_to (G13, 89, [(0, .ref 1), (1, .int b), (2, .int p), (3, .int n), (4, .int c)], [.int (Int32.ofInt 0)], 0, 0) 89 2 (fun _ => rfl) h) ?_
          exact pj_X_rt rfl rfl ⟨_, rfl, iG13, kG13, pj_i32 _⟩
        | false =>
          have ub8 := pj_u0_neF b8
          refine pj_X_of (fun r h => pj_R_ifF rfl b8 h) ?_
          refine pj_X_of (fun r h => pj_R_to (G0, 53, [(0, .ref 1), (1, .int b), (2, .int p), (3, .int n), (4, .int c)], [.int ((Int8.ofInt (-2)).toInt32)], 0, 0) 53 2 (fun _ => rfl) h) ?_
          exact pj_X_rt rfl rfl ⟨_, rfl, hI, hK, pj_i32 _⟩
      | false =>
        have ub6 := pj_u0_neF b6
        refine pj_X_of (fun r h => pj_R_ifF rfl b6 h) ?_
        refine pj_X_of (fun r h => pj_R_to (G0, 36, [(0, .ref 1), (1, .int b), (2, .int p), (3, .int n), (4, .int c)], [.int (Int32.ofInt (-1))], 0, 0) 36 2 (fun _ => rfl) h) ?_
        exact pj_X_rt rfl rfl ⟨_, rfl, hI, hK, pj_i32 _⟩
def kc_147 : pj_KT := ([(4, 1), (38, 3)], [4, 5, 38, 45], [])
theorem ct_147 (G0 : pj_G) (hI : pj_Inv G0) (b : Int32) (p : Int32) (n : Int32) : pj_Y 4 147 [.ref 1, .int b, .int p, .int n] G0 (fun v G' => ∃ y : Int32, v = some (.int y) ∧ pj_Inv G' ∧ pj_kpt kc_147 G0 G' ∧ ((-2147483648 : Int) ≤ y.toInt ∧ y.toInt ≤ 2147483647)) := by
  have c0_ : ((Int8.ofInt (-2)).toInt32).toInt = -2 := by decide
  have c1_ : (Int32.ofInt (-1)).toInt = -1 := by decide
  refine pj_Y_X (M := pj_m147) rfl rfl (Nat.le_of_ble_eq_true rfl) ?_
  have hK : pj_kpt kc_147 G0 G0 := pj_kpt_r _ _
  show pj_X _ _ G0 0 [(0, .ref 1), (1, .int b), (2, .int p), (3, .int n)] [] _
  refine pj_X_of (fun r h => pj_R_to (G0, 1, [(0, .ref 1), (1, .int b), (2, .int p), (3, .int n)], [.ref 1], 0, 0) 1 2 (fun _ => rfl) h) ?_
  refine pj_X_of (fun r h => pj_T_gr hI rfl rfl rfl h) ?_
  refine pj_X_of (fun r h => pj_R_to (G0, 5, [(0, .ref 1), (1, .int b), (2, .int p), (3, .int n)], [.int b, .ref 6], 0, 0) 5 2 (fun _ => rfl) h) ?_
  refine pj_X_ca (vs := [.ref 6, .int b]) rfl (fun _ => rfl) ⟨Nat.le_of_ble_eq_true rfl, Nat.le_of_ble_eq_true rfl, pj_T_rcv hI rfl⟩ ⟨rfl, rfl⟩ (pj_Y_up (by decide) (ct_95x G0 hI b)) ?_
  rintro _ _ ⟨y1, rfl, rfl, ry1, ey1, fy1⟩
  show pj_X _ _ G0 8 [(0, .ref 1), (1, .int b), (2, .int p), (3, .int n)] [.int y1] _
  cases b2 : pj_c1 .eq y1 0 with
  | true =>
    have ub2 := pj_u0_eqT b2
    refine pj_X_of (fun r h => pj_R_ifT 23 rfl rfl b2 h) ?_
    refine pj_X_of (fun r h => pj_R_to (G0, 24, [(0, .ref 1), (1, .int b), (2, .int p), (3, .int n)], [.int (Int32.ofInt (-1))], 0, 0) 24 2 (fun _ => rfl) h) ?_
    exact pj_X_rt rfl rfl ⟨_, rfl, hI, hK, pj_i32 _⟩
  | false =>
    have ub2 := pj_u0_eqF b2
    refine pj_X_of (fun r h => pj_R_ifF rfl b2 h) ?_
    refine pj_X_of (fun r h => pj_R_to (G0, 12, [(0, .ref 1), (1, .int b), (2, .int p), (3, .int n)], [.ref 1], 0, 0) 12 2 (fun _ => rfl) h) ?_
    refine pj_X_of (fun r h => pj_T_gr hI rfl rfl rfl h) ?_
    refine pj_X_of (fun r h => pj_R_to (G0, 17, [(0, .ref 1), (1, .int b), (2, .int p), (3, .int n)], [.int n, .int p, .ref 38], 0, 0) 17 3 (fun _ => rfl) h) ?_
    refine pj_X_ca (vs := [.ref 38, .int p, .int n]) rfl (fun _ => rfl) ⟨Nat.le_of_ble_eq_true rfl, Nat.le_of_ble_eq_true rfl, pj_T_rcv hI rfl⟩ ⟨rfl, rfl⟩ (pj_Y_up (by decide) (ct_6 G0 hI p n)) ?_
    rintro _ _ ⟨y3, rfl, rfl, ry3, ey3⟩
    show pj_X _ _ G0 20 [(0, .ref 1), (1, .int b), (2, .int p), (3, .int n)] [.int y3] _
    cases b4 : pj_c1 .ne y3 0 with
    | true =>
      have ub4 := pj_u0_neT b4
      refine pj_X_of (fun r h => pj_R_ifT 25 rfl rfl b4 h) ?_
      refine pj_X_of (fun r h => pj_R_to (G0, 26, [(0, .ref 1), (1, .int b), (2, .int p), (3, .int n)], [.ref 1], 0, 0) 26 2 (fun _ => rfl) h) ?_
      refine pj_X_of (fun r h => pj_T_gr hI rfl rfl rfl h) ?_
      refine pj_X_of (fun r h => pj_T_gr hI rfl rfl rfl h) ?_
      refine pj_X_of (fun r h => pj_R_to (G0, 33, [(0, .ref 1), (1, .int b), (2, .int p), (3, .int n)], [.int b, .ref 21], 0, 0) 33 2 (fun _ => rfl) h) ?_
      refine pj_X_ca (vs := [.ref 21, .int b]) rfl (fun _ => rfl) ⟨Nat.le_of_ble_eq_true rfl, Nat.le_of_ble_eq_true rfl, pj_T_rcv hI rfl⟩ ⟨rfl, rfl⟩ (pj_Y_up (by decide) (ct_69_21x G0 hI b ⟨by omega, by omega⟩)) ?_
      rintro _ _ ⟨y5, rfl, rfl, ry5, ey5, fy5⟩
      replace ey5 := ey5 _ rfl
      show pj_X _ _ G0 36 [(0, .ref 1), (1, .int b), (2, .int p), (3, .int n)] [.int y5] _
      cases b6 : pj_c1 .ne y5 0 with
      | true =>
        have ub6 := pj_u0_neT b6
        refine pj_X_of (fun r h => pj_R_ifT 42 rfl rfl b6 h) ?_
        refine pj_X_of (fun r h => pj_R_to (G0, 43, [(0, .ref 1), (1, .int b), (2, .int p), (3, .int n)], [.ref 1], 0, 0) 43 2 (fun _ => rfl) h) ?_
        refine pj_X_of (fun r h => pj_T_gr hI rfl rfl rfl h) ?_
        refine pj_X_of (fun r h => pj_R_to (G0, 47, [(0, .ref 1), (1, .int b), (2, .int p), (3, .int n)], [.ref 1, .ref 38], 0, 0) 47 2 (fun _ => rfl) h) ?_
        refine pj_X_of (fun r h => pj_T_gr hI rfl rfl rfl h) ?_
        refine pj_X_of (fun r h => pj_T_gr hI rfl rfl rfl h) ?_
        refine pj_X_of (fun r h => pj_T_gr hI rfl rfl rfl h) ?_
        refine pj_X_of (fun r h => pj_R_to (G0, 57, [(0, .ref 1), (1, .int b), (2, .int p), (3, .int n)], [.int b, .ref 22, .ref 38], 0, 0) 57 2 (fun _ => rfl) h) ?_
        refine pj_X_of (fun r h => pj_T_il hI rfl rfl (by omega) (by omega) h) ?_
        show pj_X _ _ G0 58 [(0, .ref 1), (1, .int b), (2, .int p), (3, .int n)] [.int (pj_ai G0 22 b.toInt.toNat), .ref 38] _
        obtain ⟨z7, hz7⟩ : ∃ z : Int32, z = pj_ai G0 22 b.toInt.toNat := ⟨_, rfl⟩
        rw [← hz7]
        have ez7 : (pj_ai G0 22 b.toInt.toNat).toInt = z7.toInt := by rw [hz7]
        have fz7_0 : (-1 : Int) ≤ z7.toInt ∧ z7.toInt ≤ 9 ∧ (z7.toInt ≤ -1 ∨ -1 ≤ z7.toInt) := by rw [hz7]; exact hI.2.2.1 22 (6, -1, 9, -1, -1) rfl _ (by show _ < 6; omega)
        refine pj_X_of (fun r h => pj_R_to (G0, 60, [(0, .ref 1), (1, .int b), (2, .int p), (3, .int n)], [.int n, .int p, .int z7, .ref 38], 0, 0) 60 3 (fun _ => rfl) h) ?_
        refine pj_X_ca (vs := [.ref 38, .int z7, .int p, .int n]) rfl (fun _ => rfl) ⟨Nat.le_of_ble_eq_true rfl, Nat.le_of_ble_eq_true rfl, pj_T_rcv hI rfl⟩ ⟨rfl, rfl⟩ (pj_Y_up (by decide) (ct_7 G0 hI z7 p n ⟨by omega, by omega⟩ ⟨by omega, by omega⟩)) ?_
        rintro _ G9 ⟨rfl, iG9, jG9⟩
        have kG9 : pj_kpt kc_147 G0 G9 := pj_kpt_t hK (pj_kpt_s jG9 rfl)
        show pj_X _ _ G9 63 [(0, .ref 1), (1, .int b), (2, .int p), (3, .int n)] [] _
        refine pj_X_of (fun r h => pj_R_to (G9, 64, [(0, .ref 1), (1, .int b), (2, .int p), (3, .int n)], [.ref 1], 0, 0) 64 2 (fun _ => rfl) h) ?_
        refine pj_X_of (fun r h => pj_T_gr iG9 rfl rfl rfl h) ?_
        refine pj_X_ca (vs := [.ref 38]) rfl (fun _ => rfl) ⟨Nat.le_of_ble_eq_true rfl, Nat.le_of_ble_eq_true rfl, pj_T_rcv iG9 rfl⟩ ⟨rfl, rfl⟩ (pj_Y_up (by decide) (ct_9 G9 iG9)) ?_
        rintro _ _ ⟨y10, rfl, rfl, ry10⟩
        show pj_X _ _ G9 70 [(0, .ref 1), (1, .int b), (2, .int p), (3, .int n)] [.int y10] _
        refine pj_X_of (fun r h => pj_R_to (G9, 73, [(4, .int y10), (0, .ref 1), (1, .int b), (2, .int p), (3, .int n)], [.ref 1], 0, 0) 73 3 (fun _ => rfl) h) ?_
        refine pj_X_of (fun r h => pj_T_gr iG9 rfl rfl rfl h) ?_
        refine pj_X_of (fun r h => pj_R_to (G9, 77, [(4, .int y10), (0, .ref 1), (1, .int b), (2, .int p), (3, .int n)], [.ref 1, .ref 38], 0, 0) 77 2 (fun _ => rfl) h) ?_
        refine pj_X_of (fun r h => pj_T_gr iG9 rfl rfl rfl h) ?_
        refine pj_X_of (fun r h => pj_R_to (G9, 82, [(4, .int y10), (0, .ref 1), (1, .int b), (2, .int p), (3, .int n)], [.int y10, .ref 4, .ref 38], 0, 0) 82 2 (fun _ => rfl) h) ?_
        refine pj_X_ca (vs := [.ref 38, .ref 4, .int y10]) rfl (fun _ => rfl) ⟨Nat.le_of_ble_eq_true rfl, Nat.le_of_ble_eq_true rfl, pj_T_rcv iG9 rfl⟩ ⟨rfl, rfl⟩ (pj_Y_up (by decide) (ct_10 G9 iG9 y10 ⟨by omega, by omega⟩)) ?_
        rintro _ G12 ⟨rfl, iG12, jG12⟩
        have kG12 : pj_kpt kc_147 G0 G12 := pj_kpt_t kG9 (pj_kpt_s jG12 rfl)
        show pj_X _ _ G12 85 [(4, .int y10), (0, .ref 1), (1, .int b), (2, .int p), (3, .int n)] [] _
        refine pj_X_of (fun r h => pj_R_to (G12, 87, [(4, .int y10), (0, .ref 1), (1, .int b), (2, .int p), (3, .int n)], [.int y10], 0, 0) 87 2 (fun _ => rfl) h) ?_
        exact pj_X_rt rfl rfl ⟨_, rfl, iG12, kG12, pj_i32 _⟩
      | false =>
        have ub6 := pj_u0_neF b6
        refine pj_X_of (fun r h => pj_R_ifF rfl b6 h) ?_
        refine pj_X_of (fun r h => pj_R_to (G0, 41, [(0, .ref 1), (1, .int b), (2, .int p), (3, .int n)], [.int ((Int8.ofInt (-2)).toInt32)], 0, 0) 41 2 (fun _ => rfl) h) ?_
        exact pj_X_rt rfl rfl ⟨_, rfl, hI, hK, pj_i32 _⟩
    | false =>
      have ub4 := pj_u0_neF b4
      refine pj_X_of (fun r h => pj_R_ifF rfl b4 h) ?_
      refine pj_X_of (fun r h => pj_R_to (G0, 24, [(0, .ref 1), (1, .int b), (2, .int p), (3, .int n)], [.int (Int32.ofInt (-1))], 0, 0) 24 2 (fun _ => rfl) h) ?_
      exact pj_X_rt rfl rfl ⟨_, rfl, hI, hK, pj_i32 _⟩
def kc_148 : pj_KT := ([(46, 3)], [46, 47, 48], [47, 48])
theorem ct_148 (G0 : pj_G) (hI : pj_Inv G0) (w : Int32) (v : Int32) (is : Int32) : pj_Y 3 148 [.ref 1, .int w, .int v, .int is] G0 (fun v G' => ∃ y : Int32, v = some (.int y) ∧ pj_Inv G' ∧ pj_kpt kc_148 G0 G' ∧ ((-2147483648 : Int) ≤ y.toInt ∧ y.toInt ≤ 2147483647)) := by
  refine pj_Y_X (M := pj_m148) rfl rfl (Nat.le_of_ble_eq_true rfl) ?_
  have hK : pj_kpt kc_148 G0 G0 := pj_kpt_r _ _
  show pj_X _ _ G0 0 [(0, .ref 1), (1, .int w), (2, .int v), (3, .int is)] [] _
  refine pj_X_of (fun r h => pj_R_to (G0, 1, [(0, .ref 1), (1, .int w), (2, .int v), (3, .int is)], [.ref 1], 0, 0) 1 2 (fun _ => rfl) h) ?_
  refine pj_X_of (fun r h => pj_T_gr hI rfl rfl rfl h) ?_
  refine pj_X_of (fun r h => pj_R_to (G0, 7, [(0, .ref 1), (1, .int w), (2, .int v), (3, .int is)], [.int is, .int v, .int w, .ref 46], 0, 0) 7 4 (fun _ => rfl) h) ?_
  refine pj_X_ca (vs := [.ref 46, .int w, .int v, .int is]) rfl (fun _ => rfl) ⟨Nat.le_of_ble_eq_true rfl, Nat.le_of_ble_eq_true rfl, pj_T_rcv hI rfl⟩ ⟨rfl, rfl⟩ (pj_Y_up (by decide) (ct_17 G0 hI w v is)) ?_
  rintro _ G2 ⟨y1, rfl, iG2, jG2, ry1⟩
  have kG2 : pj_kpt kc_148 G0 G2 := pj_kpt_t hK (pj_kpt_s jG2 rfl)
  show pj_X _ _ G2 10 [(0, .ref 1), (1, .int w), (2, .int v), (3, .int is)] [.int y1] _
  exact pj_X_rt rfl rfl ⟨_, rfl, iG2, kG2, pj_i32 _⟩
def kc_149 : pj_KT := ([(46, 3)], [46], [])
theorem ct_149 (G0 : pj_G) (hI : pj_Inv G0) : pj_Y 2 149 [.ref 1] G0 (fun v G' => ∃ y : Int32, v = some (.int y) ∧ pj_Inv G' ∧ pj_kpt kc_149 G0 G' ∧ ((-2147483648 : Int) ≤ y.toInt ∧ y.toInt ≤ 2147483647)) := by
  have c0_ : (Int32.ofInt 0).toInt = 0 := by decide
  refine pj_Y_X (M := pj_m149) rfl rfl (Nat.le_of_ble_eq_true rfl) ?_
  have hK : pj_kpt kc_149 G0 G0 := pj_kpt_r _ _
  show pj_X _ _ G0 0 [(0, .ref 1)] [] _
  refine pj_X_of (fun r h => pj_R_to (G0, 1, [(0, .ref 1)], [.ref 1], 0, 0) 1 2 (fun _ => rfl) h) ?_
  refine pj_X_of (fun r h => pj_T_gr hI rfl rfl rfl h) ?_
  refine pj_X_of (fun r h => pj_T_gi hI rfl rfl h) ?_
  show pj_X _ _ G0 7 [(0, .ref 1)] [.int (pj_fi G0 46 3)] _
  obtain ⟨y1, hy1⟩ : ∃ z : Int32, z = pj_fi G0 46 3 := ⟨_, rfl⟩
  rw [← hy1]
  have ey1 : (pj_fi G0 46 3).toInt = y1.toInt := by rw [hy1]
  have ry1 : (0 : Int) ≤ y1.toInt ∧ y1.toInt ≤ 12 := by rw [hy1]; exact hI.2.1 46 3 (0, 12) rfl
  refine pj_X_of (fun r h => pj_R_to (G0, 9, [(1, .int y1), (0, .ref 1)], [.ref 1], 0, 0) 9 3 (fun _ => rfl) h) ?_
  refine pj_X_of (fun r h => pj_T_gr hI rfl rfl rfl h) ?_
  refine pj_X_of (fun r h => pj_R_to (G0, 13, [(1, .int y1), (0, .ref 1)], [.int (Int32.ofInt 0), .ref 46], 0, 0) 13 2 (fun _ => rfl) h) ?_
  refine pj_X_of (fun r h => pj_T_pf hI rfl rfl rfl h) ?_
  show pj_X _ _ (pj_wv G0 46 3 (.int (Int32.ofInt 0))) 16 [(1, .int y1), (0, .ref 1)] [] _
  obtain ⟨G2, hG2⟩ : ∃ H, H = pj_wv G0 46 3 (.int (Int32.ofInt 0)) := ⟨_, rfl⟩
  have iG2 : pj_Inv G2 := by rw [hG2]; exact pj_Inv_wi hI (ci := 2) rfl (fun q hq => by cases hq; exact ⟨by show (0 : Int) ≤ _; omega, by show _ ≤ (12 : Int); omega⟩)
  have kG2 : pj_kpt kc_149 G0 G2 := by rw [hG2]; exact pj_kpt_v hK rfl
  rw [← hG2]
  refine pj_X_of (fun r h => pj_R_to (G2, 17, [(1, .int y1), (0, .ref 1)], [.int y1], 0, 0) 17 2 (fun _ => rfl) h) ?_
  exact pj_X_rt rfl rfl ⟨_, rfl, iG2, kG2, pj_i32 _⟩
def kc_150 : pj_KT := ([(4, 1)], [4, 5], [])
theorem ct_150 (G0 : pj_G) (hI : pj_Inv G0) : pj_Y 5 150 [.ref 1] G0 (fun v G' => ∃ y : Int32, v = some (.int y) ∧ pj_Inv G' ∧ pj_kpt kc_150 G0 G' ∧ ((-2147483648 : Int) ≤ y.toInt ∧ y.toInt ≤ 2147483647)) := by
  refine pj_Y_X (M := pj_m150) rfl rfl (Nat.le_of_ble_eq_true rfl) ?_
  have hK : pj_kpt kc_150 G0 G0 := pj_kpt_r _ _
  show pj_X _ _ G0 0 [(0, .ref 1)] [] _
  refine pj_X_of (fun r h => pj_R_to (G0, 1, [(0, .ref 1)], [.ref 1], 0, 0) 1 2 (fun _ => rfl) h) ?_
  refine pj_X_of (fun r h => pj_T_gr hI rfl rfl rfl h) ?_
  refine pj_X_ca (vs := [.ref 46]) rfl (fun _ => rfl) ⟨Nat.le_of_ble_eq_true rfl, Nat.le_of_ble_eq_true rfl, pj_T_rcv hI rfl⟩ ⟨rfl, rfl⟩ (pj_Y_up (by decide) (ct_20 G0 hI)) ?_
  rintro _ _ ⟨y1, rfl, rfl, ry1⟩
  show pj_X _ _ G0 7 [(0, .ref 1)] [.int y1] _
  refine pj_X_of (fun r h => pj_R_to (G0, 9, [(1, .int y1), (0, .ref 1)], [.ref 1], 0, 0) 9 3 (fun _ => rfl) h) ?_
  refine pj_X_of (fun r h => pj_T_gr hI rfl rfl rfl h) ?_
  refine pj_X_of (fun r h => pj_R_to (G0, 13, [(1, .int y1), (0, .ref 1)], [.int y1, .ref 4], 0, 0) 13 2 (fun _ => rfl) h) ?_
  refine pj_X_ca (vs := [.int y1]) rfl (fun _ => rfl) ⟨Nat.le_of_ble_eq_true rfl, Nat.le_of_ble_eq_true rfl, rfl⟩ ⟨rfl, rfl⟩ (pj_Y_up (by decide) (ct_287 G0 hI y1)) ?_
  rintro _ _ ⟨y2, rfl, rfl, ry2⟩
  show pj_X _ _ G0 16 [(1, .int y1), (0, .ref 1)] [.int y2, .ref 4] _
  refine pj_X_of (fun r h => pj_R_to (G0, 17, [(1, .int y1), (0, .ref 1)], [.long y2.toInt64, .ref 4], 0, 0) 17 2 (fun _ => rfl) h) ?_
  have lc3 : (y2.toInt64).toInt = y2.toInt := Int32.toInt_toInt64 _
  refine pj_X_ca (vs := [.ref 4, .long y2.toInt64]) rfl (fun _ => rfl) ⟨Nat.le_of_ble_eq_true rfl, Nat.le_of_ble_eq_true rfl, pj_T_rcv hI rfl⟩ ⟨rfl, rfl⟩ (pj_Y_up (by decide) (ct_55x G0 hI y2.toInt64)) ?_
  rintro _ G5 ⟨rfl, iG5, jG5, fy4⟩
  have kG5 : pj_kpt kc_150 G0 G5 := pj_kpt_t hK (pj_kpt_s jG5 rfl)
  show pj_X _ _ G5 20 [(1, .int y1), (0, .ref 1)] [] _
  refine pj_X_of (fun r h => pj_R_to (G5, 21, [(1, .int y1), (0, .ref 1)], [.int y1], 0, 0) 21 2 (fun _ => rfl) h) ?_
  exact pj_X_rt rfl rfl ⟨_, rfl, iG5, kG5, pj_i32 _⟩
def kc_151 : pj_KT := ([(4, 1)], [4, 5], [])
theorem lp_ct_151 (G0 : pj_G) (hI0 : pj_Inv G0) : ∀ mn : Nat, (∀ (G : pj_G) (hI : pj_Inv G) (hK : pj_kpt kc_151 G0 G) (v1 : Int32) (v2 : Int32) (v3 : Int32) (v4 : Int32), ((-2147483648 : Int) ≤ v1.toInt ∧ v1.toInt ≤ 2147483647) → ((-2147483648 : Int) ≤ v2.toInt ∧ v2.toInt ≤ 2147483647) → ((-2147483648 : Int) ≤ v3.toInt ∧ v3.toInt ≤ 2147483647) → ((0 : Int) ≤ v4.toInt ∧ v4.toInt ≤ 76) → 76 - v4.toInt < (mn : Int) → pj_X 4 pj_m151 G 22 [(0, .ref 1), (1, .int v1), (2, .int v2), (3, .int v3), (4, .int v4)] [] (fun v G' => ∃ y : Int32, v = some (.int y) ∧ pj_Inv G' ∧ pj_kpt kc_151 G0 G' ∧ ((-2147483648 : Int) ≤ y.toInt ∧ y.toInt ≤ 2147483647))) := by
  have c0_ : ((Int8.ofInt (-2)).toInt32).toInt = -2 := by decide
  have c1_ : ((Int8.ofInt 19).toInt32).toInt = 19 := by decide
  have c2_ : ((Int8.ofInt 76).toInt32).toInt = 76 := by decide
  have c3_ : (Int32.ofInt (-1)).toInt = -1 := by decide
  have c4_ : (Int32.ofInt 0).toInt = 0 := by decide
  have c5_ : (Int32.ofInt 1).toInt = 1 := by decide
  intro mn
  induction mn with
  | zero =>
    intro G hI hK v1 v2 v3 v4 rv1 rv2 rv3 rv4 hm
    exfalso
    omega
  | succ mn ih =>
    intro G hI hK v1 v2 v3 v4 rv1 rv2 rv3 rv4 hm
    refine pj_X_of (fun r h => pj_R_to (G, 26, [(0, .ref 1), (1, .int v1), (2, .int v2), (3, .int v3), (4, .int v4)], [.int ((Int8.ofInt 76).toInt32), .int v4], 0, 0) 26 3 (fun _ => rfl) h) ?_
    cases b1 : pj_c1 .ge v4 ((Int8.ofInt 76).toInt32) with
    | true =>
      have ub1 := pj_u_geT b1
      refine pj_X_of (fun r h => pj_R_icT 80 rfl rfl b1 h) ?_
      refine pj_X_of (fun r h => pj_R_to (G, 81, [(0, .ref 1), (1, .int v1), (2, .int v2), (3, .int v3), (4, .int v4)], [.ref 1], 0, 0) 81 2 (fun _ => rfl) h) ?_
      refine pj_X_of (fun r h => pj_T_gr hI rfl rfl rfl h) ?_
      refine pj_X_of (fun r h => pj_R_to (G, 86, [(0, .ref 1), (1, .int v1), (2, .int v2), (3, .int v3), (4, .int v4)], [.long v3.toInt64, .ref 4], 0, 0) 86 3 (fun _ => rfl) h) ?_
      have lc2 : (v3.toInt64).toInt = v3.toInt := Int32.toInt_toInt64 _
      refine pj_X_ca (vs := [.ref 4, .long v3.toInt64]) rfl (fun _ => rfl) ⟨Nat.le_of_ble_eq_true rfl, Nat.le_of_ble_eq_true rfl, pj_T_rcv hI rfl⟩ ⟨rfl, rfl⟩ (pj_Y_up (by decide) (ct_55x G hI v3.toInt64)) ?_
      rintro _ G4 ⟨rfl, iG4, jG4, fy3⟩
      have kG4 : pj_kpt kc_151 G0 G4 := pj_kpt_t hK (pj_kpt_s jG4 rfl)
      show pj_X _ _ G4 89 [(0, .ref 1), (1, .int v1), (2, .int v2), (3, .int v3), (4, .int v4)] [] _
      refine pj_X_of (fun r h => pj_R_to (G4, 90, [(0, .ref 1), (1, .int v1), (2, .int v2), (3, .int v3), (4, .int v4)], [.int v2], 0, 0) 90 2 (fun _ => rfl) h) ?_
      exact pj_X_rt rfl rfl ⟨_, rfl, iG4, kG4, pj_i32 _⟩
    | false =>
      have ub1 := pj_u_geF b1
      refine pj_X_of (fun r h => pj_R_icF rfl b1 h) ?_
      refine pj_X_of (fun r h => pj_R_to (G, 33, [(0, .ref 1), (1, .int v1), (2, .int v2), (3, .int v3), (4, .int v4)], [.int ((Int8.ofInt 19).toInt32), .int v4], 0, 0) 33 3 (fun _ => rfl) h) ?_
      refine pj_X_of (fun r h => pj_R_dv rfl (pj_nz (by omega)) h) ?_
      show pj_X _ _ G 34 [(0, .ref 1), (1, .int v1), (2, .int v2), (3, .int v3), (4, .int v4)] [.int (v4 / ((Int8.ofInt 19).toInt32))] _
      obtain ⟨z5, hz5⟩ : ∃ z : Int32, z = v4 / ((Int8.ofInt 19).toInt32) := ⟨_, rfl⟩
      rw [← hz5]
      have fz5_0 : 0 ≤ z5.toInt ∧ z5.toInt ≤ v4.toInt := by rw [hz5]; exact pj_divI (by omega) (by omega)
      refine pj_X_of (fun r h => pj_R_to (G, 38, [(0, .ref 1), (1, .int v1), (2, .int v2), (3, .int v3), (4, .int v4)], [.int ((Int8.ofInt 19).toInt32), .int v4, .int z5], 0, 0) 38 3 (fun _ => rfl) h) ?_
      refine pj_X_of (fun r h => pj_R_rm rfl (pj_nz (by omega)) h) ?_
      show pj_X _ _ G 39 [(0, .ref 1), (1, .int v1), (2, .int v2), (3, .int v3), (4, .int v4)] [.int (v4 - v4 / ((Int8.ofInt 19).toInt32) * ((Int8.ofInt 19).toInt32)), .int z5] _
      obtain ⟨z6, hz6⟩ : ∃ z : Int32, z = v4 - v4 / ((Int8.ofInt 19).toInt32) * ((Int8.ofInt 19).toInt32) := ⟨_, rfl⟩
      rw [← hz6]
      have fz6_0 : 0 ≤ z6.toInt ∧ z6.toInt < ((Int8.ofInt 19).toInt32).toInt := by rw [hz6]; exact pj_remI (by omega) (by omega)
      refine pj_X_ca (vs := [.int z5, .int z6]) rfl (fun _ => rfl) ⟨Nat.le_of_ble_eq_true rfl, Nat.le_of_ble_eq_true rfl, rfl⟩ ⟨rfl, rfl⟩ (pj_Y_up (by decide) (ct_16 G hI z5 z6)) ?_
      rintro _ _ ⟨y7, rfl, rfl, ry7⟩
      show pj_X _ _ G 42 [(0, .ref 1), (1, .int v1), (2, .int v2), (3, .int v3), (4, .int v4)] [.int y7] _
      cases b8 : pj_c1 .eq y7 0 with
      | true =>
        have ub8 := pj_u0_eqT b8
        refine pj_X_of (fun r h => pj_R_ifT 74 rfl rfl b8 h) ?_
        refine pj_X_of (fun r h => pj_R_to (G, 77, [(4, .int (v4 + Int32.ofInt 1)), (0, .ref 1), (1, .int v1), (2, .int v2), (3, .int v3)], [], 0, 0) 77 2 (fun _ => rfl) h) ?_
        obtain ⟨z9, hz9⟩ : ∃ z : Int32, z = v4 + Int32.ofInt 1 := ⟨_, rfl⟩
        rw [← hz9]
        have fz9_0 : z9.toInt = v4.toInt + (Int32.ofInt 1).toInt := by rw [hz9]; exact pj_addI (by have := pj_i32 v4; have := pj_i32 (Int32.ofInt 1); omega) (by have := pj_i32 v4; have := pj_i32 (Int32.ofInt 1); omega)
        refine pj_X_of (fun r h => pj_R_to (G, 22, [(4, .int z9), (0, .ref 1), (1, .int v1), (2, .int v2), (3, .int v3)], [], 0, 0) 22 2 (fun _ => rfl) h) ?_
        exact pj_X_sub [(0, .ref 1), (1, .int v1), (2, .int v2), (3, .int v3), (4, .int z9)] (show List.Nodup [0, 1, 2, 3, 4] by decide) ⟨rfl, rfl, rfl, rfl, rfl, trivial⟩ (ih G hI hK v1 v2 v3 z9 (pj_i32 _) (pj_i32 _) (pj_i32 _) ⟨by omega, by omega⟩ (by omega))
      | false =>
        have ub8 := pj_u0_eqF b8
        refine pj_X_of (fun r h => pj_R_ifF rfl b8 h) ?_
        refine pj_X_of (fun r h => pj_R_to (G, 46, [(0, .ref 1), (1, .int v1), (2, .int v2), (3, .int v3), (4, .int v4)], [.ref 1], 0, 0) 46 2 (fun _ => rfl) h) ?_
        refine pj_X_of (fun r h => pj_T_gr hI rfl rfl rfl h) ?_
        refine pj_X_of (fun r h => pj_R_to (G, 52, [(0, .ref 1), (1, .int v1), (2, .int v2), (3, .int v3), (4, .int v4)], [.int v1, .int v4, .ref 46], 0, 0) 52 3 (fun _ => rfl) h) ?_
        refine pj_X_ca (vs := [.ref 46, .int v4, .int v1]) rfl (fun _ => rfl) ⟨Nat.le_of_ble_eq_true rfl, Nat.le_of_ble_eq_true rfl, pj_T_rcv hI rfl⟩ ⟨rfl, rfl⟩ (pj_Y_up (by decide) (ct_21 G hI v4 v1)) ?_
        rintro _ _ ⟨y10, rfl, rfl, ry10⟩
        show pj_X _ _ G 55 [(0, .ref 1), (1, .int v1), (2, .int v2), (3, .int v3), (4, .int v4)] [.int y10] _
        refine pj_X_of (fun r h => pj_R_to (G, 59, [(5, .int y10), (0, .ref 1), (1, .int v1), (2, .int v2), (3, .int v3), (4, .int v4)], [.int (Int32.ofInt (-1)), .int v2], 0, 0) 59 4 (fun _ => rfl) h) ?_
        cases b11 : pj_c1 .eq v2 (Int32.ofInt (-1)) with
        | true =>
          have ub11 := pj_u_eqT b11
          refine pj_X_of (fun r h => pj_R_icT 68 rfl rfl b11 h) ?_
          refine pj_X_of (fun r h => pj_R_to (G, 77, [(4, .int (v4 + Int32.ofInt 1)), (3, .int y10), (2, .int v4), (5, .int y10), (0, .ref 1), (1, .int v1)], [], 0, 0) 77 6 (fun _ => rfl) h) ?_
          obtain ⟨z12, hz12⟩ : ∃ z : Int32, z = v4 + Int32.ofInt 1 := ⟨_, rfl⟩
          rw [← hz12]
          have fz12_0 : z12.toInt = v4.toInt + (Int32.ofInt 1).toInt := by rw [hz12]; exact pj_addI (by have := pj_i32 v4; have := pj_i32 (Int32.ofInt 1); omega) (by have := pj_i32 v4; have := pj_i32 (Int32.ofInt 1); omega)
          refine pj_X_of (fun r h => pj_R_to (G, 22, [(4, .int z12), (3, .int y10), (2, .int v4), (5, .int y10), (0, .ref 1), (1, .int v1)], [], 0, 0) 22 2 (fun _ => rfl) h) ?_
          exact pj_X_sub [(0, .ref 1), (1, .int v1), (2, .int v4), (3, .int y10), (4, .int z12)] (show List.Nodup [0, 1, 2, 3, 4] by decide) ⟨rfl, rfl, rfl, rfl, rfl, trivial⟩ (ih G hI hK v1 v4 y10 z12 (pj_i32 _) (pj_i32 _) (pj_i32 _) ⟨by omega, by omega⟩ (by omega))
        | false =>
          have ub11 := pj_u_eqF b11
          refine pj_X_of (fun r h => pj_R_icF rfl b11 h) ?_
          refine pj_X_of (fun r h => pj_R_to (G, 65, [(5, .int y10), (0, .ref 1), (1, .int v1), (2, .int v2), (3, .int v3), (4, .int v4)], [.int v3, .int y10], 0, 0) 65 3 (fun _ => rfl) h) ?_
          cases b13 : pj_c1 .ge y10 v3 with
          | true =>
            have ub13 := pj_u_geT b13
            refine pj_X_of (fun r h => pj_R_icT 74 rfl rfl b13 h) ?_
            refine pj_X_of (fun r h => pj_R_to (G, 77, [(4, .int (v4 + Int32.ofInt 1)), (5, .int y10), (0, .ref 1), (1, .int v1), (2, .int v2), (3, .int v3)], [], 0, 0) 77 2 (fun _ => rfl) h) ?_
            obtain ⟨z14, hz14⟩ : ∃ z : Int32, z = v4 + Int32.ofInt 1 := ⟨_, rfl⟩
            rw [← hz14]
            have fz14_0 : z14.toInt = v4.toInt + (Int32.ofInt 1).toInt := by rw [hz14]; exact pj_addI (by have := pj_i32 v4; have := pj_i32 (Int32.ofInt 1); omega) (by have := pj_i32 v4; have := pj_i32 (Int32.ofInt 1); omega)
            refine pj_X_of (fun r h => pj_R_to (G, 22, [(4, .int z14), (5, .int y10), (0, .ref 1), (1, .int v1), (2, .int v2), (3, .int v3)], [], 0, 0) 22 2 (fun _ => rfl) h) ?_
            exact pj_X_sub [(0, .ref 1), (1, .int v1), (2, .int v2), (3, .int v3), (4, .int z14)] (show List.Nodup [0, 1, 2, 3, 4] by decide) ⟨rfl, rfl, rfl, rfl, rfl, trivial⟩ (ih G hI hK v1 v2 v3 z14 (pj_i32 _) (pj_i32 _) (pj_i32 _) ⟨by omega, by omega⟩ (by omega))
          | false =>
            have ub13 := pj_u_geF b13
            refine pj_X_of (fun r h => pj_R_icF rfl b13 h) ?_
            refine pj_X_of (fun r h => pj_R_to (G, 77, [(4, .int (v4 + Int32.ofInt 1)), (3, .int y10), (2, .int v4), (5, .int y10), (0, .ref 1), (1, .int v1)], [], 0, 0) 77 6 (fun _ => rfl) h) ?_
            obtain ⟨z15, hz15⟩ : ∃ z : Int32, z = v4 + Int32.ofInt 1 := ⟨_, rfl⟩
            rw [← hz15]
            have fz15_0 : z15.toInt = v4.toInt + (Int32.ofInt 1).toInt := by rw [hz15]; exact pj_addI (by have := pj_i32 v4; have := pj_i32 (Int32.ofInt 1); omega) (by have := pj_i32 v4; have := pj_i32 (Int32.ofInt 1); omega)
            refine pj_X_of (fun r h => pj_R_to (G, 22, [(4, .int z15), (3, .int y10), (2, .int v4), (5, .int y10), (0, .ref 1), (1, .int v1)], [], 0, 0) 22 2 (fun _ => rfl) h) ?_
            exact pj_X_sub [(0, .ref 1), (1, .int v1), (2, .int v4), (3, .int y10), (4, .int z15)] (show List.Nodup [0, 1, 2, 3, 4] by decide) ⟨rfl, rfl, rfl, rfl, rfl, trivial⟩ (ih G hI hK v1 v4 y10 z15 (pj_i32 _) (pj_i32 _) (pj_i32 _) ⟨by omega, by omega⟩ (by omega))
theorem ct_151 (G0 : pj_G) (hI : pj_Inv G0) : pj_Y 5 151 [.ref 1] G0 (fun v G' => ∃ y : Int32, v = some (.int y) ∧ pj_Inv G' ∧ pj_kpt kc_151 G0 G' ∧ ((-2147483648 : Int) ≤ y.toInt ∧ y.toInt ≤ 2147483647)) := by
  have c0_ : ((Int8.ofInt (-2)).toInt32).toInt = -2 := by decide
  have c1_ : ((Int8.ofInt 19).toInt32).toInt = 19 := by decide
  have c2_ : ((Int8.ofInt 76).toInt32).toInt = 76 := by decide
  have c3_ : (Int32.ofInt (-1)).toInt = -1 := by decide
  have c4_ : (Int32.ofInt 0).toInt = 0 := by decide
  have c5_ : (Int32.ofInt 1).toInt = 1 := by decide
  refine pj_Y_X (M := pj_m151) rfl rfl (Nat.le_of_ble_eq_true rfl) ?_
  have hK : pj_kpt kc_151 G0 G0 := pj_kpt_r _ _
  show pj_X _ _ G0 0 [(0, .ref 1)] [] _
  refine pj_X_of (fun r h => pj_R_to (G0, 1, [(0, .ref 1)], [.ref 1], 0, 0) 1 2 (fun _ => rfl) h) ?_
  refine pj_X_of (fun r h => pj_T_gr hI rfl rfl rfl h) ?_
  refine pj_X_ca (vs := [.ref 46]) rfl (fun _ => rfl) ⟨Nat.le_of_ble_eq_true rfl, Nat.le_of_ble_eq_true rfl, pj_T_rcv hI rfl⟩ ⟨rfl, rfl⟩ (pj_Y_up (by decide) (ct_20 G0 hI)) ?_
  rintro _ _ ⟨y16, rfl, rfl, ry16⟩
  show pj_X _ _ G0 7 [(0, .ref 1)] [.int y16] _
  refine pj_X_of (fun r h => pj_R_to (G0, 9, [(1, .int y16), (0, .ref 1)], [.int y16], 0, 0) 9 3 (fun _ => rfl) h) ?_
  cases b17 : pj_c1 .ne y16 0 with
  | true =>
    have ub17 := pj_u0_neT b17
    refine pj_X_of (fun r h => pj_R_ifT 15 rfl rfl b17 h) ?_
    refine pj_X_of (fun r h => pj_R_to (G0, 22, [(4, .int (Int32.ofInt 0)), (3, .int (Int32.ofInt 0)), (2, .int (Int32.ofInt (-1))), (1, .int y16), (0, .ref 1)], [], 0, 0) 22 7 (fun _ => rfl) h) ?_
    exact pj_X_sub [(0, .ref 1), (1, .int y16), (2, .int (Int32.ofInt (-1))), (3, .int (Int32.ofInt 0)), (4, .int (Int32.ofInt 0))] (show List.Nodup [0, 1, 2, 3, 4] by decide) ⟨rfl, rfl, rfl, rfl, rfl, trivial⟩ ((lp_ct_151 G0 hI   77) G0 hI hK y16 (Int32.ofInt (-1)) (Int32.ofInt 0) (Int32.ofInt 0) (pj_i32 _) (pj_i32 _) (pj_i32 _) ⟨by omega, by omega⟩ (by omega))
  | false =>
    have ub17 := pj_u0_neF b17
    refine pj_X_of (fun r h => pj_R_ifF rfl b17 h) ?_
    refine pj_X_of (fun r h => pj_R_to (G0, 14, [(1, .int y16), (0, .ref 1)], [.int ((Int8.ofInt (-2)).toInt32)], 0, 0) 14 2 (fun _ => rfl) h) ?_
    exact pj_X_rt rfl rfl ⟨_, rfl, hI, hK, pj_i32 _⟩
def kc_152 : pj_KT := ([(4, 1)], [4, 5], [])
theorem ct_152 (G0 : pj_G) (hI : pj_Inv G0) (o1 : Int32) (o2 : Int32) (n : Int32) (k : Int32) : pj_Y 4 152 [.ref 1, .int o1, .int o2, .int n, .int k] G0 (fun v G' => ∃ y : Int32, v = some (.int y) ∧ pj_Inv G' ∧ pj_kpt kc_152 G0 G' ∧ ((-2147483648 : Int) ≤ y.toInt ∧ y.toInt ≤ 2147483647)) := by
  have c0_ : ((Int8.ofInt 24).toInt32).toInt = 24 := by decide
  have c1_ : ((Int8.ofInt 48).toInt32).toInt = 48 := by decide
  have c2_ : (Int32.ofInt (-1)).toInt = -1 := by decide
  have c3_ : (Int32.ofInt 0).toInt = 0 := by decide
  have c4_ : (Int32.ofInt 1).toInt = 1 := by decide
  refine pj_Y_X (M := pj_m152) rfl rfl (Nat.le_of_ble_eq_true rfl) ?_
  have hK : pj_kpt kc_152 G0 G0 := pj_kpt_r _ _
  show pj_X _ _ G0 0 [(0, .ref 1), (1, .int o1), (2, .int o2), (3, .int n), (4, .int k)] [] _
  refine pj_X_of (fun r h => pj_R_to (G0, 3, [(0, .ref 1), (1, .int o1), (2, .int o2), (3, .int n), (4, .int k)], [.int ((Int8.ofInt 24).toInt32), .int o1], 0, 0) 3 3 (fun _ => rfl) h) ?_
  refine pj_X_ca (vs := [.int o1, .int ((Int8.ofInt 24).toInt32)]) rfl (fun _ => rfl) ⟨Nat.le_of_ble_eq_true rfl, Nat.le_of_ble_eq_true rfl, rfl⟩ ⟨rfl, rfl⟩ (pj_Y_up (by decide) (ct_164x G0 hI o1 ((Int8.ofInt 24).toInt32))) ?_
  rintro _ _ ⟨y1, rfl, rfl, ry1, fy1⟩
  show pj_X _ _ G0 6 [(0, .ref 1), (1, .int o1), (2, .int o2), (3, .int n), (4, .int k)] [.int y1] _
  cases b2 : pj_c1 .eq y1 0 with
  | true =>
    have ub2 := pj_u0_eqT b2
    refine pj_X_of (fun r h => pj_R_ifT 42 rfl rfl b2 h) ?_
    refine pj_X_of (fun r h => pj_R_to (G0, 43, [(0, .ref 1), (1, .int o1), (2, .int o2), (3, .int n), (4, .int k)], [.int (Int32.ofInt (-1))], 0, 0) 43 2 (fun _ => rfl) h) ?_
    exact pj_X_rt rfl rfl ⟨_, rfl, hI, hK, pj_i32 _⟩
  | false =>
    have ub2 := pj_u0_eqF b2
    refine pj_X_of (fun r h => pj_R_ifF rfl b2 h) ?_
    refine pj_X_of (fun r h => pj_R_to (G0, 12, [(0, .ref 1), (1, .int o1), (2, .int o2), (3, .int n), (4, .int k)], [.int ((Int8.ofInt 24).toInt32), .int o2], 0, 0) 12 3 (fun _ => rfl) h) ?_
    refine pj_X_ca (vs := [.int o2, .int ((Int8.ofInt 24).toInt32)]) rfl (fun _ => rfl) ⟨Nat.le_of_ble_eq_true rfl, Nat.le_of_ble_eq_true rfl, rfl⟩ ⟨rfl, rfl⟩ (pj_Y_up (by decide) (ct_164x G0 hI o2 ((Int8.ofInt 24).toInt32))) ?_
    rintro _ _ ⟨y3, rfl, rfl, ry3, fy3⟩
    show pj_X _ _ G0 15 [(0, .ref 1), (1, .int o1), (2, .int o2), (3, .int n), (4, .int k)] [.int y3] _
    cases b4 : pj_c1 .eq y3 0 with
    | true =>
      have ub4 := pj_u0_eqT b4
      refine pj_X_of (fun r h => pj_R_ifT 42 rfl rfl b4 h) ?_
      refine pj_X_of (fun r h => pj_R_to (G0, 43, [(0, .ref 1), (1, .int o1), (2, .int o2), (3, .int n), (4, .int k)], [.int (Int32.ofInt (-1))], 0, 0) 43 2 (fun _ => rfl) h) ?_
      exact pj_X_rt rfl rfl ⟨_, rfl, hI, hK, pj_i32 _⟩
    | false =>
      have ub4 := pj_u0_eqF b4
      refine pj_X_of (fun r h => pj_R_ifF rfl b4 h) ?_
      refine pj_X_of (fun r h => pj_R_to (G0, 20, [(0, .ref 1), (1, .int o1), (2, .int o2), (3, .int n), (4, .int k)], [.int (Int32.ofInt 1), .int n], 0, 0) 20 3 (fun _ => rfl) h) ?_
      cases b5 : pj_c1 .lt n (Int32.ofInt 1) with
      | true =>
        have ub5 := pj_u_ltT b5
        refine pj_X_of (fun r h => pj_R_icT 42 rfl rfl b5 h) ?_
        refine pj_X_of (fun r h => pj_R_to (G0, 43, [(0, .ref 1), (1, .int o1), (2, .int o2), (3, .int n), (4, .int k)], [.int (Int32.ofInt (-1))], 0, 0) 43 2 (fun _ => rfl) h) ?_
        exact pj_X_rt rfl rfl ⟨_, rfl, hI, hK, pj_i32 _⟩
      | false =>
        have ub5 := pj_u_ltF b5
        refine pj_X_of (fun r h => pj_R_icF rfl b5 h) ?_
        refine pj_X_of (fun r h => pj_R_to (G0, 26, [(0, .ref 1), (1, .int o1), (2, .int o2), (3, .int n), (4, .int k)], [.int ((Int8.ofInt 48).toInt32), .int n], 0, 0) 26 3 (fun _ => rfl) h) ?_
        cases b6 : pj_c1 .gt n ((Int8.ofInt 48).toInt32) with
        | true =>
          have ub6 := pj_u_gtT b6
          refine pj_X_of (fun r h => pj_R_icT 42 rfl rfl b6 h) ?_
          refine pj_X_of (fun r h => pj_R_to (G0, 43, [(0, .ref 1), (1, .int o1), (2, .int o2), (3, .int n), (4, .int k)], [.int (Int32.ofInt (-1))], 0, 0) 43 2 (fun _ => rfl) h) ?_
          exact pj_X_rt rfl rfl ⟨_, rfl, hI, hK, pj_i32 _⟩
        | false =>
          have ub6 := pj_u_gtF b6
          refine pj_X_of (fun r h => pj_R_icF rfl b6 h) ?_
          refine pj_X_of (fun r h => pj_R_to (G0, 32, [(0, .ref 1), (1, .int o1), (2, .int o2), (3, .int n), (4, .int k)], [.int (Int32.ofInt 1), .int k], 0, 0) 32 3 (fun _ => rfl) h) ?_
          cases b7 : pj_c1 .lt k (Int32.ofInt 1) with
          | true =>
            have ub7 := pj_u_ltT b7
            refine pj_X_of (fun r h => pj_R_icT 42 rfl rfl b7 h) ?_
            refine pj_X_of (fun r h => pj_R_to (G0, 43, [(0, .ref 1), (1, .int o1), (2, .int o2), (3, .int n), (4, .int k)], [.int (Int32.ofInt (-1))], 0, 0) 43 2 (fun _ => rfl) h) ?_
            exact pj_X_rt rfl rfl ⟨_, rfl, hI, hK, pj_i32 _⟩
          | false =>
            have ub7 := pj_u_ltF b7
            refine pj_X_of (fun r h => pj_R_icF rfl b7 h) ?_
            refine pj_X_of (fun r h => pj_R_to (G0, 39, [(0, .ref 1), (1, .int o1), (2, .int o2), (3, .int n), (4, .int k)], [.int ((Int8.ofInt 48).toInt32), .int k], 0, 0) 39 3 (fun _ => rfl) h) ?_
            cases b8 : pj_c1 .le k ((Int8.ofInt 48).toInt32) with
            | true =>
              have ub8 := pj_u_leT b8
              refine pj_X_of (fun r h => pj_R_icT 44 rfl rfl b8 h) ?_
              refine pj_X_of (fun r h => pj_R_to (G0, 45, [(0, .ref 1), (1, .int o1), (2, .int o2), (3, .int n), (4, .int k)], [.ref 1], 0, 0) 45 2 (fun _ => rfl) h) ?_
              refine pj_X_of (fun r h => pj_T_gr hI rfl rfl rfl h) ?_
              refine pj_X_of (fun r h => pj_R_to (G0, 53, [(0, .ref 1), (1, .int o1), (2, .int o2), (3, .int n), (4, .int k)], [.int (Int32.ofInt 1), .int k, .int n, .int o1, .ref 4], 0, 0) 53 5 (fun _ => rfl) h) ?_
              refine pj_X_ca (vs := [.int o1, .int n, .int k, .int (Int32.ofInt 1)]) rfl (fun _ => rfl) ⟨Nat.le_of_ble_eq_true rfl, Nat.le_of_ble_eq_true rfl, rfl⟩ ⟨rfl, rfl⟩ (pj_Y_up (by decide) (ct_165 G0 hI o1 n k (Int32.ofInt 1) ⟨by omega, by omega⟩)) ?_
              rintro _ _ ⟨y9, rfl, rfl, ry9⟩
              show pj_X _ _ G0 56 [(0, .ref 1), (1, .int o1), (2, .int o2), (3, .int n), (4, .int k)] [.int y9, .ref 4] _
              refine pj_X_of (fun r h => pj_R_to (G0, 62, [(0, .ref 1), (1, .int o1), (2, .int o2), (3, .int n), (4, .int k)], [.int (Int32.ofInt 0), .int k, .int n, .int o2, .long y9.toInt64, .ref 4], 0, 0) 62 6 (fun _ => rfl) h) ?_
              refine pj_X_ca (vs := [.int o2, .int n, .int k, .int (Int32.ofInt 0)]) rfl (fun _ => rfl) ⟨Nat.le_of_ble_eq_true rfl, Nat.le_of_ble_eq_true rfl, rfl⟩ ⟨rfl, rfl⟩ (pj_Y_up (by decide) (ct_165 G0 hI o2 n k (Int32.ofInt 0) ⟨by omega, by omega⟩)) ?_
              rintro _ _ ⟨y10, rfl, rfl, ry10⟩
              show pj_X _ _ G0 65 [(0, .ref 1), (1, .int o1), (2, .int o2), (3, .int n), (4, .int k)] [.int y10, .long y9.toInt64, .ref 4] _
              refine pj_X_of (fun r h => pj_R_to (G0, 66, [(0, .ref 1), (1, .int o1), (2, .int o2), (3, .int n), (4, .int k)], [.long y10.toInt64, .long y9.toInt64, .ref 4], 0, 0) 66 2 (fun _ => rfl) h) ?_
              have lc11 : (y9.toInt64).toInt = y9.toInt := Int32.toInt_toInt64 _
              have lc12 : (y10.toInt64).toInt = y10.toInt := Int32.toInt_toInt64 _
              refine pj_X_ca (vs := [.ref 4, .long y9.toInt64, .long y10.toInt64]) rfl (fun _ => rfl) ⟨Nat.le_of_ble_eq_true rfl, Nat.le_of_ble_eq_true rfl, pj_T_rcv hI rfl⟩ ⟨rfl, rfl⟩ (pj_Y_up (by decide) (ct_56x G0 hI y9.toInt64 y10.toInt64)) ?_
              rintro _ G14 ⟨rfl, iG14, jG14, fy13⟩
              have kG14 : pj_kpt kc_152 G0 G14 := pj_kpt_t hK (pj_kpt_s jG14 rfl)
              show pj_X _ _ G14 69 [(0, .ref 1), (1, .int o1), (2, .int o2), (3, .int n), (4, .int k)] [] _
              refine pj_X_of (fun r h => pj_R_to (G14, 74, [(0, .ref 1), (1, .int o1), (2, .int o2), (3, .int n), (4, .int k)], [.int (Int32.ofInt 0), .int k, .int n, .int o1], 0, 0) 74 5 (fun _ => rfl) h) ?_
              refine pj_X_ca (vs := [.int o1, .int n, .int k, .int (Int32.ofInt 0)]) rfl (fun _ => rfl) ⟨Nat.le_of_ble_eq_true rfl, Nat.le_of_ble_eq_true rfl, rfl⟩ ⟨rfl, rfl⟩ (pj_Y_up (by decide) (ct_165 G14 iG14 o1 n k (Int32.ofInt 0) ⟨by omega, by omega⟩)) ?_
              rintro _ _ ⟨y15, rfl, rfl, ry15⟩
              show pj_X _ _ G14 77 [(0, .ref 1), (1, .int o1), (2, .int o2), (3, .int n), (4, .int k)] [.int y15] _
              refine pj_X_of (fun r h => pj_R_to (G14, 82, [(0, .ref 1), (1, .int o1), (2, .int o2), (3, .int n), (4, .int k)], [.int (Int32.ofInt 1), .int k, .int n, .int o2, .int y15], 0, 0) 82 5 (fun _ => rfl) h) ?_
              refine pj_X_ca (vs := [.int o2, .int n, .int k, .int (Int32.ofInt 1)]) rfl (fun _ => rfl) ⟨Nat.le_of_ble_eq_true rfl, Nat.le_of_ble_eq_true rfl, rfl⟩ ⟨rfl, rfl⟩ (pj_Y_up (by decide) (ct_165 G14 iG14 o2 n k (Int32.ofInt 1) ⟨by omega, by omega⟩)) ?_
              rintro _ _ ⟨y16, rfl, rfl, ry16⟩
              show pj_X _ _ G14 85 [(0, .ref 1), (1, .int o1), (2, .int o2), (3, .int n), (4, .int k)] [.int y16, .int y15] _
              refine pj_X_of (fun r h => pj_R_to (G14, 86, [(0, .ref 1), (1, .int o1), (2, .int o2), (3, .int n), (4, .int k)], [.int (y15 + y16)], 0, 0) 86 2 (fun _ => rfl) h) ?_
              obtain ⟨z17, hz17⟩ : ∃ z : Int32, z = y15 + y16 := ⟨_, rfl⟩
              rw [← hz17]
              exact pj_X_rt rfl rfl ⟨_, rfl, iG14, kG14, pj_i32 _⟩
            | false =>
              have ub8 := pj_u_leF b8
              refine pj_X_of (fun r h => pj_R_icF rfl b8 h) ?_
              refine pj_X_of (fun r h => pj_R_to (G0, 43, [(0, .ref 1), (1, .int o1), (2, .int o2), (3, .int n), (4, .int k)], [.int (Int32.ofInt (-1))], 0, 0) 43 2 (fun _ => rfl) h) ?_
              exact pj_X_rt rfl rfl ⟨_, rfl, hI, hK, pj_i32 _⟩
def kc_153 : pj_KT := ([(4, 1)], [4, 5], [])
theorem lp_ct_153 (G0 : pj_G) (hI0 : pj_Inv G0) (o1 : Int32) (o2 : Int32) (n : Int32) : ∀ mn : Nat, (∀ (G : pj_G) (hI : pj_Inv G) (hK : pj_kpt kc_153 G0 G) (v4 : Int32) (v5 : Int32) (v6 : Int32), ((-2147483648 : Int) ≤ v4.toInt ∧ v4.toInt ≤ 2147483647) → ((-2147483648 : Int) ≤ v5.toInt ∧ v5.toInt ≤ 2147483647) → ((1 : Int) ≤ v6.toInt ∧ v6.toInt ≤ 25) → (1 ≤ n.toInt ∧ n.toInt ≤ 48) → 25 - v6.toInt < (mn : Int) → pj_X 3 pj_m153 G 40 [(0, .ref 1), (1, .int o1), (2, .int o2), (3, .int n), (4, .int v4), (5, .int v5), (6, .int v6)] [] (fun v G' => ∃ y : Int32, v = some (.int y) ∧ pj_Inv G' ∧ pj_kpt kc_153 G0 G' ∧ ((-2147483648 : Int) ≤ y.toInt ∧ y.toInt ≤ 2147483647))) := by
  have c0_ : ((Int8.ofInt 24).toInt32).toInt = 24 := by decide
  have c1_ : ((Int8.ofInt 48).toInt32).toInt = 48 := by decide
  have c2_ : (Int32.ofInt (-1)).toInt = -1 := by decide
  have c3_ : (Int32.ofInt 0).toInt = 0 := by decide
  have c4_ : (Int32.ofInt 1).toInt = 1 := by decide
  intro mn
  induction mn with
  | zero =>
    intro G hI hK v4 v5 v6 rv4 rv5 rv6 x0_ hm
    exfalso
    omega
  | succ mn ih =>
    intro G hI hK v4 v5 v6 rv4 rv5 rv6 x0_ hm
    refine pj_X_of (fun r h => pj_R_to (G, 44, [(0, .ref 1), (1, .int o1), (2, .int o2), (3, .int n), (4, .int v4), (5, .int v5), (6, .int v6)], [.int ((Int8.ofInt 24).toInt32), .int v6], 0, 0) 44 3 (fun _ => rfl) h) ?_
    cases b1 : pj_c1 .gt v6 ((Int8.ofInt 24).toInt32) with
    | true =>
      have ub1 := pj_u_gtT b1
      refine pj_X_of (fun r h => pj_R_icT 93 rfl rfl b1 h) ?_
      refine pj_X_of (fun r h => pj_R_to (G, 94, [(0, .ref 1), (1, .int o1), (2, .int o2), (3, .int n), (4, .int v4), (5, .int v5), (6, .int v6)], [.ref 1], 0, 0) 94 2 (fun _ => rfl) h) ?_
      refine pj_X_of (fun r h => pj_T_gr hI rfl rfl rfl h) ?_
      refine pj_X_of (fun r h => pj_R_to (G, 100, [(0, .ref 1), (1, .int o1), (2, .int o2), (3, .int n), (4, .int v4), (5, .int v5), (6, .int v6)], [.long v5.toInt64, .ref 4], 0, 0) 100 3 (fun _ => rfl) h) ?_
      have lc2 : (v5.toInt64).toInt = v5.toInt := Int32.toInt_toInt64 _
      refine pj_X_ca (vs := [.ref 4, .long v5.toInt64]) rfl (fun _ => rfl) ⟨Nat.le_of_ble_eq_true rfl, Nat.le_of_ble_eq_true rfl, pj_T_rcv hI rfl⟩ ⟨rfl, rfl⟩ (pj_Y_up (by decide) (ct_55x G hI v5.toInt64)) ?_
      rintro _ G4 ⟨rfl, iG4, jG4, fy3⟩
      have kG4 : pj_kpt kc_153 G0 G4 := pj_kpt_t hK (pj_kpt_s jG4 rfl)
      show pj_X _ _ G4 103 [(0, .ref 1), (1, .int o1), (2, .int o2), (3, .int n), (4, .int v4), (5, .int v5), (6, .int v6)] [] _
      refine pj_X_of (fun r h => pj_R_to (G4, 105, [(0, .ref 1), (1, .int o1), (2, .int o2), (3, .int n), (4, .int v4), (5, .int v5), (6, .int v6)], [.int v4], 0, 0) 105 2 (fun _ => rfl) h) ?_
      exact pj_X_rt rfl rfl ⟨_, rfl, iG4, kG4, pj_i32 _⟩
    | false =>
      have ub1 := pj_u_gtF b1
      refine pj_X_of (fun r h => pj_R_icF rfl b1 h) ?_
      refine pj_X_of (fun r h => pj_R_to (G, 52, [(0, .ref 1), (1, .int o1), (2, .int o2), (3, .int n), (4, .int v4), (5, .int v5), (6, .int v6)], [.int (Int32.ofInt 0), .int v6, .int n, .int o1], 0, 0) 52 5 (fun _ => rfl) h) ?_
      refine pj_X_ca (vs := [.int o1, .int n, .int v6, .int (Int32.ofInt 0)]) rfl (fun _ => rfl) ⟨Nat.le_of_ble_eq_true rfl, Nat.le_of_ble_eq_true rfl, rfl⟩ ⟨rfl, rfl⟩ (pj_Y_up (by decide) (ct_165 G hI o1 n v6 (Int32.ofInt 0) ⟨by omega, by omega⟩)) ?_
      rintro _ _ ⟨y5, rfl, rfl, ry5⟩
      show pj_X _ _ G 55 [(0, .ref 1), (1, .int o1), (2, .int o2), (3, .int n), (4, .int v4), (5, .int v5), (6, .int v6)] [.int y5] _
      refine pj_X_of (fun r h => pj_R_to (G, 60, [(0, .ref 1), (1, .int o1), (2, .int o2), (3, .int n), (4, .int v4), (5, .int v5), (6, .int v6)], [.int (Int32.ofInt 1), .int v6, .int n, .int o2, .int y5], 0, 0) 60 5 (fun _ => rfl) h) ?_
      refine pj_X_ca (vs := [.int o2, .int n, .int v6, .int (Int32.ofInt 1)]) rfl (fun _ => rfl) ⟨Nat.le_of_ble_eq_true rfl, Nat.le_of_ble_eq_true rfl, rfl⟩ ⟨rfl, rfl⟩ (pj_Y_up (by decide) (ct_165 G hI o2 n v6 (Int32.ofInt 1) ⟨by omega, by omega⟩)) ?_
      rintro _ _ ⟨y6, rfl, rfl, ry6⟩
      show pj_X _ _ G 63 [(0, .ref 1), (1, .int o1), (2, .int o2), (3, .int n), (4, .int v4), (5, .int v5), (6, .int v6)] [.int y6, .int y5] _
      refine pj_X_of (fun r h => pj_R_to (G, 64, [(0, .ref 1), (1, .int o1), (2, .int o2), (3, .int n), (4, .int v4), (5, .int v5), (6, .int v6)], [.int (y5 + y6)], 0, 0) 64 2 (fun _ => rfl) h) ?_
      obtain ⟨z7, hz7⟩ : ∃ z : Int32, z = y5 + y6 := ⟨_, rfl⟩
      rw [← hz7]
      refine pj_X_of (fun r h => pj_R_to (G, 69, [(7, .int z7), (0, .ref 1), (1, .int o1), (2, .int o2), (3, .int n), (4, .int v4), (5, .int v5), (6, .int v6)], [.int (Int32.ofInt (-1)), .int v4], 0, 0) 69 4 (fun _ => rfl) h) ?_
      cases b8 : pj_c1 .eq v4 (Int32.ofInt (-1)) with
      | true =>
        have ub8 := pj_u_eqT b8
        refine pj_X_of (fun r h => pj_R_icT 79 rfl rfl b8 h) ?_
        refine pj_X_of (fun r h => pj_R_to (G, 90, [(6, .int (v6 + Int32.ofInt 1)), (5, .int z7), (4, .int v6), (7, .int z7), (0, .ref 1), (1, .int o1), (2, .int o2), (3, .int n)], [], 0, 0) 90 6 (fun _ => rfl) h) ?_
        obtain ⟨z9, hz9⟩ : ∃ z : Int32, z = v6 + Int32.ofInt 1 := ⟨_, rfl⟩
        rw [← hz9]
        have fz9_0 : z9.toInt = v6.toInt + (Int32.ofInt 1).toInt := by rw [hz9]; exact pj_addI (by have := pj_i32 v6; have := pj_i32 (Int32.ofInt 1); omega) (by have := pj_i32 v6; have := pj_i32 (Int32.ofInt 1); omega)
        refine pj_X_of (fun r h => pj_R_to (G, 40, [(6, .int z9), (5, .int z7), (4, .int v6), (7, .int z7), (0, .ref 1), (1, .int o1), (2, .int o2), (3, .int n)], [], 0, 0) 40 2 (fun _ => rfl) h) ?_
        exact pj_X_sub [(0, .ref 1), (1, .int o1), (2, .int o2), (3, .int n), (4, .int v6), (5, .int z7), (6, .int z9)] (show List.Nodup [0, 1, 2, 3, 4, 5, 6] by decide) ⟨rfl, rfl, rfl, rfl, rfl, rfl, rfl, trivial⟩ (ih G hI hK v6 z7 z9 (pj_i32 _) (pj_i32 _) ⟨by omega, by omega⟩ (by omega) (by omega))
      | false =>
        have ub8 := pj_u_eqF b8
        refine pj_X_of (fun r h => pj_R_icF rfl b8 h) ?_
        refine pj_X_of (fun r h => pj_R_to (G, 76, [(7, .int z7), (0, .ref 1), (1, .int o1), (2, .int o2), (3, .int n), (4, .int v4), (5, .int v5), (6, .int v6)], [.int v5, .int z7], 0, 0) 76 3 (fun _ => rfl) h) ?_
        cases b10 : pj_c1 .le z7 v5 with
        | true =>
          have ub10 := pj_u_leT b10
          refine pj_X_of (fun r h => pj_R_icT 87 rfl rfl b10 h) ?_
          refine pj_X_of (fun r h => pj_R_to (G, 90, [(6, .int (v6 + Int32.ofInt 1)), (7, .int z7), (0, .ref 1), (1, .int o1), (2, .int o2), (3, .int n), (4, .int v4), (5, .int v5)], [], 0, 0) 90 2 (fun _ => rfl) h) ?_
          obtain ⟨z11, hz11⟩ : ∃ z : Int32, z = v6 + Int32.ofInt 1 := ⟨_, rfl⟩
          rw [← hz11]
          have fz11_0 : z11.toInt = v6.toInt + (Int32.ofInt 1).toInt := by rw [hz11]; exact pj_addI (by have := pj_i32 v6; have := pj_i32 (Int32.ofInt 1); omega) (by have := pj_i32 v6; have := pj_i32 (Int32.ofInt 1); omega)
          refine pj_X_of (fun r h => pj_R_to (G, 40, [(6, .int z11), (7, .int z7), (0, .ref 1), (1, .int o1), (2, .int o2), (3, .int n), (4, .int v4), (5, .int v5)], [], 0, 0) 40 2 (fun _ => rfl) h) ?_
          exact pj_X_sub [(0, .ref 1), (1, .int o1), (2, .int o2), (3, .int n), (4, .int v4), (5, .int v5), (6, .int z11)] (show List.Nodup [0, 1, 2, 3, 4, 5, 6] by decide) ⟨rfl, rfl, rfl, rfl, rfl, rfl, rfl, trivial⟩ (ih G hI hK v4 v5 z11 (pj_i32 _) (pj_i32 _) ⟨by omega, by omega⟩ (by omega) (by omega))
        | false =>
          have ub10 := pj_u_leF b10
          refine pj_X_of (fun r h => pj_R_icF rfl b10 h) ?_
          refine pj_X_of (fun r h => pj_R_to (G, 90, [(6, .int (v6 + Int32.ofInt 1)), (5, .int z7), (4, .int v6), (7, .int z7), (0, .ref 1), (1, .int o1), (2, .int o2), (3, .int n)], [], 0, 0) 90 6 (fun _ => rfl) h) ?_
          obtain ⟨z12, hz12⟩ : ∃ z : Int32, z = v6 + Int32.ofInt 1 := ⟨_, rfl⟩
          rw [← hz12]
          have fz12_0 : z12.toInt = v6.toInt + (Int32.ofInt 1).toInt := by rw [hz12]; exact pj_addI (by have := pj_i32 v6; have := pj_i32 (Int32.ofInt 1); omega) (by have := pj_i32 v6; have := pj_i32 (Int32.ofInt 1); omega)
          refine pj_X_of (fun r h => pj_R_to (G, 40, [(6, .int z12), (5, .int z7), (4, .int v6), (7, .int z7), (0, .ref 1), (1, .int o1), (2, .int o2), (3, .int n)], [], 0, 0) 40 2 (fun _ => rfl) h) ?_
          exact pj_X_sub [(0, .ref 1), (1, .int o1), (2, .int o2), (3, .int n), (4, .int v6), (5, .int z7), (6, .int z12)] (show List.Nodup [0, 1, 2, 3, 4, 5, 6] by decide) ⟨rfl, rfl, rfl, rfl, rfl, rfl, rfl, trivial⟩ (ih G hI hK v6 z7 z12 (pj_i32 _) (pj_i32 _) ⟨by omega, by omega⟩ (by omega) (by omega))
theorem ct_153 (G0 : pj_G) (hI : pj_Inv G0) (o1 : Int32) (o2 : Int32) (n : Int32) : pj_Y 4 153 [.ref 1, .int o1, .int o2, .int n] G0 (fun v G' => ∃ y : Int32, v = some (.int y) ∧ pj_Inv G' ∧ pj_kpt kc_153 G0 G' ∧ ((-2147483648 : Int) ≤ y.toInt ∧ y.toInt ≤ 2147483647)) := by
  have c0_ : ((Int8.ofInt 24).toInt32).toInt = 24 := by decide
  have c1_ : ((Int8.ofInt 48).toInt32).toInt = 48 := by decide
  have c2_ : (Int32.ofInt (-1)).toInt = -1 := by decide
  have c3_ : (Int32.ofInt 0).toInt = 0 := by decide
  have c4_ : (Int32.ofInt 1).toInt = 1 := by decide
  refine pj_Y_X (M := pj_m153) rfl rfl (Nat.le_of_ble_eq_true rfl) ?_
  have hK : pj_kpt kc_153 G0 G0 := pj_kpt_r _ _
  show pj_X _ _ G0 0 [(0, .ref 1), (1, .int o1), (2, .int o2), (3, .int n)] [] _
  refine pj_X_of (fun r h => pj_R_to (G0, 3, [(0, .ref 1), (1, .int o1), (2, .int o2), (3, .int n)], [.int ((Int8.ofInt 24).toInt32), .int o1], 0, 0) 3 3 (fun _ => rfl) h) ?_
  refine pj_X_ca (vs := [.int o1, .int ((Int8.ofInt 24).toInt32)]) rfl (fun _ => rfl) ⟨Nat.le_of_ble_eq_true rfl, Nat.le_of_ble_eq_true rfl, rfl⟩ ⟨rfl, rfl⟩ (pj_Y_up (by decide) (ct_164x G0 hI o1 ((Int8.ofInt 24).toInt32))) ?_
  rintro _ _ ⟨y13, rfl, rfl, ry13, fy13⟩
  show pj_X _ _ G0 6 [(0, .ref 1), (1, .int o1), (2, .int o2), (3, .int n)] [.int y13] _
  cases b14 : pj_c1 .eq y13 0 with
  | true =>
    have ub14 := pj_u0_eqT b14
    refine pj_X_of (fun r h => pj_R_ifT 29 rfl rfl b14 h) ?_
    refine pj_X_of (fun r h => pj_R_to (G0, 30, [(0, .ref 1), (1, .int o1), (2, .int o2), (3, .int n)], [.int (Int32.ofInt (-1))], 0, 0) 30 2 (fun _ => rfl) h) ?_
    exact pj_X_rt rfl rfl ⟨_, rfl, hI, hK, pj_i32 _⟩
  | false =>
    have ub14 := pj_u0_eqF b14
    refine pj_X_of (fun r h => pj_R_ifF rfl b14 h) ?_
    refine pj_X_of (fun r h => pj_R_to (G0, 12, [(0, .ref 1), (1, .int o1), (2, .int o2), (3, .int n)], [.int ((Int8.ofInt 24).toInt32), .int o2], 0, 0) 12 3 (fun _ => rfl) h) ?_
    refine pj_X_ca (vs := [.int o2, .int ((Int8.ofInt 24).toInt32)]) rfl (fun _ => rfl) ⟨Nat.le_of_ble_eq_true rfl, Nat.le_of_ble_eq_true rfl, rfl⟩ ⟨rfl, rfl⟩ (pj_Y_up (by decide) (ct_164x G0 hI o2 ((Int8.ofInt 24).toInt32))) ?_
    rintro _ _ ⟨y15, rfl, rfl, ry15, fy15⟩
    show pj_X _ _ G0 15 [(0, .ref 1), (1, .int o1), (2, .int o2), (3, .int n)] [.int y15] _
    cases b16 : pj_c1 .eq y15 0 with
    | true =>
      have ub16 := pj_u0_eqT b16
      refine pj_X_of (fun r h => pj_R_ifT 29 rfl rfl b16 h) ?_
      refine pj_X_of (fun r h => pj_R_to (G0, 30, [(0, .ref 1), (1, .int o1), (2, .int o2), (3, .int n)], [.int (Int32.ofInt (-1))], 0, 0) 30 2 (fun _ => rfl) h) ?_
      exact pj_X_rt rfl rfl ⟨_, rfl, hI, hK, pj_i32 _⟩
    | false =>
      have ub16 := pj_u0_eqF b16
      refine pj_X_of (fun r h => pj_R_ifF rfl b16 h) ?_
      refine pj_X_of (fun r h => pj_R_to (G0, 20, [(0, .ref 1), (1, .int o1), (2, .int o2), (3, .int n)], [.int (Int32.ofInt 1), .int n], 0, 0) 20 3 (fun _ => rfl) h) ?_
      cases b17 : pj_c1 .lt n (Int32.ofInt 1) with
      | true =>
        have ub17 := pj_u_ltT b17
        refine pj_X_of (fun r h => pj_R_icT 29 rfl rfl b17 h) ?_
        refine pj_X_of (fun r h => pj_R_to (G0, 30, [(0, .ref 1), (1, .int o1), (2, .int o2), (3, .int n)], [.int (Int32.ofInt (-1))], 0, 0) 30 2 (fun _ => rfl) h) ?_
        exact pj_X_rt rfl rfl ⟨_, rfl, hI, hK, pj_i32 _⟩
      | false =>
        have ub17 := pj_u_ltF b17
        refine pj_X_of (fun r h => pj_R_icF rfl b17 h) ?_
        refine pj_X_of (fun r h => pj_R_to (G0, 26, [(0, .ref 1), (1, .int o1), (2, .int o2), (3, .int n)], [.int ((Int8.ofInt 48).toInt32), .int n], 0, 0) 26 3 (fun _ => rfl) h) ?_
        cases b18 : pj_c1 .le n ((Int8.ofInt 48).toInt32) with
        | true =>
          have ub18 := pj_u_leT b18
          refine pj_X_of (fun r h => pj_R_icT 31 rfl rfl b18 h) ?_
          refine pj_X_of (fun r h => pj_R_to (G0, 40, [(6, .int (Int32.ofInt 1)), (5, .int (Int32.ofInt 0)), (4, .int (Int32.ofInt (-1))), (0, .ref 1), (1, .int o1), (2, .int o2), (3, .int n)], [], 0, 0) 40 7 (fun _ => rfl) h) ?_
          exact pj_X_sub [(0, .ref 1), (1, .int o1), (2, .int o2), (3, .int n), (4, .int (Int32.ofInt (-1))), (5, .int (Int32.ofInt 0)), (6, .int (Int32.ofInt 1))] (show List.Nodup [0, 1, 2, 3, 4, 5, 6] by decide) ⟨rfl, rfl, rfl, rfl, rfl, rfl, rfl, trivial⟩ ((lp_ct_153 G0 hI o1 o2 n  25) G0 hI hK (Int32.ofInt (-1)) (Int32.ofInt 0) (Int32.ofInt 1) (pj_i32 _) (pj_i32 _) ⟨by omega, by omega⟩ (by omega) (by omega))
        | false =>
          have ub18 := pj_u_leF b18
          refine pj_X_of (fun r h => pj_R_icF rfl b18 h) ?_
          refine pj_X_of (fun r h => pj_R_to (G0, 30, [(0, .ref 1), (1, .int o1), (2, .int o2), (3, .int n)], [.int (Int32.ofInt (-1))], 0, 0) 30 2 (fun _ => rfl) h) ?_
          exact pj_X_rt rfl rfl ⟨_, rfl, hI, hK, pj_i32 _⟩
def kc_155 : pj_KT := ([(4, 1)], [4, 5, 30, 33], [30, 33])
theorem lp_ct_155 (G0 : pj_G) (hI0 : pj_Inv G0) : ∀ mn : Nat, (∀ (G : pj_G) (hI : pj_Inv G) (hK : pj_kpt kc_155 G0 G) (v1 : Int32) (v2 : Int32) (v3 : Int32), ((-2147483648 : Int) ≤ v1.toInt ∧ v1.toInt ≤ 2147483647) → ((-2147483648 : Int) ≤ v2.toInt ∧ v2.toInt ≤ 2147483647) → ((0 : Int) ≤ v3.toInt ∧ v3.toInt ≤ 6) → 6 - v3.toInt < (mn : Int) → pj_X 4 pj_m155 G 15 [(0, .ref 1), (1, .int v1), (2, .int v2), (3, .int v3)] [] (fun v G' => ∃ y : Int32, v = some (.int y) ∧ pj_Inv G' ∧ pj_kpt kc_155 G0 G' ∧ ((-2147483648 : Int) ≤ y.toInt ∧ y.toInt ≤ 2147483647))) := by
  have c0_ : (Int32.ofInt (-1)).toInt = -1 := by decide
  have c1_ : (Int32.ofInt 0).toInt = 0 := by decide
  have c2_ : (Int32.ofInt 1).toInt = 1 := by decide
  intro mn
  induction mn with
  | zero =>
    intro G hI hK v1 v2 v3 rv1 rv2 rv3 hm
    exfalso
    omega
  | succ mn ih =>
    intro G hI hK v1 v2 v3 rv1 rv2 rv3 hm
    refine pj_X_of (fun r h => pj_R_to (G, 17, [(0, .ref 1), (1, .int v1), (2, .int v2), (3, .int v3)], [.ref 1, .int v3], 0, 0) 17 3 (fun _ => rfl) h) ?_
    refine pj_X_of (fun r h => pj_T_gr hI rfl rfl rfl h) ?_
    refine pj_X_of (fun r h => pj_T_gr hI rfl rfl rfl h) ?_
    refine pj_X_of (fun r h => pj_T_gi hI rfl rfl h) ?_
    show pj_X _ _ G 26 [(0, .ref 1), (1, .int v1), (2, .int v2), (3, .int v3)] [.int (pj_fi G 21 0), .int v3] _
    obtain ⟨y1, hy1⟩ : ∃ z : Int32, z = pj_fi G 21 0 := ⟨_, rfl⟩
    rw [← hy1]
    have ey1 : (pj_fi G 21 0).toInt = y1.toInt := by rw [hy1]
    have ry1 : (0 : Int) ≤ y1.toInt ∧ y1.toInt ≤ 6 := by rw [hy1]; exact hI.2.1 21 0 (0, 6) rfl
    cases b2 : pj_c1 .ge v3 y1 with
    | true =>
      have ub2 := pj_u_geT b2
      refine pj_X_of (fun r h => pj_R_icT 100 rfl rfl b2 h) ?_
      refine pj_X_of (fun r h => pj_R_to (G, 101, [(0, .ref 1), (1, .int v1), (2, .int v2), (3, .int v3)], [.ref 1], 0, 0) 101 2 (fun _ => rfl) h) ?_
      refine pj_X_of (fun r h => pj_T_gr hI rfl rfl rfl h) ?_
      refine pj_X_of (fun r h => pj_R_to (G, 106, [(0, .ref 1), (1, .int v1), (2, .int v2), (3, .int v3)], [.long v2.toInt64, .ref 4], 0, 0) 106 3 (fun _ => rfl) h) ?_
      have lc3 : (v2.toInt64).toInt = v2.toInt := Int32.toInt_toInt64 _
      refine pj_X_ca (vs := [.ref 4, .long v2.toInt64]) rfl (fun _ => rfl) ⟨Nat.le_of_ble_eq_true rfl, Nat.le_of_ble_eq_true rfl, pj_T_rcv hI rfl⟩ ⟨rfl, rfl⟩ (pj_Y_up (by decide) (ct_55x G hI v2.toInt64)) ?_
      rintro _ G5 ⟨rfl, iG5, jG5, fy4⟩
      have kG5 : pj_kpt kc_155 G0 G5 := pj_kpt_t hK (pj_kpt_s jG5 rfl)
      show pj_X _ _ G5 109 [(0, .ref 1), (1, .int v1), (2, .int v2), (3, .int v3)] [] _
      refine pj_X_of (fun r h => pj_R_to (G5, 110, [(0, .ref 1), (1, .int v1), (2, .int v2), (3, .int v3)], [.int v1], 0, 0) 110 2 (fun _ => rfl) h) ?_
      exact pj_X_rt rfl rfl ⟨_, rfl, iG5, kG5, pj_i32 _⟩
    | false =>
      have ub2 := pj_u_geF b2
      refine pj_X_of (fun r h => pj_R_icF rfl b2 h) ?_
      refine pj_X_of (fun r h => pj_R_to (G, 30, [(0, .ref 1), (1, .int v1), (2, .int v2), (3, .int v3)], [.ref 1], 0, 0) 30 2 (fun _ => rfl) h) ?_
      refine pj_X_of (fun r h => pj_T_gr hI rfl rfl rfl h) ?_
      refine pj_X_of (fun r h => pj_T_gr hI rfl rfl rfl h) ?_
      refine pj_X_of (fun r h => pj_T_gr hI rfl rfl rfl h) ?_
      refine pj_X_of (fun r h => pj_R_to (G, 40, [(0, .ref 1), (1, .int v1), (2, .int v2), (3, .int v3)], [.int v3, .ref 25], 0, 0) 40 2 (fun _ => rfl) h) ?_
      refine pj_X_of (fun r h => pj_T_il hI rfl rfl (by omega) (by omega) h) ?_
      show pj_X _ _ G 41 [(0, .ref 1), (1, .int v1), (2, .int v2), (3, .int v3)] [.int (pj_ai G 25 v3.toInt.toNat)] _
      obtain ⟨z6, hz6⟩ : ∃ z : Int32, z = pj_ai G 25 v3.toInt.toNat := ⟨_, rfl⟩
      rw [← hz6]
      have ez6 : (pj_ai G 25 v3.toInt.toNat).toInt = z6.toInt := by rw [hz6]
      refine pj_X_of (fun r h => pj_R_to (G, 42, [(0, .ref 1), (1, .int v1), (2, .int v2), (3, .int v3)], [.int (Int32.ofInt (-1)), .int z6], 0, 0) 42 2 (fun _ => rfl) h) ?_
      cases b7 : pj_c1 .eq z6 (Int32.ofInt (-1)) with
      | true =>
        have ub7 := pj_u_eqT b7
        refine pj_X_of (fun r h => pj_R_icT 94 rfl rfl b7 h) ?_
        refine pj_X_of (fun r h => pj_R_to (G, 97, [(3, .int (v3 + Int32.ofInt 1)), (0, .ref 1), (1, .int v1), (2, .int v2)], [], 0, 0) 97 2 (fun _ => rfl) h) ?_
        obtain ⟨z8, hz8⟩ : ∃ z : Int32, z = v3 + Int32.ofInt 1 := ⟨_, rfl⟩
        rw [← hz8]
        have fz8_0 : z8.toInt = v3.toInt + (Int32.ofInt 1).toInt := by rw [hz8]; exact pj_addI (by have := pj_i32 v3; have := pj_i32 (Int32.ofInt 1); omega) (by have := pj_i32 v3; have := pj_i32 (Int32.ofInt 1); omega)
        refine pj_X_of (fun r h => pj_R_to (G, 15, [(3, .int z8), (0, .ref 1), (1, .int v1), (2, .int v2)], [], 0, 0) 15 2 (fun _ => rfl) h) ?_
        exact pj_X_sub [(0, .ref 1), (1, .int v1), (2, .int v2), (3, .int z8)] (show List.Nodup [0, 1, 2, 3] by decide) ⟨rfl, rfl, rfl, rfl, trivial⟩ (ih G hI hK v1 v2 z8 (pj_i32 _) (pj_i32 _) ⟨by omega, by omega⟩ (by omega))
      | false =>
        have ub7 := pj_u_eqF b7
        refine pj_X_of (fun r h => pj_R_icF rfl b7 h) ?_
        refine pj_X_of (fun r h => pj_R_to (G, 46, [(0, .ref 1), (1, .int v1), (2, .int v2), (3, .int v3)], [.ref 1], 0, 0) 46 2 (fun _ => rfl) h) ?_
        refine pj_X_of (fun r h => pj_T_gr hI rfl rfl rfl h) ?_
        refine pj_X_of (fun r h => pj_R_to (G, 50, [(0, .ref 1), (1, .int v1), (2, .int v2), (3, .int v3)], [.int v3, .ref 6], 0, 0) 50 2 (fun _ => rfl) h) ?_
        refine pj_X_ca (vs := [.ref 6, .int v3]) rfl (fun _ => rfl) ⟨Nat.le_of_ble_eq_true rfl, Nat.le_of_ble_eq_true rfl, pj_T_rcv hI rfl⟩ ⟨rfl, rfl⟩ (pj_Y_up (by decide) (ct_115 G hI v3 ⟨by omega, by omega⟩)) ?_
        rintro _ G10 ⟨y9, rfl, iG10, jG10, ry9⟩
        have kG10 : pj_kpt kc_155 G0 G10 := pj_kpt_t hK (pj_kpt_s jG10 rfl)
        show pj_X _ _ G10 53 [(0, .ref 1), (1, .int v1), (2, .int v2), (3, .int v3)] [.int y9] _
        refine pj_X_of (fun r h => pj_R_to (G10, 58, [(4, .int y9), (0, .ref 1), (1, .int v1), (2, .int v2), (3, .int v3)], [.int (Int32.ofInt (-1)), .int y9], 0, 0) 58 4 (fun _ => rfl) h) ?_
        cases b11 : pj_c1 .eq y9 (Int32.ofInt (-1)) with
        | true =>
          have ub11 := pj_u_eqT b11
          refine pj_X_of (fun r h => pj_R_icT 78 rfl rfl b11 h) ?_
          refine pj_X_of (fun r h => pj_R_to (G10, 82, [(4, .int y9), (0, .ref 1), (1, .int v1), (2, .int v2), (3, .int v3)], [.int ((Int32.ofInt 1) <<< (v3 &&& 31)), .int v1], 0, 0) 82 5 (fun _ => rfl) h) ?_
          obtain ⟨z12, hz12⟩ : ∃ z : Int32, z = (Int32.ofInt 1) <<< (v3 &&& 31) := ⟨_, rfl⟩
          rw [← hz12]
          have fz12_0 : 1 ≤ z12.toInt ∧ z12.toInt ≤ 32 := by rw [hz12]; exact pj_shlI5 (by omega) (by omega)
          refine pj_X_of (fun r h => pj_R_to (G10, 83, [(4, .int y9), (0, .ref 1), (1, .int v1), (2, .int v2), (3, .int v3)], [.int (v1 ||| z12)], 0, 0) 83 2 (fun _ => rfl) h) ?_
          obtain ⟨z13, hz13⟩ : ∃ z : Int32, z = v1 ||| z12 := ⟨_, rfl⟩
          rw [← hz13]
          refine pj_X_of (fun r h => pj_R_to (G10, 97, [(3, .int (v3 + Int32.ofInt 1)), (1, .int z13), (4, .int y9), (0, .ref 1), (2, .int v2)], [], 0, 0) 97 4 (fun _ => rfl) h) ?_
          obtain ⟨z14, hz14⟩ : ∃ z : Int32, z = v3 + Int32.ofInt 1 := ⟨_, rfl⟩
          rw [← hz14]
          have fz14_0 : z14.toInt = v3.toInt + (Int32.ofInt 1).toInt := by rw [hz14]; exact pj_addI (by have := pj_i32 v3; have := pj_i32 (Int32.ofInt 1); omega) (by have := pj_i32 v3; have := pj_i32 (Int32.ofInt 1); omega)
          refine pj_X_of (fun r h => pj_R_to (G10, 15, [(3, .int z14), (1, .int z13), (4, .int y9), (0, .ref 1), (2, .int v2)], [], 0, 0) 15 2 (fun _ => rfl) h) ?_
          exact pj_X_sub [(0, .ref 1), (1, .int z13), (2, .int v2), (3, .int z14)] (show List.Nodup [0, 1, 2, 3] by decide) ⟨rfl, rfl, rfl, rfl, trivial⟩ (ih G10 iG10 kG10 z13 v2 z14 (pj_i32 _) (pj_i32 _) ⟨by omega, by omega⟩ (by omega))
        | false =>
          have ub11 := pj_u_eqF b11
          refine pj_X_of (fun r h => pj_R_icF rfl b11 h) ?_
          refine pj_X_of (fun r h => pj_R_to (G10, 64, [(4, .int y9), (0, .ref 1), (1, .int v1), (2, .int v2), (3, .int v3)], [.ref 1, .int y9], 0, 0) 64 3 (fun _ => rfl) h) ?_
          refine pj_X_of (fun r h => pj_T_gr iG10 rfl rfl rfl h) ?_
          refine pj_X_of (fun r h => pj_T_gr iG10 rfl rfl rfl h) ?_
          refine pj_X_of (fun r h => pj_T_gr iG10 rfl rfl rfl h) ?_
          refine pj_X_of (fun r h => pj_R_to (G10, 74, [(4, .int y9), (0, .ref 1), (1, .int v1), (2, .int v2), (3, .int v3)], [.int v3, .ref 25, .int y9], 0, 0) 74 2 (fun _ => rfl) h) ?_
          refine pj_X_of (fun r h => pj_T_il iG10 rfl rfl (by omega) (by omega) h) ?_
          show pj_X _ _ G10 75 [(4, .int y9), (0, .ref 1), (1, .int v1), (2, .int v2), (3, .int v3)] [.int (pj_ai G10 25 v3.toInt.toNat), .int y9] _
          obtain ⟨z15, hz15⟩ : ∃ z : Int32, z = pj_ai G10 25 v3.toInt.toNat := ⟨_, rfl⟩
          rw [← hz15]
          have ez15 : (pj_ai G10 25 v3.toInt.toNat).toInt = z15.toInt := by rw [hz15]
          cases b16 : pj_c1 .le y9 z15 with
          | true =>
            have ub16 := pj_u_leT b16
            refine pj_X_of (fun r h => pj_R_icT 87 rfl rfl b16 h) ?_
            refine pj_X_of (fun r h => pj_R_to (G10, 90, [(4, .int y9), (0, .ref 1), (1, .int v1), (2, .int v2), (3, .int v3)], [.int y9, .int v2], 0, 0) 90 3 (fun _ => rfl) h) ?_
            refine pj_X_of (fun r h => pj_R_mx (v := (if v2 < y9 then y9 else v2)) rfl rfl rfl (Nat.le_of_ble_eq_true rfl) h) ?_
            show pj_X _ _ G10 93 [(4, .int y9), (0, .ref 1), (1, .int v1), (2, .int v2), (3, .int v3)] [.int (if v2 < y9 then y9 else v2)] _
            obtain ⟨z17, hz17⟩ : ∃ z : Int32, z = (if v2 < y9 then y9 else v2) := ⟨_, rfl⟩
            rw [← hz17]
            have fz17_0 : v2.toInt ≤ z17.toInt ∧ y9.toInt ≤ z17.toInt ∧ (z17.toInt = v2.toInt ∨ z17.toInt = y9.toInt) := by rw [hz17]; exact pj_maxI
            refine pj_X_of (fun r h => pj_R_to (G10, 97, [(3, .int (v3 + Int32.ofInt 1)), (2, .int z17), (4, .int y9), (0, .ref 1), (1, .int v1)], [], 0, 0) 97 3 (fun _ => rfl) h) ?_
            obtain ⟨z18, hz18⟩ : ∃ z : Int32, z = v3 + Int32.ofInt 1 := ⟨_, rfl⟩
            rw [← hz18]
            have fz18_0 : z18.toInt = v3.toInt + (Int32.ofInt 1).toInt := by rw [hz18]; exact pj_addI (by have := pj_i32 v3; have := pj_i32 (Int32.ofInt 1); omega) (by have := pj_i32 v3; have := pj_i32 (Int32.ofInt 1); omega)
            refine pj_X_of (fun r h => pj_R_to (G10, 15, [(3, .int z18), (2, .int z17), (4, .int y9), (0, .ref 1), (1, .int v1)], [], 0, 0) 15 2 (fun _ => rfl) h) ?_
            exact pj_X_sub [(0, .ref 1), (1, .int v1), (2, .int z17), (3, .int z18)] (show List.Nodup [0, 1, 2, 3] by decide) ⟨rfl, rfl, rfl, rfl, trivial⟩ (ih G10 iG10 kG10 v1 z17 z18 (pj_i32 _) (pj_i32 _) ⟨by omega, by omega⟩ (by omega))
          | false =>
            have ub16 := pj_u_leF b16
            refine pj_X_of (fun r h => pj_R_icF rfl b16 h) ?_
            refine pj_X_of (fun r h => pj_R_to (G10, 82, [(4, .int y9), (0, .ref 1), (1, .int v1), (2, .int v2), (3, .int v3)], [.int ((Int32.ofInt 1) <<< (v3 &&& 31)), .int v1], 0, 0) 82 5 (fun _ => rfl) h) ?_
            obtain ⟨z19, hz19⟩ : ∃ z : Int32, z = (Int32.ofInt 1) <<< (v3 &&& 31) := ⟨_, rfl⟩
            rw [← hz19]
            have fz19_0 : 1 ≤ z19.toInt ∧ z19.toInt ≤ 32 := by rw [hz19]; exact pj_shlI5 (by omega) (by omega)
            refine pj_X_of (fun r h => pj_R_to (G10, 83, [(4, .int y9), (0, .ref 1), (1, .int v1), (2, .int v2), (3, .int v3)], [.int (v1 ||| z19)], 0, 0) 83 2 (fun _ => rfl) h) ?_
            obtain ⟨z20, hz20⟩ : ∃ z : Int32, z = v1 ||| z19 := ⟨_, rfl⟩
            rw [← hz20]
            refine pj_X_of (fun r h => pj_R_to (G10, 97, [(3, .int (v3 + Int32.ofInt 1)), (1, .int z20), (4, .int y9), (0, .ref 1), (2, .int v2)], [], 0, 0) 97 4 (fun _ => rfl) h) ?_
            obtain ⟨z21, hz21⟩ : ∃ z : Int32, z = v3 + Int32.ofInt 1 := ⟨_, rfl⟩
            rw [← hz21]
            have fz21_0 : z21.toInt = v3.toInt + (Int32.ofInt 1).toInt := by rw [hz21]; exact pj_addI (by have := pj_i32 v3; have := pj_i32 (Int32.ofInt 1); omega) (by have := pj_i32 v3; have := pj_i32 (Int32.ofInt 1); omega)
            refine pj_X_of (fun r h => pj_R_to (G10, 15, [(3, .int z21), (1, .int z20), (4, .int y9), (0, .ref 1), (2, .int v2)], [], 0, 0) 15 2 (fun _ => rfl) h) ?_
            exact pj_X_sub [(0, .ref 1), (1, .int z20), (2, .int v2), (3, .int z21)] (show List.Nodup [0, 1, 2, 3] by decide) ⟨rfl, rfl, rfl, rfl, trivial⟩ (ih G10 iG10 kG10 z20 v2 z21 (pj_i32 _) (pj_i32 _) ⟨by omega, by omega⟩ (by omega))
theorem ct_155 (G0 : pj_G) (hI : pj_Inv G0) : pj_Y 5 155 [.ref 1] G0 (fun v G' => ∃ y : Int32, v = some (.int y) ∧ pj_Inv G' ∧ pj_kpt kc_155 G0 G' ∧ ((-2147483648 : Int) ≤ y.toInt ∧ y.toInt ≤ 2147483647)) := by
  have c0_ : (Int32.ofInt (-1)).toInt = -1 := by decide
  have c1_ : (Int32.ofInt 0).toInt = 0 := by decide
  have c2_ : (Int32.ofInt 1).toInt = 1 := by decide
  refine pj_Y_X (M := pj_m155) rfl rfl (Nat.le_of_ble_eq_true rfl) ?_
  have hK : pj_kpt kc_155 G0 G0 := pj_kpt_r _ _
  show pj_X _ _ G0 0 [(0, .ref 1)] [] _
  refine pj_X_of (fun r h => pj_R_to (G0, 3, [(1, .int (Int32.ofInt 0)), (0, .ref 1)], [.ref 1], 0, 0) 3 4 (fun _ => rfl) h) ?_
  refine pj_X_of (fun r h => pj_T_gr hI rfl rfl rfl h) ?_
  refine pj_X_of (fun r h => pj_T_gr hI rfl rfl rfl h) ?_
  refine pj_X_of (fun r h => pj_T_gi hI rfl rfl h) ?_
  show pj_X _ _ G0 12 [(1, .int (Int32.ofInt 0)), (0, .ref 1)] [.int (pj_fi G0 21 7)] _
  obtain ⟨y22, hy22⟩ : ∃ z : Int32, z = pj_fi G0 21 7 := ⟨_, rfl⟩
  rw [← hy22]
  have ey22 : (pj_fi G0 21 7).toInt = y22.toInt := by rw [hy22]
  refine pj_X_of (fun r h => pj_R_to (G0, 15, [(3, .int (Int32.ofInt 0)), (2, .int y22), (1, .int (Int32.ofInt 0)), (0, .ref 1)], [], 0, 0) 15 4 (fun _ => rfl) h) ?_
  exact pj_X_sub [(0, .ref 1), (1, .int (Int32.ofInt 0)), (2, .int y22), (3, .int (Int32.ofInt 0))] (show List.Nodup [0, 1, 2, 3] by decide) ⟨rfl, rfl, rfl, rfl, trivial⟩ ((lp_ct_155 G0 hI   7) G0 hI hK (Int32.ofInt 0) y22 (Int32.ofInt 0) (pj_i32 _) (pj_i32 _) ⟨by omega, by omega⟩ (by omega))
def kc_156 : pj_KT := ([(4, 1), (39, 0), (39, 5), (39, 7), (39, 8)], [4, 5, 39, 40, 41, 42, 43, 44], [40, 41, 42, 43, 44])
theorem ct_156 (G0 : pj_G) (hI : pj_Inv G0) (sd : Int32) (n : Int32) : pj_Y 7 156 [.ref 1, .int sd, .int n] G0 (fun v G' => ∃ y : Int32, v = some (.int y) ∧ pj_Inv G' ∧ pj_kpt kc_156 G0 G' ∧ ((-2147483648 : Int) ≤ y.toInt ∧ y.toInt ≤ 2147483647)) := by
  have c0_ : ((Int8.ofInt 60).toInt32).toInt = 60 := by decide
  have c1_ : (Int32.ofInt (-1)).toInt = -1 := by decide
  have c2_ : (Int32.ofInt 1).toInt = 1 := by decide
  refine pj_Y_X (M := pj_m156) rfl rfl (Nat.le_of_ble_eq_true rfl) ?_
  have hK : pj_kpt kc_156 G0 G0 := pj_kpt_r _ _
  show pj_X _ _ G0 0 [(0, .ref 1), (1, .int sd), (2, .int n)] [] _
  refine pj_X_of (fun r h => pj_R_to (G0, 2, [(0, .ref 1), (1, .int sd), (2, .int n)], [.int (Int32.ofInt 1), .int n], 0, 0) 2 3 (fun _ => rfl) h) ?_
  cases b1 : pj_c1 .lt n (Int32.ofInt 1) with
  | true =>
    have ub1 := pj_u_ltT b1
    refine pj_X_of (fun r h => pj_R_icT 24 rfl rfl b1 h) ?_
    refine pj_X_of (fun r h => pj_R_to (G0, 25, [(0, .ref 1), (1, .int sd), (2, .int n)], [.int (Int32.ofInt (-1))], 0, 0) 25 2 (fun _ => rfl) h) ?_
    exact pj_X_rt rfl rfl ⟨_, rfl, hI, hK, pj_i32 _⟩
  | false =>
    have ub1 := pj_u_ltF b1
    refine pj_X_of (fun r h => pj_R_icF rfl b1 h) ?_
    refine pj_X_of (fun r h => pj_R_to (G0, 8, [(0, .ref 1), (1, .int sd), (2, .int n)], [.int ((Int8.ofInt 60).toInt32), .int n], 0, 0) 8 3 (fun _ => rfl) h) ?_
    cases b2 : pj_c1 .gt n ((Int8.ofInt 60).toInt32) with
    | true =>
      have ub2 := pj_u_gtT b2
      refine pj_X_of (fun r h => pj_R_icT 24 rfl rfl b2 h) ?_
      refine pj_X_of (fun r h => pj_R_to (G0, 25, [(0, .ref 1), (1, .int sd), (2, .int n)], [.int (Int32.ofInt (-1))], 0, 0) 25 2 (fun _ => rfl) h) ?_
      exact pj_X_rt rfl rfl ⟨_, rfl, hI, hK, pj_i32 _⟩
    | false =>
      have ub2 := pj_u_gtF b2
      refine pj_X_of (fun r h => pj_R_icF rfl b2 h) ?_
      refine pj_X_of (fun r h => pj_R_to (G0, 12, [(0, .ref 1), (1, .int sd), (2, .int n)], [.ref 1], 0, 0) 12 2 (fun _ => rfl) h) ?_
      refine pj_X_of (fun r h => pj_T_gr hI rfl rfl rfl h) ?_
      refine pj_X_of (fun r h => pj_T_gr hI rfl rfl rfl h) ?_
      refine pj_X_of (fun r h => pj_T_gi hI rfl rfl h) ?_
      show pj_X _ _ G0 21 [(0, .ref 1), (1, .int sd), (2, .int n)] [.int (pj_fi G0 21 0)] _
      obtain ⟨y3, hy3⟩ : ∃ z : Int32, z = pj_fi G0 21 0 := ⟨_, rfl⟩
      rw [← hy3]
      have ey3 : (pj_fi G0 21 0).toInt = y3.toInt := by rw [hy3]
      have ry3 : (0 : Int) ≤ y3.toInt ∧ y3.toInt ≤ 6 := by rw [hy3]; exact hI.2.1 21 0 (0, 6) rfl
      cases b4 : pj_c1 .ne y3 0 with
      | true =>
        have ub4 := pj_u0_neT b4
        refine pj_X_of (fun r h => pj_R_ifT 26 rfl rfl b4 h) ?_
        refine pj_X_of (fun r h => pj_R_to (G0, 27, [(0, .ref 1), (1, .int sd), (2, .int n)], [.ref 1], 0, 0) 27 2 (fun _ => rfl) h) ?_
        refine pj_X_of (fun r h => pj_T_gr hI rfl rfl rfl h) ?_
        refine pj_X_of (fun r h => pj_R_to (G0, 31, [(0, .ref 1), (1, .int sd), (2, .int n)], [.ref 1, .ref 38], 0, 0) 31 2 (fun _ => rfl) h) ?_
        refine pj_X_of (fun r h => pj_T_gr hI rfl rfl rfl h) ?_
        refine pj_X_of (fun r h => pj_R_to (G0, 36, [(0, .ref 1), (1, .int sd), (2, .int n)], [.int n, .int sd, .ref 4, .ref 38], 0, 0) 36 3 (fun _ => rfl) h) ?_
        refine pj_X_ca (vs := [.ref 38, .ref 4, .int sd, .int n]) rfl (fun _ => rfl) ⟨Nat.le_of_ble_eq_true rfl, Nat.le_of_ble_eq_true rfl, pj_T_rcv hI rfl⟩ ⟨rfl, rfl⟩ (pj_Y_up (by decide) (ct_12 G0 hI sd n ⟨by omega, by omega⟩)) ?_
        rintro _ G6 ⟨y5, rfl, iG6, jG6, ry5⟩
        have kG6 : pj_kpt kc_156 G0 G6 := pj_kpt_t hK (pj_kpt_s jG6 rfl)
        show pj_X _ _ G6 39 [(0, .ref 1), (1, .int sd), (2, .int n)] [.int y5] _
        exact pj_X_rt rfl rfl ⟨_, rfl, iG6, kG6, pj_i32 _⟩
      | false =>
        have ub4 := pj_u0_neF b4
        refine pj_X_of (fun r h => pj_R_ifF rfl b4 h) ?_
        refine pj_X_of (fun r h => pj_R_to (G0, 25, [(0, .ref 1), (1, .int sd), (2, .int n)], [.int (Int32.ofInt (-1))], 0, 0) 25 2 (fun _ => rfl) h) ?_
        exact pj_X_rt rfl rfl ⟨_, rfl, hI, hK, pj_i32 _⟩
def kc_157 : pj_KT := ([(153, 0), (153, 5), (153, 7), (153, 8), (159, 0), (159, 5), (159, 7), (159, 8), (165, 0), (165, 5), (165, 7), (165, 8)], [56, 153, 154, 155, 156, 157, 158, 159, 160, 161, 162, 163, 164, 165, 166, 167, 168, 169, 170], [56, 154, 155, 156, 157, 158, 160, 161, 162, 163, 164, 166, 167, 168, 169, 170])
theorem ct_157 (G0 : pj_G) (hI : pj_Inv G0) (i : Int32) : pj_Y 3 157 [.ref 1, .int i] G0 (fun v G' => ∃ y : Int32, v = some (.int y) ∧ pj_Inv G' ∧ pj_kpt kc_157 G0 G' ∧ ((0 : Int) ≤ y.toInt ∧ y.toInt ≤ 1)) := by
  refine pj_Y_X (M := pj_m157) rfl rfl (Nat.le_of_ble_eq_true rfl) ?_
  have hK : pj_kpt kc_157 G0 G0 := pj_kpt_r _ _
  show pj_X _ _ G0 0 [(0, .ref 1), (1, .int i)] [] _
  refine pj_X_of (fun r h => pj_R_to (G0, 1, [(0, .ref 1), (1, .int i)], [.ref 1], 0, 0) 1 2 (fun _ => rfl) h) ?_
  refine pj_X_of (fun r h => pj_T_gr hI rfl rfl rfl h) ?_
  refine pj_X_of (fun r h => pj_R_to (G0, 6, [(0, .ref 1), (1, .int i)], [.ref 1, .int i, .ref 53], 0, 0) 6 3 (fun _ => rfl) h) ?_
  refine pj_X_of (fun r h => pj_T_gr hI rfl rfl rfl h) ?_
  refine pj_X_of (fun r h => pj_T_gr hI rfl rfl rfl h) ?_
  refine pj_X_ca (vs := [.ref 53, .int i, .ref 21]) rfl (fun _ => rfl) ⟨Nat.le_of_ble_eq_true rfl, Nat.le_of_ble_eq_true rfl, pj_T_rcv hI rfl⟩ ⟨rfl, rfl⟩ (pj_Y_up (by decide) (ct_38 G0 hI i)) ?_
  rintro _ G2 ⟨y1, rfl, iG2, jG2, ry1⟩
  have kG2 : pj_kpt kc_157 G0 G2 := pj_kpt_t hK (pj_kpt_s jG2 rfl)
  show pj_X _ _ G2 15 [(0, .ref 1), (1, .int i)] [.int y1] _
  exact pj_X_rt (v := some (.int y1)) rfl (pj_rtb ⟨by omega, by omega⟩) ⟨_, rfl, iG2, kG2, ⟨by omega, by omega⟩⟩
def kc_158 : pj_KT := ([(21, 0), (21, 5), (21, 7), (21, 8), (53, 2)], [21, 22, 23, 24, 25, 26, 53], [22, 23, 24, 25, 26])
theorem ct_158 (G0 : pj_G) (hI : pj_Inv G0) (i : Int32) : pj_Y 3 158 [.ref 1, .int i] G0 (fun v G' => ∃ y : Int32, v = some (.int y) ∧ pj_Inv G' ∧ pj_kpt kc_158 G0 G' ∧ ((0 : Int) ≤ y.toInt ∧ y.toInt ≤ 1)) := by
  have c0_ : (Int32.ofInt 0).toInt = 0 := by decide
  have c1_ : (Int32.ofInt 1).toInt = 1 := by decide
  refine pj_Y_X (M := pj_m158) rfl rfl (Nat.le_of_ble_eq_true rfl) ?_
  have hK : pj_kpt kc_158 G0 G0 := pj_kpt_r _ _
  show pj_X _ _ G0 0 [(0, .ref 1), (1, .int i)] [] _
  refine pj_X_of (fun r h => pj_R_to (G0, 1, [(0, .ref 1), (1, .int i)], [.ref 1], 0, 0) 1 2 (fun _ => rfl) h) ?_
  refine pj_X_of (fun r h => pj_T_gr hI rfl rfl rfl h) ?_
  refine pj_X_of (fun r h => pj_R_to (G0, 6, [(0, .ref 1), (1, .int i)], [.ref 1, .int i, .ref 53], 0, 0) 6 3 (fun _ => rfl) h) ?_
  refine pj_X_of (fun r h => pj_T_gr hI rfl rfl rfl h) ?_
  refine pj_X_of (fun r h => pj_T_gr hI rfl rfl rfl h) ?_
  refine pj_X_ca (vs := [.ref 53, .int i, .ref 21]) rfl (fun _ => rfl) ⟨Nat.le_of_ble_eq_true rfl, Nat.le_of_ble_eq_true rfl, pj_T_rcv hI rfl⟩ ⟨rfl, rfl⟩ (pj_Y_up (by decide) (ct_39 G0 hI i)) ?_
  rintro _ _ ⟨y1, rfl, rfl, ry1, ey1⟩
  show pj_X _ _ G0 15 [(0, .ref 1), (1, .int i)] [.int y1] _
  cases b2 : pj_c1 .ne y1 0 with
  | true =>
    have ub2 := pj_u0_neT b2
    refine pj_X_of (fun r h => pj_R_ifT 20 rfl rfl b2 h) ?_
    refine pj_X_of (fun r h => pj_R_to (G0, 21, [(0, .ref 1), (1, .int i)], [.ref 1], 0, 0) 21 2 (fun _ => rfl) h) ?_
    refine pj_X_of (fun r h => pj_T_gr hI rfl rfl rfl h) ?_
    refine pj_X_of (fun r h => pj_T_gr hI rfl rfl rfl h) ?_
    refine pj_X_of (fun r h => pj_R_to (G0, 28, [(0, .ref 1), (1, .int i)], [.ref 1, .ref 21], 0, 0) 28 2 (fun _ => rfl) h) ?_
    refine pj_X_of (fun r h => pj_T_gr hI rfl rfl rfl h) ?_
    refine pj_X_of (fun r h => pj_T_gr hI rfl rfl rfl h) ?_
    refine pj_X_of (fun r h => pj_R_to (G0, 35, [(0, .ref 1), (1, .int i)], [.int i, .ref 55, .ref 21], 0, 0) 35 2 (fun _ => rfl) h) ?_
    by_cases t3 : i.toInt = 0
    · refine pj_X_aa hI rfl rfl (k := 0) (by show _ = ((0 : Nat) : Int); omega) (by decide) rfl ?_
      refine pj_X_ca (vs := [.ref 21, .ref 153]) rfl (fun _ => rfl) ⟨Nat.le_of_ble_eq_true rfl, Nat.le_of_ble_eq_true rfl, pj_T_rcv hI rfl⟩ ⟨rfl, rfl⟩ (pj_Y_up (by decide) (ct_68_21_153x G0 hI)) ?_
      rintro _ G5 ⟨rfl, iG5, jG5, eG5, fy4⟩
      replace eG5 := eG5 _ rfl
      have kG5 : pj_kpt kc_158 G0 G5 := pj_kpt_t hK (pj_kpt_s jG5 rfl)
      show pj_X _ _ G5 39 [(0, .ref 1), (1, .int i)] [] _
      refine pj_X_of (fun r h => pj_R_to (G5, 40, [(0, .ref 1), (1, .int i)], [.ref 1], 0, 0) 40 2 (fun _ => rfl) h) ?_
      refine pj_X_of (fun r h => pj_T_gr iG5 rfl rfl rfl h) ?_
      refine pj_X_ca (vs := [.ref 53]) rfl (fun _ => rfl) ⟨Nat.le_of_ble_eq_true rfl, Nat.le_of_ble_eq_true rfl, pj_T_rcv iG5 rfl⟩ ⟨rfl, rfl⟩ (pj_Y_up (by decide) (ct_36 G5 iG5)) ?_
      rintro _ G7 ⟨rfl, iG7, jG7⟩
      have kG7 : pj_kpt kc_158 G0 G7 := pj_kpt_t kG5 (pj_kpt_s jG7 rfl)
      show pj_X _ _ G7 46 [(0, .ref 1), (1, .int i)] [] _
      refine pj_X_of (fun r h => pj_R_to (G7, 47, [(0, .ref 1), (1, .int i)], [.int (Int32.ofInt 1)], 0, 0) 47 2 (fun _ => rfl) h) ?_
      exact pj_X_rt rfl rfl ⟨_, rfl, iG7, kG7, ⟨by omega, by omega⟩⟩
    by_cases t8 : i.toInt = 1
    · refine pj_X_aa hI rfl rfl (k := 1) (by show _ = ((1 : Nat) : Int); omega) (by decide) rfl ?_
      refine pj_X_ca (vs := [.ref 21, .ref 159]) rfl (fun _ => rfl) ⟨Nat.le_of_ble_eq_true rfl, Nat.le_of_ble_eq_true rfl, pj_T_rcv hI rfl⟩ ⟨rfl, rfl⟩ (pj_Y_up (by decide) (ct_68_21_159x G0 hI)) ?_
      rintro _ G10 ⟨rfl, iG10, jG10, eG10, fy9⟩
      replace eG10 := eG10 _ rfl
      have kG10 : pj_kpt kc_158 G0 G10 := pj_kpt_t hK (pj_kpt_s jG10 rfl)
      show pj_X _ _ G10 39 [(0, .ref 1), (1, .int i)] [] _
      refine pj_X_of (fun r h => pj_R_to (G10, 40, [(0, .ref 1), (1, .int i)], [.ref 1], 0, 0) 40 2 (fun _ => rfl) h) ?_
      refine pj_X_of (fun r h => pj_T_gr iG10 rfl rfl rfl h) ?_
      refine pj_X_ca (vs := [.ref 53]) rfl (fun _ => rfl) ⟨Nat.le_of_ble_eq_true rfl, Nat.le_of_ble_eq_true rfl, pj_T_rcv iG10 rfl⟩ ⟨rfl, rfl⟩ (pj_Y_up (by decide) (ct_36 G10 iG10)) ?_
      rintro _ G12 ⟨rfl, iG12, jG12⟩
      have kG12 : pj_kpt kc_158 G0 G12 := pj_kpt_t kG10 (pj_kpt_s jG12 rfl)
      show pj_X _ _ G12 46 [(0, .ref 1), (1, .int i)] [] _
      refine pj_X_of (fun r h => pj_R_to (G12, 47, [(0, .ref 1), (1, .int i)], [.int (Int32.ofInt 1)], 0, 0) 47 2 (fun _ => rfl) h) ?_
      exact pj_X_rt rfl rfl ⟨_, rfl, iG12, kG12, ⟨by omega, by omega⟩⟩
    · refine pj_X_aa hI rfl rfl (k := 2) (by show _ = ((2 : Nat) : Int); omega) (by decide) rfl ?_
      refine pj_X_ca (vs := [.ref 21, .ref 165]) rfl (fun _ => rfl) ⟨Nat.le_of_ble_eq_true rfl, Nat.le_of_ble_eq_true rfl, pj_T_rcv hI rfl⟩ ⟨rfl, rfl⟩ (pj_Y_up (by decide) (ct_68_21_165x G0 hI)) ?_
      rintro _ G14 ⟨rfl, iG14, jG14, eG14, fy13⟩
      replace eG14 := eG14 _ rfl
      have kG14 : pj_kpt kc_158 G0 G14 := pj_kpt_t hK (pj_kpt_s jG14 rfl)
      show pj_X _ _ G14 39 [(0, .ref 1), (1, .int i)] [] _
      refine pj_X_of (fun r h => pj_R_to (G14, 40, [(0, .ref 1), (1, .int i)], [.ref 1], 0, 0) 40 2 (fun _ => rfl) h) ?_
      refine pj_X_of (fun r h => pj_T_gr iG14 rfl rfl rfl h) ?_
      refine pj_X_ca (vs := [.ref 53]) rfl (fun _ => rfl) ⟨Nat.le_of_ble_eq_true rfl, Nat.le_of_ble_eq_true rfl, pj_T_rcv iG14 rfl⟩ ⟨rfl, rfl⟩ (pj_Y_up (by decide) (ct_36 G14 iG14)) ?_
      rintro _ G16 ⟨rfl, iG16, jG16⟩
      have kG16 : pj_kpt kc_158 G0 G16 := pj_kpt_t kG14 (pj_kpt_s jG16 rfl)
      show pj_X _ _ G16 46 [(0, .ref 1), (1, .int i)] [] _
      refine pj_X_of (fun r h => pj_R_to (G16, 47, [(0, .ref 1), (1, .int i)], [.int (Int32.ofInt 1)], 0, 0) 47 2 (fun _ => rfl) h) ?_
      exact pj_X_rt rfl rfl ⟨_, rfl, iG16, kG16, ⟨by omega, by omega⟩⟩
  | false =>
    have ub2 := pj_u0_neF b2
    refine pj_X_of (fun r h => pj_R_ifF rfl b2 h) ?_
    refine pj_X_of (fun r h => pj_R_to (G0, 19, [(0, .ref 1), (1, .int i)], [.int (Int32.ofInt 0)], 0, 0) 19 2 (fun _ => rfl) h) ?_
    exact pj_X_rt rfl rfl ⟨_, rfl, hI, hK, ⟨by omega, by omega⟩⟩
theorem ct_159 (G0 : pj_G) (hI : pj_Inv G0) (w : Int32) : pj_Y 5 159 [.ref 1, .int w] G0 (fun v G' => ∃ y : Int32, v = some (.int y) ∧ G0 = G' ∧ ((-2147483648 : Int) ≤ y.toInt ∧ y.toInt ≤ 2147483647)) := by
  have c0_ : ((Int8.ofInt (-100)).toInt32).toInt = -100 := by decide
  have c1_ : (Int32.ofInt 0).toInt = 0 := by decide
  refine pj_Y_X (M := pj_m159) rfl rfl (Nat.le_of_ble_eq_true rfl) ?_
  have hK : pj_kpt ([], [], []) G0 G0 := pj_kpt_r _ _
  show pj_X _ _ G0 0 [(0, .ref 1), (1, .int w)] [] _
  refine pj_X_of (fun r h => pj_R_to (G0, 1, [(0, .ref 1), (1, .int w)], [.int w], 0, 0) 1 2 (fun _ => rfl) h) ?_
  by_cases t1 : w.toInt = 0
  · refine pj_X_of (fun r h => pj_R_tw 72 rfl (n := 0) t1 rfl h) ?_
    refine pj_X_of (fun r h => pj_R_to (G0, 73, [(0, .ref 1), (1, .int w)], [.ref 1], 0, 0) 73 2 (fun _ => rfl) h) ?_
    refine pj_X_of (fun r h => pj_T_gr hI rfl rfl rfl h) ?_
    refine pj_X_gm hI rfl rfl (fun q2 => ?_) (fun q2 => ?_)
    · refine pj_X_of (fun r h => pj_T_gi hI rfl rfl h) ?_
      show pj_X _ _ G0 82 [(0, .ref 1), (1, .int w)] [.int (pj_fi G0 7 0)] _
      obtain ⟨y3, hy3⟩ : ∃ z : Int32, z = pj_fi G0 7 0 := ⟨_, rfl⟩
      rw [← hy3]
      have ey3 : (pj_fi G0 7 0).toInt = y3.toInt := by rw [hy3]
      have ry3 : (0 : Int) ≤ y3.toInt ∧ y3.toInt ≤ 8 := by rw [hy3]; exact hI.2.1 7 0 (0, 8) rfl
      exact pj_X_rt rfl rfl ⟨_, rfl, rfl, pj_i32 _⟩
    · refine pj_X_of (fun r h => pj_T_gi hI rfl rfl h) ?_
      show pj_X _ _ G0 82 [(0, .ref 1), (1, .int w)] [.int (pj_fi G0 14 0)] _
      obtain ⟨y4, hy4⟩ : ∃ z : Int32, z = pj_fi G0 14 0 := ⟨_, rfl⟩
      rw [← hy4]
      have ey4 : (pj_fi G0 14 0).toInt = y4.toInt := by rw [hy4]
      have ry4 : (0 : Int) ≤ y4.toInt ∧ y4.toInt ≤ 8 := by rw [hy4]; exact hI.2.1 14 0 (0, 8) rfl
      exact pj_X_rt rfl rfl ⟨_, rfl, rfl, pj_i32 _⟩
  by_cases t5 : w.toInt = 1
  · refine pj_X_of (fun r h => pj_R_tw 83 rfl (n := 1) t5 rfl h) ?_
    refine pj_X_of (fun r h => pj_R_to (G0, 84, [(0, .ref 1), (1, .int w)], [.ref 1], 0, 0) 84 2 (fun _ => rfl) h) ?_
    refine pj_X_of (fun r h => pj_T_gr hI rfl rfl rfl h) ?_
    refine pj_X_gm hI rfl rfl (fun q6 => ?_) (fun q6 => ?_)
    · refine pj_X_of (fun r h => pj_T_gi hI rfl rfl h) ?_
      show pj_X _ _ G0 93 [(0, .ref 1), (1, .int w)] [.int (pj_fi G0 7 1)] _
      obtain ⟨y7, hy7⟩ : ∃ z : Int32, z = pj_fi G0 7 1 := ⟨_, rfl⟩
      rw [← hy7]
      have ey7 : (pj_fi G0 7 1).toInt = y7.toInt := by rw [hy7]
      have ry7 : (0 : Int) ≤ y7.toInt ∧ y7.toInt ≤ 10 := by rw [hy7]; exact hI.2.1 7 1 (0, 10) rfl
      exact pj_X_rt rfl rfl ⟨_, rfl, rfl, pj_i32 _⟩
    · refine pj_X_of (fun r h => pj_T_gi hI rfl rfl h) ?_
      show pj_X _ _ G0 93 [(0, .ref 1), (1, .int w)] [.int (pj_fi G0 14 1)] _
      obtain ⟨y8, hy8⟩ : ∃ z : Int32, z = pj_fi G0 14 1 := ⟨_, rfl⟩
      rw [← hy8]
      have ey8 : (pj_fi G0 14 1).toInt = y8.toInt := by rw [hy8]
      have ry8 : (0 : Int) ≤ y8.toInt ∧ y8.toInt ≤ 10 := by rw [hy8]; exact hI.2.1 14 1 (0, 10) rfl
      exact pj_X_rt rfl rfl ⟨_, rfl, rfl, pj_i32 _⟩
  by_cases t9 : w.toInt = 2
  · refine pj_X_of (fun r h => pj_R_tw 94 rfl (n := 2) t9 rfl h) ?_
    refine pj_X_of (fun r h => pj_R_to (G0, 95, [(0, .ref 1), (1, .int w)], [.ref 1], 0, 0) 95 2 (fun _ => rfl) h) ?_
    refine pj_X_of (fun r h => pj_T_gr hI rfl rfl rfl h) ?_
    refine pj_X_of (fun r h => pj_T_gr hI rfl rfl rfl h) ?_
    refine pj_X_of (fun r h => pj_T_gi hI rfl rfl h) ?_
    show pj_X _ _ G0 104 [(0, .ref 1), (1, .int w)] [.int (pj_fi G0 21 0)] _
    obtain ⟨y10, hy10⟩ : ∃ z : Int32, z = pj_fi G0 21 0 := ⟨_, rfl⟩
    rw [← hy10]
    have ey10 : (pj_fi G0 21 0).toInt = y10.toInt := by rw [hy10]
    have ry10 : (0 : Int) ≤ y10.toInt ∧ y10.toInt ≤ 6 := by rw [hy10]; exact hI.2.1 21 0 (0, 6) rfl
    exact pj_X_rt rfl rfl ⟨_, rfl, rfl, pj_i32 _⟩
  by_cases t11 : w.toInt = 3
  · refine pj_X_of (fun r h => pj_R_tw 105 rfl (n := 3) t11 rfl h) ?_
    refine pj_X_of (fun r h => pj_R_to (G0, 106, [(0, .ref 1), (1, .int w)], [.ref 1], 0, 0) 106 2 (fun _ => rfl) h) ?_
    refine pj_X_of (fun r h => pj_T_gr hI rfl rfl rfl h) ?_
    refine pj_X_of (fun r h => pj_T_gr hI rfl rfl rfl h) ?_
    refine pj_X_of (fun r h => pj_T_gi hI rfl rfl h) ?_
    show pj_X _ _ G0 115 [(0, .ref 1), (1, .int w)] [.int (pj_fi G0 21 5)] _
    obtain ⟨y12, hy12⟩ : ∃ z : Int32, z = pj_fi G0 21 5 := ⟨_, rfl⟩
    rw [← hy12]
    have ey12 : (pj_fi G0 21 5).toInt = y12.toInt := by rw [hy12]
    have ry12 : (0 : Int) ≤ y12.toInt ∧ y12.toInt ≤ 6 := by rw [hy12]; exact hI.2.1 21 5 (0, 6) rfl
    exact pj_X_rt rfl rfl ⟨_, rfl, rfl, pj_i32 _⟩
  by_cases t13 : w.toInt = 4
  · refine pj_X_of (fun r h => pj_R_tw 116 rfl (n := 4) t13 rfl h) ?_
    refine pj_X_of (fun r h => pj_R_to (G0, 117, [(0, .ref 1), (1, .int w)], [.ref 1], 0, 0) 117 2 (fun _ => rfl) h) ?_
    refine pj_X_of (fun r h => pj_T_gr hI rfl rfl rfl h) ?_
    refine pj_X_of (fun r h => pj_T_gr hI rfl rfl rfl h) ?_
    refine pj_X_of (fun r h => pj_T_gi hI rfl rfl h) ?_
    show pj_X _ _ G0 126 [(0, .ref 1), (1, .int w)] [.int (pj_fi G0 21 7)] _
    obtain ⟨y14, hy14⟩ : ∃ z : Int32, z = pj_fi G0 21 7 := ⟨_, rfl⟩
    rw [← hy14]
    have ey14 : (pj_fi G0 21 7).toInt = y14.toInt := by rw [hy14]
    exact pj_X_rt rfl rfl ⟨_, rfl, rfl, pj_i32 _⟩
  by_cases t15 : w.toInt = 5
  · refine pj_X_of (fun r h => pj_R_tw 127 rfl (n := 5) t15 rfl h) ?_
    refine pj_X_of (fun r h => pj_R_to (G0, 128, [(0, .ref 1), (1, .int w)], [.ref 1], 0, 0) 128 2 (fun _ => rfl) h) ?_
    refine pj_X_of (fun r h => pj_T_gr hI rfl rfl rfl h) ?_
    refine pj_X_of (fun r h => pj_T_gr hI rfl rfl rfl h) ?_
    refine pj_X_ca (vs := [.ref 21]) rfl (fun _ => rfl) ⟨Nat.le_of_ble_eq_true rfl, Nat.le_of_ble_eq_true rfl, pj_T_rcv hI rfl⟩ ⟨rfl, rfl⟩ (pj_Y_up (by decide) (ct_73_21 G0 hI)) ?_
    rintro _ _ ⟨y16, rfl, rfl, ry16⟩
    show pj_X _ _ G0 137 [(0, .ref 1), (1, .int w)] [.int y16] _
    exact pj_X_rt rfl rfl ⟨_, rfl, rfl, pj_i32 _⟩
  by_cases t17 : w.toInt = 6
  · refine pj_X_of (fun r h => pj_R_tw 138 rfl (n := 6) t17 rfl h) ?_
    refine pj_X_of (fun r h => pj_R_to (G0, 139, [(0, .ref 1), (1, .int w)], [.ref 1], 0, 0) 139 2 (fun _ => rfl) h) ?_
    refine pj_X_of (fun r h => pj_T_gr hI rfl rfl rfl h) ?_
    refine pj_X_of (fun r h => pj_T_gr hI rfl rfl rfl h) ?_
    refine pj_X_ca (vs := [.ref 21]) rfl (fun _ => rfl) ⟨Nat.le_of_ble_eq_true rfl, Nat.le_of_ble_eq_true rfl, pj_T_rcv hI rfl⟩ ⟨rfl, rfl⟩ (pj_Y_up (by decide) (ct_74_21 G0 hI)) ?_
    rintro _ _ ⟨y18, rfl, rfl, ry18⟩
    show pj_X _ _ G0 148 [(0, .ref 1), (1, .int w)] [.int y18] _
    exact pj_X_rt rfl rfl ⟨_, rfl, rfl, pj_i32 _⟩
  by_cases t19 : w.toInt = 7
  · refine pj_X_of (fun r h => pj_R_tw 149 rfl (n := 7) t19 rfl h) ?_
    refine pj_X_of (fun r h => pj_R_to (G0, 150, [(0, .ref 1), (1, .int w)], [.ref 1], 0, 0) 150 2 (fun _ => rfl) h) ?_
    refine pj_X_of (fun r h => pj_T_gr hI rfl rfl rfl h) ?_
    refine pj_X_of (fun r h => pj_T_gr hI rfl rfl rfl h) ?_
    refine pj_X_ca (vs := [.ref 21]) rfl (fun _ => rfl) ⟨Nat.le_of_ble_eq_true rfl, Nat.le_of_ble_eq_true rfl, pj_T_rcv hI rfl⟩ ⟨rfl, rfl⟩ (pj_Y_up (by decide) (ct_75_21 G0 hI)) ?_
    rintro _ _ ⟨y20, rfl, rfl, ry20⟩
    show pj_X _ _ G0 159 [(0, .ref 1), (1, .int w)] [.int y20] _
    exact pj_X_rt rfl rfl ⟨_, rfl, rfl, pj_i32 _⟩
  by_cases t21 : w.toInt = 8
  · refine pj_X_of (fun r h => pj_R_tw 160 rfl (n := 8) t21 rfl h) ?_
    refine pj_X_of (fun r h => pj_R_to (G0, 161, [(0, .ref 1), (1, .int w)], [.ref 1], 0, 0) 161 2 (fun _ => rfl) h) ?_
    refine pj_X_of (fun r h => pj_T_gr hI rfl rfl rfl h) ?_
    refine pj_X_of (fun r h => pj_T_gr hI rfl rfl rfl h) ?_
    refine pj_X_of (fun r h => pj_T_gi hI rfl rfl h) ?_
    show pj_X _ _ G0 170 [(0, .ref 1), (1, .int w)] [.int (pj_fi G0 21 8)] _
    obtain ⟨y22, hy22⟩ : ∃ z : Int32, z = pj_fi G0 21 8 := ⟨_, rfl⟩
    rw [← hy22]
    have ey22 : (pj_fi G0 21 8).toInt = y22.toInt := by rw [hy22]
    exact pj_X_rt rfl rfl ⟨_, rfl, rfl, pj_i32 _⟩
  by_cases t23 : w.toInt = 9
  · refine pj_X_of (fun r h => pj_R_tw 171 rfl (n := 9) t23 rfl h) ?_
    refine pj_X_of (fun r h => pj_R_to (G0, 172, [(0, .ref 1), (1, .int w)], [.ref 1], 0, 0) 172 2 (fun _ => rfl) h) ?_
    refine pj_X_of (fun r h => pj_T_gr hI rfl rfl rfl h) ?_
    refine pj_X_of (fun r h => pj_T_gi hI rfl rfl h) ?_
    show pj_X _ _ G0 178 [(0, .ref 1), (1, .int w)] [.int (pj_fi G0 46 3)] _
    obtain ⟨y24, hy24⟩ : ∃ z : Int32, z = pj_fi G0 46 3 := ⟨_, rfl⟩
    rw [← hy24]
    have ey24 : (pj_fi G0 46 3).toInt = y24.toInt := by rw [hy24]
    have ry24 : (0 : Int) ≤ y24.toInt ∧ y24.toInt ≤ 12 := by rw [hy24]; exact hI.2.1 46 3 (0, 12) rfl
    exact pj_X_rt rfl rfl ⟨_, rfl, rfl, pj_i32 _⟩
  by_cases t25 : w.toInt = 10
  · refine pj_X_of (fun r h => pj_R_tw 179 rfl (n := 10) t25 rfl h) ?_
    refine pj_X_of (fun r h => pj_R_to (G0, 180, [(0, .ref 1), (1, .int w)], [.ref 1], 0, 0) 180 2 (fun _ => rfl) h) ?_
    refine pj_X_of (fun r h => pj_T_gr hI rfl rfl rfl h) ?_
    refine pj_X_of (fun r h => pj_T_gi hI rfl rfl h) ?_
    show pj_X _ _ G0 186 [(0, .ref 1), (1, .int w)] [.int (pj_fi G0 53 2)] _
    obtain ⟨y26, hy26⟩ : ∃ z : Int32, z = pj_fi G0 53 2 := ⟨_, rfl⟩
    rw [← hy26]
    have ey26 : (pj_fi G0 53 2).toInt = y26.toInt := by rw [hy26]
    have ry26 : (0 : Int) ≤ y26.toInt ∧ y26.toInt ≤ 15 := by rw [hy26]; exact hI.2.1 53 2 (0, 15) rfl
    exact pj_X_rt rfl rfl ⟨_, rfl, rfl, pj_i32 _⟩
  by_cases t27 : w.toInt = 11
  · refine pj_X_of (fun r h => pj_R_tw 187 rfl (n := 11) t27 rfl h) ?_
    refine pj_X_of (fun r h => pj_R_to (G0, 188, [(0, .ref 1), (1, .int w)], [.ref 1], 0, 0) 188 2 (fun _ => rfl) h) ?_
    refine pj_X_of (fun r h => pj_T_gr hI rfl rfl rfl h) ?_
    refine pj_X_of (fun r h => pj_T_gi hI rfl rfl h) ?_
    show pj_X _ _ G0 194 [(0, .ref 1), (1, .int w)] [.int (pj_fi G0 4 1)] _
    obtain ⟨y28, hy28⟩ : ∃ z : Int32, z = pj_fi G0 4 1 := ⟨_, rfl⟩
    rw [← hy28]
    have ey28 : (pj_fi G0 4 1).toInt = y28.toInt := by rw [hy28]
    have ry28 : (0 : Int) ≤ y28.toInt ∧ y28.toInt ≤ 10 := by rw [hy28]; exact hI.2.1 4 1 (0, 10) rfl
    exact pj_X_rt rfl rfl ⟨_, rfl, rfl, pj_i32 _⟩
  by_cases t29 : w.toInt = 12
  · refine pj_X_of (fun r h => pj_R_tw 195 rfl (n := 12) t29 rfl h) ?_
    refine pj_X_of (fun r h => pj_R_to (G0, 196, [(0, .ref 1), (1, .int w)], [.ref 1], 0, 0) 196 2 (fun _ => rfl) h) ?_
    refine pj_X_of (fun r h => pj_T_gr hI rfl rfl rfl h) ?_
    refine pj_X_of (fun r h => pj_T_gi hI rfl rfl h) ?_
    show pj_X _ _ G0 202 [(0, .ref 1), (1, .int w)] [.int (pj_fi G0 2 1)] _
    obtain ⟨y30, hy30⟩ : ∃ z : Int32, z = pj_fi G0 2 1 := ⟨_, rfl⟩
    rw [← hy30]
    have ey30 : (pj_fi G0 2 1).toInt = y30.toInt := by rw [hy30]
    have ry30 : (0 : Int) ≤ y30.toInt ∧ y30.toInt ≤ 80 := by rw [hy30]; exact hI.2.1 2 1 (0, 80) rfl
    exact pj_X_rt rfl rfl ⟨_, rfl, rfl, pj_i32 _⟩
  by_cases t31 : w.toInt = 13
  · refine pj_X_of (fun r h => pj_R_tw 203 rfl (n := 13) t31 rfl h) ?_
    refine pj_X_of (fun r h => pj_R_to (G0, 204, [(0, .ref 1), (1, .int w)], [.ref 1], 0, 0) 204 2 (fun _ => rfl) h) ?_
    refine pj_X_of (fun r h => pj_T_gr hI rfl rfl rfl h) ?_
    refine pj_X_gm hI rfl rfl (fun q32 => ?_) (fun q32 => ?_)
    · refine pj_X_of (fun r h => pj_R_to (G0, 211, [(0, .ref 1), (1, .int w)], [.ref 1, .ref 7], 0, 0) 211 2 (fun _ => rfl) h) ?_
      refine pj_X_of (fun r h => pj_T_gr hI rfl rfl rfl h) ?_
      refine pj_X_of (fun r h => pj_R_to (G0, 216, [(0, .ref 1), (1, .int w)], [.int (Int32.ofInt 0), .int (Int32.ofInt 0), .ref 6, .ref 7], 0, 0) 216 3 (fun _ => rfl) h) ?_
      refine pj_X_ca (vs := [.ref 6, .int (Int32.ofInt 0), .int (Int32.ofInt 0)]) rfl (fun _ => rfl) ⟨Nat.le_of_ble_eq_true rfl, Nat.le_of_ble_eq_true rfl, pj_T_rcv hI rfl⟩ ⟨rfl, rfl⟩ (pj_Y_up (by decide) (ct_108 G0 hI (Int32.ofInt 0) (Int32.ofInt 0))) ?_
      rintro _ _ ⟨y33, rfl, rfl, ry33⟩
      show pj_X _ _ G0 219 [(0, .ref 1), (1, .int w)] [.int y33, .ref 7] _
      refine pj_X_ca (vs := [.ref 7, .int y33]) rfl (fun _ => rfl) ⟨Nat.le_of_ble_eq_true rfl, Nat.le_of_ble_eq_true rfl, pj_T_rcv hI rfl⟩ ⟨rfl, rfl⟩ (pj_Y_up (by decide) (ct_49_7 G0 hI y33)) ?_
      rintro _ _ ⟨y34, rfl, rfl, ry34⟩
      show pj_X _ _ G0 222 [(0, .ref 1), (1, .int w)] [.int y34] _
      exact pj_X_rt rfl rfl ⟨_, rfl, rfl, pj_i32 _⟩
    · refine pj_X_of (fun r h => pj_R_to (G0, 211, [(0, .ref 1), (1, .int w)], [.ref 1, .ref 14], 0, 0) 211 2 (fun _ => rfl) h) ?_
      refine pj_X_of (fun r h => pj_T_gr hI rfl rfl rfl h) ?_
      refine pj_X_of (fun r h => pj_R_to (G0, 216, [(0, .ref 1), (1, .int w)], [.int (Int32.ofInt 0), .int (Int32.ofInt 0), .ref 6, .ref 14], 0, 0) 216 3 (fun _ => rfl) h) ?_
      refine pj_X_ca (vs := [.ref 6, .int (Int32.ofInt 0), .int (Int32.ofInt 0)]) rfl (fun _ => rfl) ⟨Nat.le_of_ble_eq_true rfl, Nat.le_of_ble_eq_true rfl, pj_T_rcv hI rfl⟩ ⟨rfl, rfl⟩ (pj_Y_up (by decide) (ct_108 G0 hI (Int32.ofInt 0) (Int32.ofInt 0))) ?_
      rintro _ _ ⟨y35, rfl, rfl, ry35⟩
      show pj_X _ _ G0 219 [(0, .ref 1), (1, .int w)] [.int y35, .ref 14] _
      refine pj_X_ca (vs := [.ref 14, .int y35]) rfl (fun _ => rfl) ⟨Nat.le_of_ble_eq_true rfl, Nat.le_of_ble_eq_true rfl, pj_T_rcv hI rfl⟩ ⟨rfl, rfl⟩ (pj_Y_up (by decide) (ct_49_14 G0 hI y35)) ?_
      rintro _ _ ⟨y36, rfl, rfl, ry36⟩
      show pj_X _ _ G0 222 [(0, .ref 1), (1, .int w)] [.int y36] _
      exact pj_X_rt rfl rfl ⟨_, rfl, rfl, pj_i32 _⟩
  refine pj_X_of (fun r h => pj_R_td 223 rfl (by omega) rfl h) ?_
  refine pj_X_of (fun r h => pj_R_to (G0, 225, [(0, .ref 1), (1, .int w)], [.int ((Int8.ofInt (-100)).toInt32)], 0, 0) 225 2 (fun _ => rfl) h) ?_
  exact pj_X_rt rfl rfl ⟨_, rfl, rfl, pj_i32 _⟩
