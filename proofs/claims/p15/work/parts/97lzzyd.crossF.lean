def kc_130nx : pj_KT := ([(53, 1), (53, 2), (57, 0), (57, 5), (57, 7), (57, 8), (63, 0), (63, 5), (63, 7), (63, 8), (69, 0), (69, 5), (69, 7), (69, 8), (75, 0), (75, 5), (75, 7), (75, 8), (81, 0), (81, 5), (81, 7), (81, 8), (87, 0), (87, 5), (87, 7), (87, 8), (93, 0), (93, 5), (93, 7), (93, 8), (99, 0), (99, 5), (99, 7), (99, 8), (105, 0), (105, 5), (105, 7), (105, 8), (111, 0), (111, 5), (111, 7), (111, 8), (117, 0), (117, 5), (117, 7), (117, 8), (123, 0), (123, 5), (123, 7), (123, 8), (129, 0), (129, 5), (129, 7), (129, 8), (135, 0), (135, 5), (135, 7), (135, 8), (141, 0), (141, 5), (141, 7), (141, 8), (147, 0), (147, 5), (147, 7), (147, 8)], [24, 26, 53, 57, 58, 59, 60, 61, 62, 63, 64, 65, 66, 67, 68, 69, 70, 71, 72, 73, 74, 75, 76, 77, 78, 79, 80, 81, 82, 83, 84, 85, 86, 87, 88, 89, 90, 91, 92, 93, 94, 95, 96, 97, 98, 99, 100, 101, 102, 103, 104, 105, 106, 107, 108, 109, 110, 111, 112, 113, 114, 115, 116, 117, 118, 119, 120, 121, 122, 123, 124, 125, 126, 127, 128, 129, 130, 131, 132, 133, 134, 135, 136, 137, 138, 139, 140, 141, 142, 143, 144, 145, 146, 147, 148, 149, 150, 151, 152], [24, 26, 58, 59, 60, 61, 62, 64, 65, 66, 67, 68, 70, 71, 72, 73, 74, 76, 77, 78, 79, 80, 82, 83, 84, 85, 86, 88, 89, 90, 91, 92, 94, 95, 96, 97, 98, 100, 101, 102, 103, 104, 106, 107, 108, 109, 110, 112, 113, 114, 115, 116, 118, 119, 120, 121, 122, 124, 125, 126, 127, 128, 130, 131, 132, 133, 134, 136, 137, 138, 139, 140, 142, 143, 144, 145, 146, 148, 149, 150, 151, 152])
noncomputable def F_130nx (G0 : pj_G) (p : Int32) (c : Int32) : Int32 × pj_G := pj_nm (F_33nx G0) (fun G2 => pj_bd (F_104x G2 p c) (fun y3 G4 => cond (pj_c1 .lt y3 0) (pj_nm (F_34nx G4 (Int32.ofInt 0)) (fun G7 => (y3, G7))) (pj_nm (F_34nx G4 (Int32.ofInt 1)) (fun G9 => (y3, G9)))))
theorem F_130nx_e (G0 : pj_G) (p : Int32) (c : Int32) : F_130nx G0 p c = pj_nm (F_33nx G0) (fun G2 => pj_bd (F_104x G2 p c) (fun y3 G4 => cond (pj_c1 .lt y3 0) (pj_nm (F_34nx G4 (Int32.ofInt 0)) (fun G7 => (y3, G7))) (pj_nm (F_34nx G4 (Int32.ofInt 1)) (fun G9 => (y3, G9))))) := rfl
theorem ct_130nx (G0 : pj_G) (hI : pj_Inv G0) (p : Int32) (c : Int32) : pj_Y 5 130 [.ref 1, .int p, .int c] G0 (fun v' G' => ∃ y : Int32, v' = some (.int y) ∧ pj_Inv G' ∧ pj_kpt kc_130nx G0 G' ∧ ((-2147483648 : Int) ≤ y.toInt ∧ y.toInt ≤ 2147483647) ∧ (∀ H, G0 = H → (mr_PC H G')) ∧ ((y, G') = F_130nx G0 p c)) := by
  have c0_ : (Int32.ofInt 0).toInt = 0 := by decide
  have c1_ : (Int32.ofInt 1).toInt = 1 := by decide
  refine pj_Y_X (M := pj_m130) rfl rfl (Nat.le_of_ble_eq_true rfl) ?_
  have hK : pj_kpt kc_130nx G0 G0 := pj_kpt_r _ _
  show pj_X _ _ G0 0 [(0, .ref 1), (1, .int p), (2, .int c)] [] _
  rw [F_130nx_e]
  refine pj_X_of (fun r h => pj_R_to (G0, 1, [(0, .ref 1), (1, .int p), (2, .int c)], [.ref 1], 0, 0) 1 2 (fun _ => rfl) h) ?_
  refine pj_X_of (fun r h => pj_T_gr hI rfl rfl rfl h) ?_
  refine pj_X_of (fun r h => pj_R_to (G0, 5, [(0, .ref 1), (1, .int p), (2, .int c)], [.ref 1, .ref 53], 0, 0) 5 2 (fun _ => rfl) h) ?_
  refine pj_X_of (fun r h => pj_T_gr hI rfl rfl rfl h) ?_
  refine pj_X_of (fun r h => pj_T_gr hI rfl rfl rfl h) ?_
  refine pj_X_ca (vs := [.ref 53, .ref 21]) rfl (fun _ => rfl) ⟨Nat.le_of_ble_eq_true rfl, Nat.le_of_ble_eq_true rfl, pj_T_rcv hI rfl⟩ ⟨rfl, rfl⟩ (pj_Y_up (by decide) (ct_33nx G0 hI)) ?_
  rintro _ G2 ⟨rfl, iG2, jG2, eG2, fy1⟩
  replace eG2 := eG2 _ rfl
  rw [← fy1, pj_nm_e]
  have kG2 : pj_kpt kc_130nx G0 G2 := pj_kpt_t hK (pj_kpt_s jG2 rfl)
  show pj_X _ _ G2 14 [(0, .ref 1), (1, .int p), (2, .int c)] [] _
  refine pj_X_of (fun r h => pj_R_to (G2, 15, [(0, .ref 1), (1, .int p), (2, .int c)], [.ref 1], 0, 0) 15 2 (fun _ => rfl) h) ?_
  refine pj_X_of (fun r h => pj_T_gr iG2 rfl rfl rfl h) ?_
  refine pj_X_of (fun r h => pj_R_to (G2, 20, [(0, .ref 1), (1, .int p), (2, .int c)], [.int c, .int p, .ref 6], 0, 0) 20 3 (fun _ => rfl) h) ?_
  refine pj_X_ca (vs := [.ref 6, .int p, .int c]) rfl (fun _ => rfl) ⟨Nat.le_of_ble_eq_true rfl, Nat.le_of_ble_eq_true rfl, pj_T_rcv iG2 rfl⟩ ⟨rfl, rfl⟩ (pj_Y_up (by decide) (ct_104x G2 iG2 p c)) ?_
  rintro _ G4 ⟨y3, rfl, iG4, jG4, ry3, fy3⟩
  rw [← fy3, pj_bd_e]
  have kG4 : pj_kpt kc_130nx G0 G4 := pj_kpt_t kG2 (pj_kpt_s jG4 rfl)
  show pj_X _ _ G4 23 [(0, .ref 1), (1, .int p), (2, .int c)] [.int y3] _
  refine pj_X_of (fun r h => pj_R_to (G4, 25, [(3, .int y3), (0, .ref 1), (1, .int p), (2, .int c)], [.ref 1], 0, 0) 25 3 (fun _ => rfl) h) ?_
  refine pj_X_of (fun r h => pj_T_gr iG4 rfl rfl rfl h) ?_
  refine pj_X_of (fun r h => pj_R_to (G4, 29, [(3, .int y3), (0, .ref 1), (1, .int p), (2, .int c)], [.int y3, .ref 53], 0, 0) 29 2 (fun _ => rfl) h) ?_
  cases b5 : pj_c1 .lt y3 0 with
  | true =>
    rw [pj_cT]
    have ub5 := pj_u0_ltT b5
    refine pj_X_of (fun r h => pj_R_ifT 36 rfl rfl b5 h) ?_
    refine pj_X_of (fun r h => pj_R_to (G4, 37, [(3, .int y3), (0, .ref 1), (1, .int p), (2, .int c)], [.int (Int32.ofInt 0), .ref 53], 0, 0) 37 2 (fun _ => rfl) h) ?_
    refine pj_X_ca (vs := [.ref 53, .int (Int32.ofInt 0)]) rfl (fun _ => rfl) ⟨Nat.le_of_ble_eq_true rfl, Nat.le_of_ble_eq_true rfl, pj_T_rcv iG4 rfl⟩ ⟨rfl, rfl⟩ (pj_Y_up (by decide) (ct_34nx G4 iG4 (Int32.ofInt 0) ⟨by omega, by omega⟩)) ?_
    rintro _ G7 ⟨rfl, iG7, jG7, eG7, fy6⟩
    replace eG7 := eG7 _ rfl
    rw [← fy6, pj_nm_e]
    have kG7 : pj_kpt kc_130nx G0 G7 := pj_kpt_t kG4 (pj_kpt_s jG7 rfl)
    show pj_X _ _ G7 40 [(3, .int y3), (0, .ref 1), (1, .int p), (2, .int c)] [] _
    refine pj_X_of (fun r h => pj_R_to (G7, 41, [(3, .int y3), (0, .ref 1), (1, .int p), (2, .int c)], [.int y3], 0, 0) 41 2 (fun _ => rfl) h) ?_
    exact pj_X_rt rfl rfl ⟨_, rfl, iG7, kG7, pj_i32 _, (fun H hH => by subst hH; exact (mr_deed hI eG2 jG2 rfl jG4 rfl jG7 rfl (by omega))), rfl⟩
  | false =>
    rw [pj_cF]
    have ub5 := pj_u0_ltF b5
    refine pj_X_of (fun r h => pj_R_ifF rfl b5 h) ?_
    refine pj_X_of (fun r h => pj_R_to (G4, 37, [(3, .int y3), (0, .ref 1), (1, .int p), (2, .int c)], [.int (Int32.ofInt 1), .ref 53], 0, 0) 37 3 (fun _ => rfl) h) ?_
    refine pj_X_ca (vs := [.ref 53, .int (Int32.ofInt 1)]) rfl (fun _ => rfl) ⟨Nat.le_of_ble_eq_true rfl, Nat.le_of_ble_eq_true rfl, pj_T_rcv iG4 rfl⟩ ⟨rfl, rfl⟩ (pj_Y_up (by decide) (ct_34nx G4 iG4 (Int32.ofInt 1) ⟨by omega, by omega⟩)) ?_
    rintro _ G9 ⟨rfl, iG9, jG9, eG9, fy8⟩
    replace eG9 := eG9 _ rfl
    rw [← fy8, pj_nm_e]
    have kG9 : pj_kpt kc_130nx G0 G9 := pj_kpt_t kG4 (pj_kpt_s jG9 rfl)
    show pj_X _ _ G9 40 [(3, .int y3), (0, .ref 1), (1, .int p), (2, .int c)] [] _
    refine pj_X_of (fun r h => pj_R_to (G9, 41, [(3, .int y3), (0, .ref 1), (1, .int p), (2, .int c)], [.int y3], 0, 0) 41 2 (fun _ => rfl) h) ?_
    exact pj_X_rt rfl rfl ⟨_, rfl, iG9, kG9, pj_i32 _, (fun H hH => by subst hH; exact (mr_deed hI eG2 jG2 rfl jG4 rfl jG9 rfl (by omega))), rfl⟩
theorem fr_130nx (G0 : pj_G) (hI : pj_Inv G0) (p : Int32) (c : Int32) : pj_Inv (F_130nx G0 p c).2 ∧ pj_kpt kc_130nx G0 (F_130nx G0 p c).2 ∧ (mr_PC G0 (F_130nx G0 p c).2) := by
  obtain ⟨v, G', -, y, -, i, j, r, x, e⟩ := ct_130nx G0 hI p c
  rw [← e]
  exact ⟨i, j, x _ rfl⟩
