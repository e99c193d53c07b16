def kc_131nx : pj_KT := ([(4, 1), (6, 7), (6, 8), (21, 7), (21, 8), (53, 1), (53, 2), (57, 0), (57, 5), (57, 7), (57, 8), (63, 0), (63, 5), (63, 7), (63, 8), (69, 0), (69, 5), (69, 7), (69, 8), (75, 0), (75, 5), (75, 7), (75, 8), (81, 0), (81, 5), (81, 7), (81, 8), (87, 0), (87, 5), (87, 7), (87, 8), (93, 0), (93, 5), (93, 7), (93, 8), (99, 0), (99, 5), (99, 7), (99, 8), (105, 0), (105, 5), (105, 7), (105, 8), (111, 0), (111, 5), (111, 7), (111, 8), (117, 0), (117, 5), (117, 7), (117, 8), (123, 0), (123, 5), (123, 7), (123, 8), (129, 0), (129, 5), (129, 7), (129, 8), (135, 0), (135, 5), (135, 7), (135, 8), (141, 0), (141, 5), (141, 7), (141, 8), (147, 0), (147, 5), (147, 7), (147, 8)], [4, 5, 6, 21, 23, 25, 53, 57, 58, 59, 60, 61, 62, 63, 64, 65, 66, 67, 68, 69, 70, 71, 72, 73, 74, 75, 76, 77, 78, 79, 80, 81, 82, 83, 84, 85, 86, 87, 88, 89, 90, 91, 92, 93, 94, 95, 96, 97, 98, 99, 100, 101, 102, 103, 104, 105, 106, 107, 108, 109, 110, 111, 112, 113, 114, 115, 116, 117, 118, 119, 120, 121, 122, 123, 124, 125, 126, 127, 128, 129, 130, 131, 132, 133, 134, 135, 136, 137, 138, 139, 140, 141, 142, 143, 144, 145, 146, 147, 148, 149, 150, 151, 152], [23, 25, 58, 59, 60, 61, 62, 64, 65, 66, 67, 68, 70, 71, 72, 73, 74, 76, 77, 78, 79, 80, 82, 83, 84, 85, 86, 88, 89, 90, 91, 92, 94, 95, 96, 97, 98, 100, 101, 102, 103, 104, 106, 107, 108, 109, 110, 112, 113, 114, 115, 116, 118, 119, 120, 121, 122, 124, 125, 126, 127, 128, 130, 131, 132, 133, 134, 136, 137, 138, 139, 140, 142, 143, 144, 145, 146, 148, 149, 150, 151, 152])
noncomputable def F_131nx (G0 : pj_G) (n : Int32) : Int32 × pj_G := cond (pj_c1 .lt n 0) ((Int32.ofInt (-1), G0)) (cond (pj_c1 .le n ((Int8.ofInt 99).toInt32)) (pj_nm (F_33nx G0) (fun G4 => pj_nm (F_105x G4 n) (fun G6 => pj_nm (F_34nx G6 (Int32.ofInt 1)) (fun G8 => pj_nm (pj_fi G8 6 7) (fun y9 => pj_nm (pj_fi G8 6 8) (fun y10 => pj_nm (F_56x G8 y9.toInt64 y10.toInt64) (fun G14 => pj_nm (pj_fi G14 21 7) (fun y15 => (y15, G14))))))))) ((Int32.ofInt (-1), G0)))
theorem F_131nx_e (G0 : pj_G) (n : Int32) : F_131nx G0 n = cond (pj_c1 .lt n 0) ((Int32.ofInt (-1), G0)) (cond (pj_c1 .le n ((Int8.ofInt 99).toInt32)) (pj_nm (F_33nx G0) (fun G4 => pj_nm (F_105x G4 n) (fun G6 => pj_nm (F_34nx G6 (Int32.ofInt 1)) (fun G8 => pj_nm (pj_fi G8 6 7) (fun y9 => pj_nm (pj_fi G8 6 8) (fun y10 => pj_nm (F_56x G8 y9.toInt64 y10.toInt64) (fun G14 => pj_nm (pj_fi G14 21 7) (fun y15 => (y15, G14))))))))) ((Int32.ofInt (-1), G0))) := rfl
theorem ct_131nx (G0 : pj_G) (hI : pj_Inv G0) (n : Int32) : pj_Y 5 131 [.ref 1, .int n] G0 (fun v' G' => ∃ y : Int32, v' = some (.int y) ∧ pj_Inv G' ∧ pj_kpt kc_131nx G0 G' ∧ ((-2147483648 : Int) ≤ y.toInt ∧ y.toInt ≤ 2147483647) ∧ (∀ H, G0 = H → (mr_PC H G')) ∧ ((y, G') = F_131nx G0 n)) := by
  have c0_ : ((Int8.ofInt 99).toInt32).toInt = 99 := by decide
  have c1_ : (Int32.ofInt (-1)).toInt = -1 := by decide
  have c2_ : (Int32.ofInt 1).toInt = 1 := by decide
  refine pj_Y_X (M := pj_m131) rfl rfl (Nat.le_of_ble_eq_true rfl) ?_
  have hK : pj_kpt kc_131nx G0 G0 := pj_kpt_r _ _
  show pj_X _ _ G0 0 [(0, .ref 1), (1, .int n)] [] _
  rw [F_131nx_e]
  refine pj_X_of (fun r h => pj_R_to (G0, 1, [(0, .ref 1), (1, .int n)], [.int n], 0, 0) 1 2 (fun _ => rfl) h) ?_
  cases b1 : pj_c1 .lt n 0 with
  | true =>
    rw [pj_cT]
    have ub1 := pj_u0_ltT b1
    refine pj_X_of (fun r h => pj_R_ifT 10 rfl rfl b1 h) ?_
    refine pj_X_of (fun r h => pj_R_to (G0, 11, [(0, .ref 1), (1, .int n)], [.int (Int32.ofInt (-1))], 0, 0) 11 2 (fun _ => rfl) h) ?_
    exact pj_X_rt rfl rfl ⟨_, rfl, hI, hK, pj_i32 _, (fun H hH => by subst hH; exact (mr_PC_r _)), rfl⟩
  | false =>
    rw [pj_cF]
    have ub1 := pj_u0_ltF b1
    refine pj_X_of (fun r h => pj_R_ifF rfl b1 h) ?_
    refine pj_X_of (fun r h => pj_R_to (G0, 7, [(0, .ref 1), (1, .int n)], [.int ((Int8.ofInt 99).toInt32), .int n], 0, 0) 7 3 (fun _ => rfl) h) ?_
    cases b2 : pj_c1 .le n ((Int8.ofInt 99).toInt32) with
    | true =>
      rw [pj_cT]
      have ub2 := pj_u_leT b2
      refine pj_X_of (fun r h => pj_R_icT 12 rfl rfl b2 h) ?_
      refine pj_X_of (fun r h => pj_R_to (G0, 13, [(0, .ref 1), (1, .int n)], [.ref 1], 0, 0) 13 2 (fun _ => rfl) h) ?_
      refine pj_X_of (fun r h => pj_T_gr hI rfl rfl rfl h) ?_
      refine pj_X_of (fun r h => pj_R_to (G0, 17, [(0, .ref 1), (1, .int n)], [.ref 1, .ref 53], 0, 0) 17 2 (fun _ => rfl) h) ?_
      refine pj_X_of (fun r h => pj_T_gr hI rfl rfl rfl h) ?_
      refine pj_X_of (fun r h => pj_T_gr hI rfl rfl rfl h) ?_
      refine pj_X_ca (vs := [.ref 53, .ref 21]) rfl (fun _ => rfl) ⟨Nat.le_of_ble_eq_true rfl, Nat.le_of_ble_eq_true rfl, pj_T_rcv hI rfl⟩ ⟨rfl, rfl⟩ (pj_Y_up (by decide) (ct_33nx G0 hI)) ?_
      rintro _ G4 ⟨rfl, iG4, jG4, eG4, fy3⟩
      replace eG4 := eG4 _ rfl
      rw [← fy3, pj_nm_e]
      have kG4 : pj_kpt kc_131nx G0 G4 := pj_kpt_t hK (pj_kpt_s jG4 rfl)
      show pj_X _ _ G4 26 [(0, .ref 1), (1, .int n)] [] _
      refine pj_X_of (fun r h => pj_R_to (G4, 27, [(0, .ref 1), (1, .int n)], [.ref 1], 0, 0) 27 2 (fun _ => rfl) h) ?_
      refine pj_X_of (fun r h => pj_T_gr iG4 rfl rfl rfl h) ?_
      refine pj_X_of (fun r h => pj_R_to (G4, 31, [(0, .ref 1), (1, .int n)], [.int n, .ref 6], 0, 0) 31 2 (fun _ => rfl) h) ?_
      refine pj_X_ca (vs := [.ref 6, .int n]) rfl (fun _ => rfl) ⟨Nat.le_of_ble_eq_true rfl, Nat.le_of_ble_eq_true rfl, pj_T_rcv iG4 rfl⟩ ⟨rfl, rfl⟩ (pj_Y_up (by decide) (ct_105x G4 iG4 n ⟨by omega, by omega⟩)) ?_
      rintro _ G6 ⟨rfl, iG6, jG6, fy5⟩
      rw [← fy5, pj_nm_e]
      have kG6 : pj_kpt kc_131nx G0 G6 := pj_kpt_t kG4 (pj_kpt_s jG6 rfl)
      show pj_X _ _ G6 34 [(0, .ref 1), (1, .int n)] [] _
      refine pj_X_of (fun r h => pj_R_to (G6, 35, [(0, .ref 1), (1, .int n)], [.ref 1], 0, 0) 35 2 (fun _ => rfl) h) ?_
      refine pj_X_of (fun r h => pj_T_gr iG6 rfl rfl rfl h) ?_
      refine pj_X_of (fun r h => pj_R_to (G6, 39, [(0, .ref 1), (1, .int n)], [.int (Int32.ofInt 1), .ref 53], 0, 0) 39 2 (fun _ => rfl) h) ?_
      refine pj_X_ca (vs := [.ref 53, .int (Int32.ofInt 1)]) rfl (fun _ => rfl) ⟨Nat.le_of_ble_eq_true rfl, Nat.le_of_ble_eq_true rfl, pj_T_rcv iG6 rfl⟩ ⟨rfl, rfl⟩ (pj_Y_up (by decide) (ct_34nx G6 iG6 (Int32.ofInt 1) ⟨by omega, by omega⟩)) ?_
      rintro _ G8 ⟨rfl, iG8, jG8, eG8, fy7⟩
      replace eG8 := eG8 _ rfl
      rw [← fy7, pj_nm_e]
      have kG8 : pj_kpt kc_131nx G0 G8 := pj_kpt_t kG6 (pj_kpt_s jG8 rfl)
      show pj_X _ _ G8 42 [(0, .ref 1), (1, .int n)] [] _
      refine pj_X_of (fun r h => pj_R_to (G8, 43, [(0, .ref 1), (1, .int n)], [.ref 1], 0, 0) 43 2 (fun _ => rfl) h) ?_
      refine pj_X_of (fun r h => pj_T_gr iG8 rfl rfl rfl h) ?_
      refine pj_X_of (fun r h => pj_R_to (G8, 47, [(0, .ref 1), (1, .int n)], [.ref 1, .ref 4], 0, 0) 47 2 (fun _ => rfl) h) ?_
      refine pj_X_of (fun r h => pj_T_gr iG8 rfl rfl rfl h) ?_
      refine pj_X_of (fun r h => pj_T_gi iG8 rfl rfl h) ?_
      show pj_X _ _ G8 53 [(0, .ref 1), (1, .int n)] [.int (pj_fi G8 6 7), .ref 4] _
      obtain ⟨y9, hy9⟩ : ∃ z : Int32, z = pj_fi G8 6 7 := ⟨_, rfl⟩
      refine pj_X_eqi hy9.symm ?_
      rw [← hy9, pj_nm_e]
      have ey9 : (pj_fi G8 6 7).toInt = y9.toInt := by rw [hy9]
      refine pj_X_of (fun r h => pj_R_to (G8, 55, [(0, .ref 1), (1, .int n)], [.ref 1, .long y9.toInt64, .ref 4], 0, 0) 55 3 (fun _ => rfl) h) ?_
      refine pj_X_of (fun r h => pj_T_gr iG8 rfl rfl rfl h) ?_
      refine pj_X_of (fun r h => pj_T_gi iG8 rfl rfl h) ?_
      show pj_X _ _ G8 61 [(0, .ref 1), (1, .int n)] [.int (pj_fi G8 6 8), .long y9.toInt64, .ref 4] _
      obtain ⟨y10, hy10⟩ : ∃ z : Int32, z = pj_fi G8 6 8 := ⟨_, rfl⟩
      refine pj_X_eqi hy10.symm ?_
      rw [← hy10, pj_nm_e]
      have ey10 : (pj_fi G8 6 8).toInt = y10.toInt := by rw [hy10]
      refine pj_X_of (fun r h => pj_R_to (G8, 62, [(0, .ref 1), (1, .int n)], [.long y10.toInt64, .long y9.toInt64, .ref 4], 0, 0) 62 2 (fun _ => rfl) h) ?_
      have lc11 : (y9.toInt64).toInt = y9.toInt := Int32.toInt_toInt64 _
      have lc12 : (y10.toInt64).toInt = y10.toInt := Int32.toInt_toInt64 _
      refine pj_X_ca (vs := [.ref 4, .long y9.toInt64, .long y10.toInt64]) rfl (fun _ => rfl) ⟨Nat.le_of_ble_eq_true rfl, Nat.le_of_ble_eq_true rfl, pj_T_rcv iG8 rfl⟩ ⟨rfl, rfl⟩ (pj_Y_up (by decide) (ct_56x G8 iG8 y9.toInt64 y10.toInt64)) ?_
      rintro _ G14 ⟨rfl, iG14, jG14, fy13⟩
      rw [← fy13, pj_nm_e]
      have kG14 : pj_kpt kc_131nx G0 G14 := pj_kpt_t kG8 (pj_kpt_s jG14 rfl)
      show pj_X _ _ G14 65 [(0, .ref 1), (1, .int n)] [] _
      refine pj_X_of (fun r h => pj_R_to (G14, 66, [(0, .ref 1), (1, .int n)], [.ref 1], 0, 0) 66 2 (fun _ => rfl) h) ?_
      refine pj_X_of (fun r h => pj_T_gr iG14 rfl rfl rfl h) ?_
      refine pj_X_of (fun r h => pj_T_gr iG14 rfl rfl rfl h) ?_
      refine pj_X_of (fun r h => pj_T_gi iG14 rfl rfl h) ?_
      show pj_X _ _ G14 75 [(0, .ref 1), (1, .int n)] [.int (pj_fi G14 21 7)] _
      obtain ⟨y15, hy15⟩ : ∃ z : Int32, z = pj_fi G14 21 7 := ⟨_, rfl⟩
      refine pj_X_eqi hy15.symm ?_
      rw [← hy15, pj_nm_e]
      have ey15 : (pj_fi G14 21 7).toInt = y15.toInt := by rw [hy15]
      exact pj_X_rt rfl rfl ⟨_, rfl, iG14, kG14, pj_i32 _, (fun H hH => by subst hH; exact (mr_PC_t (mr_deed hI eG4 jG4 rfl jG6 rfl jG8 rfl (by omega)) (mr_PC_k jG14 rfl))), rfl⟩
    | false =>
      rw [pj_cF]
      have ub2 := pj_u_leF b2
      refine pj_X_of (fun r h => pj_R_icF rfl b2 h) ?_
      refine pj_X_of (fun r h => pj_R_to (G0, 11, [(0, .ref 1), (1, .int n)], [.int (Int32.ofInt (-1))], 0, 0) 11 2 (fun _ => rfl) h) ?_
      exact pj_X_rt rfl rfl ⟨_, rfl, hI, hK, pj_i32 _, (fun H hH => by subst hH; exact (mr_PC_r _)), rfl⟩
theorem fr_131nx (G0 : pj_G) (hI : pj_Inv G0) (n : Int32) : pj_Inv (F_131nx G0 n).2 ∧ pj_kpt kc_131nx G0 (F_131nx G0 n).2 ∧ (mr_PC G0 (F_131nx G0 n).2) := by
  obtain ⟨v, G', -, y, -, i, j, r, x, e⟩ := ct_131nx G0 hI n
  rw [← e]
  exact ⟨i, j, x _ rfl⟩
