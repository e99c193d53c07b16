def kc_133nx : pj_KT := ([(21, 0), (21, 5), (21, 7), (21, 8), (53, 1), (53, 2)], [21, 22, 23, 24, 25, 26, 53], [22, 23, 24, 25, 26])
noncomputable def F_133nx (G0 : pj_G) : Int32 × pj_G := pj_nm (pj_fi G0 53 2) (fun y1 => cond (pj_c1 .ne y1 0) (pj_bd (F_35nx G0) (fun y3 G4 => if y3 = 0 then (pj_nm (F_68_21_57x G4) (fun G6 => pj_nm (pj_fi G6 53 2) (fun y7 => (y7, G6)))) else (if y3 = 1 then (pj_nm (F_68_21_63x G4) (fun G9 => pj_nm (pj_fi G9 53 2) (fun y10 => (y10, G9)))) else (if y3 = 2 then (pj_nm (F_68_21_69x G4) (fun G12 => pj_nm (pj_fi G12 53 2) (fun y13 => (y13, G12)))) else (if y3 = 3 then (pj_nm (F_68_21_75x G4) (fun G15 => pj_nm (pj_fi G15 53 2) (fun y16 => (y16, G15)))) else (if y3 = 4 then (pj_nm (F_68_21_81x G4) (fun G18 => pj_nm (pj_fi G18 53 2) (fun y19 => (y19, G18)))) else (if y3 = 5 then (pj_nm (F_68_21_87x G4) (fun G21 => pj_nm (pj_fi G21 53 2) (fun y22 => (y22, G21)))) else (if y3 = 6 then (pj_nm (F_68_21_93x G4) (fun G24 => pj_nm (pj_fi G24 53 2) (fun y25 => (y25, G24)))) else (if y3 = 7 then (pj_nm (F_68_21_99x G4) (fun G27 => pj_nm (pj_fi G27 53 2) (fun y28 => (y28, G27)))) else (if y3 = 8 then (pj_nm (F_68_21_105x G4) (fun G30 => pj_nm (pj_fi G30 53 2) (fun y31 => (y31, G30)))) else (if y3 = 9 then (pj_nm (F_68_21_111x G4) (fun G33 => pj_nm (pj_fi G33 53 2) (fun y34 => (y34, G33)))) else (if y3 = 10 then (pj_nm (F_68_21_117x G4) (fun G36 => pj_nm (pj_fi G36 53 2) (fun y37 => (y37, G36)))) else (if y3 = 11 then (pj_nm (F_68_21_123x G4) (fun G39 => pj_nm (pj_fi G39 53 2) (fun y40 => (y40, G39)))) else (if y3 = 12 then (pj_nm (F_68_21_129x G4) (fun G42 => pj_nm (pj_fi G42 53 2) (fun y43 => (y43, G42)))) else (if y3 = 13 then (pj_nm (F_68_21_135x G4) (fun G45 => pj_nm (pj_fi G45 53 2) (fun y46 => (y46, G45)))) else (if y3 = 14 then (pj_nm (F_68_21_141x G4) (fun G48 => pj_nm (pj_fi G48 53 2) (fun y49 => (y49, G48)))) else (pj_nm (F_68_21_147x G4) (fun G51 => pj_nm (pj_fi G51 53 2) (fun y52 => (y52, G51)))))))))))))))))))) ((Int32.ofInt (-1), G0)))
theorem F_133nx_e (G0 : pj_G) : F_133nx G0 = pj_nm (pj_fi G0 53 2) (fun y1 => cond (pj_c1 .ne y1 0) (pj_bd (F_35nx G0) (fun y3 G4 => if y3 = 0 then (pj_nm (F_68_21_57x G4) (fun G6 => pj_nm (pj_fi G6 53 2) (fun y7 => (y7, G6)))) else (if y3 = 1 then (pj_nm (F_68_21_63x G4) (fun G9 => pj_nm (pj_fi G9 53 2) (fun y10 => (y10, G9)))) else (if y3 = 2 then (pj_nm (F_68_21_69x G4) (fun G12 => pj_nm (pj_fi G12 53 2) (fun y13 => (y13, G12)))) else (if y3 = 3 then (pj_nm (F_68_21_75x G4) (fun G15 => pj_nm (pj_fi G15 53 2) (fun y16 => (y16, G15)))) else (if y3 = 4 then (pj_nm (F_68_21_81x G4) (fun G18 => pj_nm (pj_fi G18 53 2) (fun y19 => (y19, G18)))) else (if y3 = 5 then (pj_nm (F_68_21_87x G4) (fun G21 => pj_nm (pj_fi G21 53 2) (fun y22 => (y22, G21)))) else (if y3 = 6 then (pj_nm (F_68_21_93x G4) (fun G24 => pj_nm (pj_fi G24 53 2) (fun y25 => (y25, G24)))) else (if y3 = 7 then (pj_nm (F_68_21_99x G4) (fun G27 => pj_nm (pj_fi G27 53 2) (fun y28 => (y28, G27)))) else (if y3 = 8 then (pj_nm (F_68_21_105x G4) (fun G30 => pj_nm (pj_fi G30 53 2) (fun y31 => (y31, G30)))) else (if y3 = 9 then (pj_nm (F_68_21_111x G4) (fun G33 => pj_nm (pj_fi G33 53 2) (fun y34 => (y34, G33)))) else (if y3 = 10 then (pj_nm (F_68_21_117x G4) (fun G36 => pj_nm (pj_fi G36 53 2) (fun y37 => (y37, G36)))) else (if y3 = 11 then (pj_nm (F_68_21_123x G4) (fun G39 => pj_nm (pj_fi G39 53 2) (fun y40 => (y40, G39)))) else (if y3 = 12 then (pj_nm (F_68_21_129x G4) (fun G42 => pj_nm (pj_fi G42 53 2) (fun y43 => (y43, G42)))) else (if y3 = 13 then (pj_nm (F_68_21_135x G4) (fun G45 => pj_nm (pj_fi G45 53 2) (fun y46 => (y46, G45)))) else (if y3 = 14 then (pj_nm (F_68_21_141x G4) (fun G48 => pj_nm (pj_fi G48 53 2) (fun y49 => (y49, G48)))) else (pj_nm (F_68_21_147x G4) (fun G51 => pj_nm (pj_fi G51 53 2) (fun y52 => (y52, G51)))))))))))))))))))) ((Int32.ofInt (-1), G0))) := rfl
theorem ct_133nx (G0 : pj_G) (hI : pj_Inv G0) : pj_Y 2 133 [.ref 1] G0 (fun v' G' => ∃ y : Int32, v' = some (.int y) ∧ pj_Inv G' ∧ pj_kpt kc_133nx G0 G' ∧ ((-2147483648 : Int) ≤ y.toInt ∧ y.toInt ≤ 2147483647) ∧ (∀ H, G0 = H → (mr_PC H G')) ∧ ((y, G') = F_133nx G0)) := by
  have c0_ : (Int32.ofInt (-1)).toInt = -1 := by decide
  refine pj_Y_X (M := pj_m133) rfl rfl (Nat.le_of_ble_eq_true rfl) ?_
  have hK : pj_kpt kc_133nx G0 G0 := pj_kpt_r _ _
  show pj_X _ _ G0 0 [(0, .ref 1)] [] _
  rw [F_133nx_e]
  refine pj_X_of (fun r h => pj_R_to (G0, 1, [(0, .ref 1)], [.ref 1], 0, 0) 1 2 (fun _ => rfl) h) ?_
  refine pj_X_of (fun r h => pj_T_gr hI rfl rfl rfl h) ?_
  refine pj_X_of (fun r h => pj_T_gi hI rfl rfl h) ?_
  show pj_X _ _ G0 7 [(0, .ref 1)] [.int (pj_fi G0 53 2)] _
  obtain ⟨y1, hy1⟩ : ∃ z : Int32, z = pj_fi G0 53 2 := ⟨_, rfl⟩
  refine pj_X_eqi hy1.symm ?_
  rw [← hy1, pj_nm_e]
  have ey1 : (pj_fi G0 53 2).toInt = y1.toInt := by rw [hy1]
  have ry1 : (0 : Int) ≤ y1.toInt ∧ y1.toInt ≤ 15 := by rw [hy1]; exact hI.2.1 53 2 (0, 15) rfl
  cases b2 : pj_c1 .ne y1 0 with
  | true =>
    rw [pj_cT]
    have ub2 := pj_u0_neT b2
    refine pj_X_of (fun r h => pj_R_ifT 12 rfl rfl b2 h) ?_
    refine pj_X_of (fun r h => pj_R_to (G0, 13, [(0, .ref 1)], [.ref 1], 0, 0) 13 2 (fun _ => rfl) h) ?_
    refine pj_X_of (fun r h => pj_T_gr hI rfl rfl rfl h) ?_
    refine pj_X_of (fun r h => pj_T_gr hI rfl rfl rfl h) ?_
    refine pj_X_of (fun r h => pj_R_to (G0, 20, [(0, .ref 1)], [.ref 1, .ref 21], 0, 0) 20 2 (fun _ => rfl) h) ?_
    refine pj_X_of (fun r h => pj_T_gr hI rfl rfl rfl h) ?_
    refine pj_X_ca (vs := [.ref 53]) rfl (fun _ => rfl) ⟨Nat.le_of_ble_eq_true rfl, Nat.le_of_ble_eq_true rfl, pj_T_rcv hI rfl⟩ ⟨rfl, rfl⟩ (pj_Y_up (by decide) (ct_35nx G0 hI (by omega))) ?_
    rintro _ G4 ⟨y3, hy3, rfl, iG4, jG4, eG4, fy3⟩
    replace eG4 := eG4 _ rfl
    rw [← fy3, pj_bd_e]
    have kG4 : pj_kpt kc_133nx G0 G4 := pj_kpt_t hK (pj_kpt_s jG4 rfl)
    rcases (show y3 = 0 ∨ y3 = 1 ∨ y3 = 2 ∨ y3 = 3 ∨ y3 = 4 ∨ y3 = 5 ∨ y3 = 6 ∨ y3 = 7 ∨ y3 = 8 ∨ y3 = 9 ∨ y3 = 10 ∨ y3 = 11 ∨ y3 = 12 ∨ y3 = 13 ∨ y3 = 14 ∨ y3 = 15 by omega) with rfl | rfl | rfl | rfl | rfl | rfl | rfl | rfl | rfl | rfl | rfl | rfl | rfl | rfl | rfl | rfl
    · show pj_X _ _ G4 26 [(0, .ref 1)] [.ref 57, .ref 21] _
      rw [if_pos (show (0 : Nat) = 0 from rfl)]
      refine pj_X_ca (vs := [.ref 21, .ref 57]) rfl (fun _ => rfl) ⟨Nat.le_of_ble_eq_true rfl, Nat.le_of_ble_eq_true rfl, pj_T_rcv iG4 rfl⟩ ⟨rfl, rfl⟩ (pj_Y_up (by decide) (ct_68_21_57x G4 iG4)) ?_
      rintro _ G6 ⟨rfl, iG6, jG6, eG6, fy5⟩
      replace eG6 := eG6 _ rfl
      rw [← fy5, pj_nm_e]
      have kG6 : pj_kpt kc_133nx G0 G6 := pj_kpt_t kG4 (pj_kpt_s jG6 rfl)
      show pj_X _ _ G6 29 [(0, .ref 1)] [] _
      refine pj_X_of (fun r h => pj_R_to (G6, 30, [(0, .ref 1)], [.ref 1], 0, 0) 30 2 (fun _ => rfl) h) ?_
      refine pj_X_of (fun r h => pj_T_gr iG6 rfl rfl rfl h) ?_
      refine pj_X_of (fun r h => pj_T_gi iG6 rfl rfl h) ?_
      show pj_X _ _ G6 36 [(0, .ref 1)] [.int (pj_fi G6 53 2)] _
      obtain ⟨y7, hy7⟩ : ∃ z : Int32, z = pj_fi G6 53 2 := ⟨_, rfl⟩
      refine pj_X_eqi hy7.symm ?_
      rw [← hy7, pj_nm_e]
      have ey7 : (pj_fi G6 53 2).toInt = y7.toInt := by rw [hy7]
      have ry7 : (0 : Int) ≤ y7.toInt ∧ y7.toInt ≤ 15 := by rw [hy7]; exact iG6.2.1 53 2 (0, 15) rfl
      exact pj_X_rt rfl rfl ⟨_, rfl, iG6, kG6, pj_i32 _, (fun H hH => by subst hH; exact (mr_undo hI (by omega) 0 (by decide) jG4 rfl eG4 jG6 rfl eG6)), rfl⟩
    · show pj_X _ _ G4 26 [(0, .ref 1)] [.ref 63, .ref 21] _
      rw [if_neg (show ¬ (1 : Nat) = 0 by decide), if_pos (show (1 : Nat) = 1 from rfl)]
      refine pj_X_ca (vs := [.ref 21, .ref 63]) rfl (fun _ => rfl) ⟨Nat.le_of_ble_eq_true rfl, Nat.le_of_ble_eq_true rfl, pj_T_rcv iG4 rfl⟩ ⟨rfl, rfl⟩ (pj_Y_up (by decide) (ct_68_21_63x G4 iG4)) ?_
      rintro _ G9 ⟨rfl, iG9, jG9, eG9, fy8⟩
      replace eG9 := eG9 _ rfl
      rw [← fy8, pj_nm_e]
      have kG9 : pj_kpt kc_133nx G0 G9 := pj_kpt_t kG4 (pj_kpt_s jG9 rfl)
      show pj_X _ _ G9 29 [(0, .ref 1)] [] _
      refine pj_X_of (fun r h => pj_R_to (G9, 30, [(0, .ref 1)], [.ref 1], 0, 0) 30 2 (fun _ => rfl) h) ?_
      refine pj_X_of (fun r h => pj_T_gr iG9 rfl rfl rfl h) ?_
      refine pj_X_of (fun r h => pj_T_gi iG9 rfl rfl h) ?_
      show pj_X _ _ G9 36 [(0, .ref 1)] [.int (pj_fi G9 53 2)] _
      obtain ⟨y10, hy10⟩ : ∃ z : Int32, z = pj_fi G9 53 2 := ⟨_, rfl⟩
      refine pj_X_eqi hy10.symm ?_
      rw [← hy10, pj_nm_e]
      have ey10 : (pj_fi G9 53 2).toInt = y10.toInt := by rw [hy10]
      have ry10 : (0 : Int) ≤ y10.toInt ∧ y10.toInt ≤ 15 := by rw [hy10]; exact iG9.2.1 53 2 (0, 15) rfl
      exact pj_X_rt rfl rfl ⟨_, rfl, iG9, kG9, pj_i32 _, (fun H hH => by subst hH; exact (mr_undo hI (by omega) 1 (by decide) jG4 rfl eG4 jG9 rfl eG9)), rfl⟩
    · show pj_X _ _ G4 26 [(0, .ref 1)] [.ref 69, .ref 21] _
      rw [if_neg (show ¬ (2 : Nat) = 0 by decide), if_neg (show ¬ (2 : Nat) = 1 by decide), if_pos (show (2 : Nat) = 2 from rfl)]
      refine pj_X_ca (vs := [.ref 21, .ref 69]) rfl (fun _ => rfl) ⟨Nat.le_of_ble_eq_true rfl, Nat.le_of_ble_eq_true rfl, pj_T_rcv iG4 rfl⟩ ⟨rfl, rfl⟩ (pj_Y_up (by decide) (ct_68_21_69x G4 iG4)) ?_
      rintro _ G12 ⟨rfl, iG12, jG12, eG12, fy11⟩
      replace eG12 := eG12 _ rfl
      rw [← fy11, pj_nm_e]
      have kG12 : pj_kpt kc_133nx G0 G12 := pj_kpt_t kG4 (pj_kpt_s jG12 rfl)
      show pj_X _ _ G12 29 [(0, .ref 1)] [] _
      refine pj_X_of (fun r h => pj_R_to (G12, 30, [(0, .ref 1)], [.ref 1], 0, 0) 30 2 (fun _ => rfl) h) ?_
      refine pj_X_of (fun r h => pj_T_gr iG12 rfl rfl rfl h) ?_
      refine pj_X_of (fun r h => pj_T_gi iG12 rfl rfl h) ?_
      show pj_X _ _ G12 36 [(0, .ref 1)] [.int (pj_fi G12 53 2)] _
      obtain ⟨y13, hy13⟩ : ∃ z : Int32, z = pj_fi G12 53 2 := ⟨_, rfl⟩
      refine pj_X_eqi hy13.symm ?_
      rw [← hy13, pj_nm_e]
      have ey13 : (pj_fi G12 53 2).toInt = y13.toInt := by rw [hy13]
      have ry13 : (0 : Int) ≤ y13.toInt ∧ y13.toInt ≤ 15 := by rw [hy13]; exact iG12.2.1 53 2 (0, 15) rfl
      exact pj_X_rt rfl rfl ⟨_, rfl, iG12, kG12, pj_i32 _, (fun H hH => by subst hH; exact (mr_undo hI (by omega) 2 (by decide) jG4 rfl eG4 jG12 rfl eG12)), rfl⟩
    · show pj_X _ _ G4 26 [(0, .ref 1)] [.ref 75, .ref 21] _
      rw [if_neg (show ¬ (3 : Nat) = 0 by decide), if_neg (show ¬ (3 : Nat) = 1 by decide), if_neg (show ¬ (3 : Nat) = 2 by decide), if_pos (show (3 : Nat) = 3 from rfl)]
      refine pj_X_ca (vs := [.ref 21, .ref 75]) rfl (fun _ => rfl) ⟨Nat.le_of_ble_eq_true rfl, Nat.le_of_ble_eq_true rfl, pj_T_rcv iG4 rfl⟩ ⟨rfl, rfl⟩ (pj_Y_up (by decide) (ct_68_21_75x G4 iG4)) ?_
      rintro _ G15 ⟨rfl, iG15, jG15, eG15, fy14⟩
      replace eG15 := eG15 _ rfl
      rw [← fy14, pj_nm_e]
      have kG15 : pj_kpt kc_133nx G0 G15 := pj_kpt_t kG4 (pj_kpt_s jG15 rfl)
      show pj_X _ _ G15 29 [(0, .ref 1)] [] _
      refine pj_X_of (fun r h => pj_R_to (G15, 30, [(0, .ref 1)], [.ref 1], 0, 0) 30 2 (fun _ => rfl) h) ?_
      refine pj_X_of (fun r h => pj_T_gr iG15 rfl rfl rfl h) ?_
      refine pj_X_of (fun r h => pj_T_gi iG15 rfl rfl h) ?_
      show pj_X _ _ G15 36 [(0, .ref 1)] [.int (pj_fi G15 53 2)] _
      obtain ⟨y16, hy16⟩ : ∃ z : Int32, z = pj_fi G15 53 2 := ⟨_, rfl⟩
      refine pj_X_eqi hy16.symm ?_
      rw [← hy16, pj_nm_e]
      have ey16 : (pj_fi G15 53 2).toInt = y16.toInt := by rw [hy16]
      have ry16 : (0 : Int) ≤ y16.toInt ∧ y16.toInt ≤ 15 := by rw [hy16]; exact iG15.2.1 53 2 (0, 15) rfl
      exact pj_X_rt rfl rfl ⟨_, rfl, iG15, kG15, pj_i32 _, (fun H hH => by subst hH; exact (mr_undo hI (by omega) 3 (by decide) jG4 rfl eG4 jG15 rfl eG15)), rfl⟩
    · show pj_X _ _ G4 26 [(0, .ref 1)] [.ref 81, .ref 21] _
      rw [if_neg (show ¬ (4 : Nat) = 0 by decide), if_neg (show ¬ (4 : Nat) = 1 by decide), if_neg (show ¬ (4 : Nat) = 2 by decide), if_neg (show ¬ (4 : Nat) = 3 by decide), if_pos (show (4 : Nat) = 4 from rfl)]
      refine pj_X_ca (vs := [.ref 21, .ref 81]) rfl (fun _ => rfl) ⟨Nat.le_of_ble_eq_true rfl, Nat.le_of_ble_eq_true rfl, pj_T_rcv iG4 rfl⟩ ⟨rfl, rfl⟩ (pj_Y_up (by decide) (ct_68_21_81x G4 iG4)) ?_
      rintro _ G18 ⟨rfl, iG18, jG18, eG18, fy17⟩
      replace eG18 := eG18 _ rfl
      rw [← fy17, pj_nm_e]
      have kG18 : pj_kpt kc_133nx G0 G18 := pj_kpt_t kG4 (pj_kpt_s jG18 rfl)
      show pj_X _ _ G18 29 [(0, .ref 1)] [] _
      refine pj_X_of (fun r h => pj_R_to (G18, 30, [(0, .ref 1)], [.ref 1], 0, 0) 30 2 (fun _ => rfl) h) ?_
      refine pj_X_of (fun r h => pj_T_gr iG18 rfl rfl rfl h) ?_
      refine pj_X_of (fun r h => pj_T_gi iG18 rfl rfl h) ?_
      show pj_X _ _ G18 36 [(0, .ref 1)] [.int (pj_fi G18 53 2)] _
      obtain ⟨y19, hy19⟩ : ∃ z : Int32, z = pj_fi G18 53 2 := ⟨_, rfl⟩
      refine pj_X_eqi hy19.symm ?_
      rw [← hy19, pj_nm_e]
      have ey19 : (pj_fi G18 53 2).toInt = y19.toInt := by rw [hy19]
      have ry19 : (0 : Int) ≤ y19.toInt ∧ y19.toInt ≤ 15 := by rw [hy19]; exact iG18.2.1 53 2 (0, 15) rfl
      exact pj_X_rt rfl rfl ⟨_, rfl, iG18, kG18, pj_i32 _, (fun H hH => by subst hH; exact (mr_undo hI (by omega) 4 (by decide) jG4 rfl eG4 jG18 rfl eG18)), rfl⟩
    · show pj_X _ _ G4 26 [(0, .ref 1)] [.ref 87, .ref 21] _
      rw [if_neg (show ¬ (5 : Nat) = 0 by decide), if_neg (show ¬ (5 : Nat) = 1 by decide), if_neg (show ¬ (5 : Nat) = 2 by decide), if_neg (show ¬ (5 : Nat) = 3 by decide), if_neg (show ¬ (5 : Nat) = 4 by decide), if_pos (show (5 : Nat) = 5 from rfl)]
      refine pj_X_ca (vs := [.ref 21, .ref 87]) rfl (fun _ => rfl) ⟨Nat.le_of_ble_eq_true rfl, Nat.le_of_ble_eq_true rfl, pj_T_rcv iG4 rfl⟩ ⟨rfl, rfl⟩ (pj_Y_up (by decide) (ct_68_21_87x G4 iG4)) ?_
      rintro _ G21 ⟨rfl, iG21, jG21, eG21, fy20⟩
      replace eG21 := eG21 _ rfl
      rw [← fy20, pj_nm_e]
      have kG21 : pj_kpt kc_133nx G0 G21 := pj_kpt_t kG4 (pj_kpt_s jG21 rfl)
      show pj_X _ _ G21 29 [(0, .ref 1)] [] _
      refine pj_X_of (fun r h => pj_R_to (G21, 30, [(0, .ref 1)], [.ref 1], 0, 0) 30 2 (fun _ => rfl) h) ?_
      refine pj_X_of (fun r h => pj_T_gr iG21 rfl rfl rfl h) ?_
      refine pj_X_of (fun r h => pj_T_gi iG21 rfl rfl h) ?_
      show pj_X _ _ G21 36 [(0, .ref 1)] [.int (pj_fi G21 53 2)] _
      obtain ⟨y22, hy22⟩ : ∃ z : Int32, z = pj_fi G21 53 2 := ⟨_, rfl⟩
      refine pj_X_eqi hy22.symm ?_
      rw [← hy22, pj_nm_e]
      have ey22 : (pj_fi G21 53 2).toInt = y22.toInt := by rw [hy22]
      have ry22 : (0 : Int) ≤ y22.toInt ∧ y22.toInt ≤ 15 := by rw [hy22]; exact iG21.2.1 53 2 (0, 15) rfl
      exact pj_X_rt rfl rfl ⟨_, rfl, iG21, kG21, pj_i32 _, (fun H hH => by subst hH; exact (mr_undo hI (by omega) 5 (by decide) jG4 rfl eG4 jG21 rfl eG21)), rfl⟩
    · show pj_X _ _ G4 26 [(0, .ref 1)] [.ref 93, .ref 21] _
      rw [if_neg (show ¬ (6 : Nat) = 0 by decide), if_neg (show ¬ (6 : Nat) = 1 by decide), if_neg (show ¬ (6 : Nat) = 2 by decide), if_neg (show ¬ (6 : Nat) = 3 by decide), if_neg (show ¬ (6 : Nat) = 4 by decide), if_neg (show ¬ (6 : Nat) = 5 by decide), if_pos (show (6 : Nat) = 6 from rfl)]
      refine pj_X_ca (vs := [.ref 21, .ref 93]) rfl (fun _ => rfl) ⟨Nat.le_of_ble_eq_true rfl, Nat.le_of_ble_eq_true rfl, pj_T_rcv iG4 rfl⟩ ⟨rfl, rfl⟩ (pj_Y_up (by decide) (ct_68_21_93x G4 iG4)) ?_
      rintro _ G24 ⟨rfl, iG24, jG24, eG24, fy23⟩
      replace eG24 := eG24 _ rfl
      rw [← fy23, pj_nm_e]
      have kG24 : pj_kpt kc_133nx G0 G24 := pj_kpt_t kG4 (pj_kpt_s jG24 rfl)
      show pj_X _ _ G24 29 [(0, .ref 1)] [] _
      refine pj_X_of (fun r h => pj_R_to (G24, 30, [(0, .ref 1)], [.ref 1], 0, 0) 30 2 (fun _ => rfl) h) ?_
      refine pj_X_of (fun r h => pj_T_gr iG24 rfl rfl rfl h) ?_
      refine pj_X_of (fun r h => pj_T_gi iG24 rfl rfl h) ?_
      show pj_X _ _ G24 36 [(0, .ref 1)] [.int (pj_fi G24 53 2)] _
      obtain ⟨y25, hy25⟩ : ∃ z : Int32, z = pj_fi G24 53 2 := ⟨_, rfl⟩
      refine pj_X_eqi hy25.symm ?_
      rw [← hy25, pj_nm_e]
      have ey25 : (pj_fi G24 53 2).toInt = y25.toInt := by rw [hy25]
      have ry25 : (0 : Int) ≤ y25.toInt ∧ y25.toInt ≤ 15 := by rw [hy25]; exact iG24.2.1 53 2 (0, 15) rfl
      exact pj_X_rt rfl rfl ⟨_, rfl, iG24, kG24, pj_i32 _, (fun H hH => by subst hH; exact (mr_undo hI (by omega) 6 (by decide) jG4 rfl eG4 jG24 rfl eG24)), rfl⟩
    · show pj_X _ _ G4 26 [(0, .ref 1)] [.ref 99, .ref 21] _
      rw [if_neg (show ¬ (7 : Nat) = 0 by decide), if_neg (show ¬ (7 : Nat) = 1 by decide), if_neg (show ¬ (7 : Nat) = 2 by decide), if_neg (show ¬ (7 : Nat) = 3 by decide), if_neg (show ¬ (7 : Nat) = 4 by decide), if_neg (show ¬ (7 : Nat) = 5 by decide), if_neg (show ¬ (7 : Nat) = 6 by decide), if_pos (show (7 : Nat) = 7 from rfl)]
      refine pj_X_ca (vs := [.ref 21, .ref 99]) rfl (fun _ => rfl) ⟨Nat.le_of_ble_eq_true rfl, Nat.le_of_ble_eq_true rfl, pj_T_rcv iG4 rfl⟩ ⟨rfl, rfl⟩ (pj_Y_up (by decide) (ct_68_21_99x G4 iG4)) ?_
      rintro _ G27 ⟨rfl, iG27, jG27, eG27, fy26⟩
      replace eG27 := eG27 _ rfl
      rw [← fy26, pj_nm_e]
      have kG27 : pj_kpt kc_133nx G0 G27 := pj_kpt_t kG4 (pj_kpt_s jG27 rfl)
      show pj_X _ _ G27 29 [(0, .ref 1)] [] _
      refine pj_X_of (fun r h => pj_R_to (G27, 30, [(0, .ref 1)], [.ref 1], 0, 0) 30 2 (fun _ => rfl) h) ?_
      refine pj_X_of (fun r h => pj_T_gr iG27 rfl rfl rfl h) ?_
      refine pj_X_of (fun r h => pj_T_gi iG27 rfl rfl h) ?_
      show pj_X _ _ G27 36 [(0, .ref 1)] [.int (pj_fi G27 53 2)] _
      obtain ⟨y28, hy28⟩ : ∃ z : Int32, z = pj_fi G27 53 2 := ⟨_, rfl⟩
      refine pj_X_eqi hy28.symm ?_
      rw [← hy28, pj_nm_e]
      have ey28 : (pj_fi G27 53 2).toInt = y28.toInt := by rw [hy28]
      have ry28 : (0 : Int) ≤ y28.toInt ∧ y28.toInt ≤ 15 := by rw [hy28]; exact iG27.2.1 53 2 (0, 15) rfl
      exact pj_X_rt rfl rfl ⟨_, rfl, iG27, kG27, pj_i32 _, (fun H hH => by subst hH; exact (mr_undo hI (by omega) 7 (by decide) jG4 rfl eG4 jG27 rfl eG27)), rfl⟩
    · show pj_X _ _ G4 26 [(0, .ref 1)] [.ref 105, .ref 21] _
      rw [if_neg (show ¬ (8 : Nat) = 0 by decide), if_neg (show ¬ (8 : Nat) = 1 by decide), if_neg (show ¬ (8 : Nat) = 2 by decide), if_neg (show ¬ (8 : Nat) = 3 by decide), if_neg (show ¬ (8 : Nat) = 4 by decide), if_neg (show ¬ (8 : Nat) = 5 by decide), if_neg (show ¬ (8 : Nat) = 6 by decide), if_neg (show ¬ (8 : Nat) = 7 by decide), if_pos (show (8 : Nat) = 8 from rfl)]
      refine pj_X_ca (vs := [.ref 21, .ref 105]) rfl (fun _ => rfl) ⟨Nat.le_of_ble_eq_true rfl, Nat.le_of_ble_eq_true rfl, pj_T_rcv iG4 rfl⟩ ⟨rfl, rfl⟩ (pj_Y_up (by decide) (ct_68_21_105x G4 iG4)) ?_
      rintro _ G30 ⟨rfl, iG30, jG30, eG30, fy29⟩
      replace eG30 := eG30 _ rfl
      rw [← fy29, pj_nm_e]
      have kG30 : pj_kpt kc_133nx G0 G30 := pj_kpt_t kG4 (pj_kpt_s jG30 rfl)
      show pj_X _ _ G30 29 [(0, .ref 1)] [] _
      refine pj_X_of (fun r h => pj_R_to (G30, 30, [(0, .ref 1)], [.ref 1], 0, 0) 30 2 (fun _ => rfl) h) ?_
      refine pj_X_of (fun r h => pj_T_gr iG30 rfl rfl rfl h) ?_
      refine pj_X_of (fun r h => pj_T_gi iG30 rfl rfl h) ?_
      show pj_X _ _ G30 36 [(0, .ref 1)] [.int (pj_fi G30 53 2)] _
      obtain ⟨y31, hy31⟩ : ∃ z : Int32, z = pj_fi G30 53 2 := ⟨_, rfl⟩
      refine pj_X_eqi hy31.symm ?_
      rw [← hy31, pj_nm_e]
      have ey31 : (pj_fi G30 53 2).toInt = y31.toInt := by rw [hy31]
      have ry31 : (0 : Int) ≤ y31.toInt ∧ y31.toInt ≤ 15 := by rw [hy31]; exact iG30.2.1 53 2 (0, 15) rfl
      exact pj_X_rt rfl rfl ⟨_, rfl, iG30, kG30, pj_i32 _, (fun H hH => by subst hH; exact (mr_undo hI (by omega) 8 (by decide) jG4 rfl eG4 jG30 rfl eG30)), rfl⟩
    · show pj_X _ _ G4 26 [(0, .ref 1)] [.ref 111, .ref 21] _
      rw [if_neg (show ¬ (9 : Nat) = 0 by decide), if_neg (show ¬ (9 : Nat) = 1 by decide), if_neg (show ¬ (9 : Nat) = 2 by decide), if_neg (show ¬ (9 : Nat) = 3 by decide), if_neg (show ¬ (9 : Nat) = 4 by decide), if_neg (show ¬ (9 : Nat) = 5 by decide), if_neg (show ¬ (9 : Nat) = 6 by decide), if_neg (show ¬ (9 : Nat) = 7 by decide), if_neg (show ¬ (9 : Nat) = 8 by decide), if_pos (show (9 : Nat) = 9 from rfl)]
      refine pj_X_ca (vs := [.ref 21, .ref 111]) rfl (fun _ => rfl) ⟨Nat.le_of_ble_eq_true rfl, Nat.le_of_ble_eq_true rfl, pj_T_rcv iG4 rfl⟩ ⟨rfl, rfl⟩ (pj_Y_up (by decide) (ct_68_21_111x G4 iG4)) ?_
      rintro _ G33 ⟨rfl, iG33, jG33, eG33, fy32⟩
      replace eG33 := eG33 _ rfl
      rw [← fy32, pj_nm_e]
      have kG33 : pj_kpt kc_133nx G0 G33 := pj_kpt_t kG4 (pj_kpt_s jG33 rfl)
      show pj_X _ _ G33 29 [(0, .ref 1)] [] _
      refine pj_X_of (fun r h => pj_R_to (G33, 30, [(0, .ref 1)], [.ref 1], 0, 0) 30 2 (fun _ => rfl) h) ?_
      refine pj_X_of (fun r h => pj_T_gr iG33 rfl rfl rfl h) ?_
      refine pj_X_of (fun r h => pj_T_gi iG33 rfl rfl h) ?_
      show pj_X _ _ G33 36 [(0, .ref 1)] [.int (pj_fi G33 53 2)] _
      obtain ⟨y34, hy34⟩ : ∃ z : Int32, z = pj_fi G33 53 2 := ⟨_, rfl⟩
      refine pj_X_eqi hy34.symm ?_
      rw [← hy34, pj_nm_e]
      have ey34 : (pj_fi G33 53 2).toInt = y34.toInt := by rw [hy34]
      have ry34 : (0 : Int) ≤ y34.toInt ∧ y34.toInt ≤ 15 := by rw [hy34]; exact iG33.2.1 53 2 (0, 15) rfl
      exact pj_X_rt rfl rfl ⟨_, rfl, iG33, kG33, pj_i32 _, (fun H hH => by subst hH; exact (mr_undo hI (by omega) 9 (by decide) jG4 rfl eG4 jG33 rfl eG33)), rfl⟩
    · show pj_X _ _ G4 26 [(0, .ref 1)] [.ref 117, .ref 21] _
      rw [if_neg (show ¬ (10 : Nat) = 0 by decide), if_neg (show ¬ (10 : Nat) = 1 by decide), if_neg (show ¬ (10 : Nat) = 2 by decide), if_neg (show ¬ (10 : Nat) = 3 by decide), if_neg (show ¬ (10 : Nat) = 4 by decide), if_neg (show ¬ (10 : Nat) = 5 by decide), if_neg (show ¬ (10 : Nat) = 6 by decide), if_neg (show ¬ (10 : Nat) = 7 by decide), if_neg (show ¬ (10 : Nat) = 8 by decide), if_neg (show ¬ (10 : Nat) = 9 by decide), if_pos (show (10 : Nat) = 10 from rfl)]
      refine pj_X_ca (vs := [.ref 21, .ref 117]) rfl (fun _ => rfl) ⟨Nat.le_of_ble_eq_true rfl, Nat.le_of_ble_eq_true rfl, pj_T_rcv iG4 rfl⟩ ⟨rfl, rfl⟩ (pj_Y_up (by decide) (ct_68_21_117x G4 iG4)) ?_
      rintro _ G36 ⟨rfl, iG36, jG36, eG36, fy35⟩
      replace eG36 := eG36 _ rfl
      rw [← fy35, pj_nm_e]
      have kG36 : pj_kpt kc_133nx G0 G36 := pj_kpt_t kG4 (pj_kpt_s jG36 rfl)
      show pj_X _ _ G36 29 [(0, .ref 1)] [] _
      refine pj_X_of (fun r h => pj_R_to (G36, 30, [(0, .ref 1)], [.ref 1], 0, 0) 30 2 (fun _ => rfl) h) ?_
      refine pj_X_of (fun r h => pj_T_gr iG36 rfl rfl rfl h) ?_
      refine pj_X_of (fun r h => pj_T_gi iG36 rfl rfl h) ?_
      show pj_X _ _ G36 36 [(0, .ref 1)] [.int (pj_fi G36 53 2)] _
      obtain ⟨y37, hy37⟩ : ∃ z : Int32, z = pj_fi G36 53 2 := ⟨_, rfl⟩
      refine pj_X_eqi hy37.symm ?_
      rw [← hy37, pj_nm_e]
      have ey37 : (pj_fi G36 53 2).toInt = y37.toInt := by rw [hy37]
      have ry37 : (0 : Int) ≤ y37.toInt ∧ y37.toInt ≤ 15 := by rw [hy37]; exact iG36.2.1 53 2 (0, 15) rfl
      exact pj_X_rt rfl rfl ⟨_, rfl, iG36, kG36, pj_i32 _, (fun H hH => by subst hH; exact (mr_undo hI (by omega) 10 (by decide) jG4 rfl eG4 jG36 rfl eG36)), rfl⟩
    · show pj_X _ _ G4 26 [(0, .ref 1)] [.ref 123, .ref 21] _
      rw [if_neg (show ¬ (11 : Nat) = 0 by decide), if_neg (show ¬ (11 : Nat) = 1 by decide), if_neg (show ¬ (11 : Nat) = 2 by decide), if_neg (show ¬ (11 : Nat) = 3 by decide), if_neg (show ¬ (11 : Nat) = 4 by decide), if_neg (show ¬ (11 : Nat) = 5 by decide), if_neg (show ¬ (11 : Nat) = 6 by decide), if_neg (show ¬ (11 : Nat) = 7 by decide), if_neg (show ¬ (11 : Nat) = 8 by decide), if_neg (show ¬ (11 : Nat) = 9 by decide), if_neg (show ¬ (11 : Nat) = 10 by decide), if_pos (show (11 : Nat) = 11 from rfl)]
      refine pj_X_ca (vs := [.ref 21, .ref 123]) rfl (fun _ => rfl) ⟨Nat.le_of_ble_eq_true rfl, Nat.le_of_ble_eq_true rfl, pj_T_rcv iG4 rfl⟩ ⟨rfl, rfl⟩ (pj_Y_up (by decide) (ct_68_21_123x G4 iG4)) ?_
      rintro _ G39 ⟨rfl, iG39, jG39, eG39, fy38⟩
      replace eG39 := eG39 _ rfl
      rw [← fy38, pj_nm_e]
      have kG39 : pj_kpt kc_133nx G0 G39 := pj_kpt_t kG4 (pj_kpt_s jG39 rfl)
      show pj_X _ _ G39 29 [(0, .ref 1)] [] _
      refine pj_X_of (fun r h => pj_R_to (G39, 30, [(0, .ref 1)], [.ref 1], 0, 0) 30 2 (fun _ => rfl) h) ?_
      refine pj_X_of (fun r h => pj_T_gr iG39 rfl rfl rfl h) ?_
      refine pj_X_of (fun r h => pj_T_gi iG39 rfl rfl h) ?_
      show pj_X _ _ G39 36 [(0, .ref 1)] [.int (pj_fi G39 53 2)] _
      obtain ⟨y40, hy40⟩ : ∃ z : Int32, z = pj_fi G39 53 2 := ⟨_, rfl⟩
      refine pj_X_eqi hy40.symm ?_
      rw [← hy40, pj_nm_e]
      have ey40 : (pj_fi G39 53 2).toInt = y40.toInt := by rw [hy40]
      have ry40 : (0 : Int) ≤ y40.toInt ∧ y40.toInt ≤ 15 := by rw [hy40]; exact iG39.2.1 53 2 (0, 15) rfl
      exact pj_X_rt rfl rfl ⟨_, rfl, iG39, kG39, pj_i32 _, (fun H hH => by subst hH; exact (mr_undo hI (by omega) 11 (by decide) jG4 rfl eG4 jG39 rfl eG39)), rfl⟩
    · show pj_X _ _ G4 26 [(0, .ref 1)] [.ref 129, .ref 21] _
      rw [if_neg (show ¬ (12 : Nat) = 0 by decide), if_neg (show ¬ (12 : Nat) = 1 by decide), if_neg (show ¬ (12 : Nat) = 2 by decide), if_neg (show ¬ (12 : Nat) = 3 by decide), if_neg (show ¬ (12 : Nat) = 4 by decide), if_neg (show ¬ (12 : Nat) = 5 by decide), if_neg (show ¬ (12 : Nat) = 6 by decide), if_neg (show ¬ (12 : Nat) = 7 by decide), if_neg (show ¬ (12 : Nat) = 8 by decide), if_neg (show ¬ (12 : Nat) = 9 by decide), if_neg (show ¬ (12 : Nat) = 10 by decide), if_neg (show ¬ (12 : Nat) = 11 by decide), if_pos (show (12 : Nat) = 12 from rfl)]
      refine pj_X_ca (vs := [.ref 21, .ref 129]) rfl (fun _ => rfl) ⟨Nat.le_of_ble_eq_true rfl, Nat.le_of_ble_eq_true rfl, pj_T_rcv iG4 rfl⟩ ⟨rfl, rfl⟩ (pj_Y_up (by decide) (ct_68_21_129x G4 iG4)) ?_
      rintro _ G42 ⟨rfl, iG42, jG42, eG42, fy41⟩
      replace eG42 := eG42 _ rfl
      rw [← fy41, pj_nm_e]
      have kG42 : pj_kpt kc_133nx G0 G42 := pj_kpt_t kG4 (pj_kpt_s jG42 rfl)
      show pj_X _ _ G42 29 [(0, .ref 1)] [] _
      refine pj_X_of (fun r h => pj_R_to (G42, 30, [(0, .ref 1)], [.ref 1], 0, 0) 30 2 (fun _ => rfl) h) ?_
      refine pj_X_of (fun r h => pj_T_gr iG42 rfl rfl rfl h) ?_
      refine pj_X_of (fun r h => pj_T_gi iG42 rfl rfl h) ?_
      show pj_X _ _ G42 36 [(0, .ref 1)] [.int (pj_fi G42 53 2)] _
      obtain ⟨y43, hy43⟩ : ∃ z : Int32, z = pj_fi G42 53 2 := ⟨_, rfl⟩
      refine pj_X_eqi hy43.symm ?_
      rw [← hy43, pj_nm_e]
      have ey43 : (pj_fi G42 53 2).toInt = y43.toInt := by rw [hy43]
      have ry43 : (0 : Int) ≤ y43.toInt ∧ y43.toInt ≤ 15 := by rw [hy43]; exact iG42.2.1 53 2 (0, 15) rfl
      exact pj_X_rt rfl rfl ⟨_, rfl, iG42, kG42, pj_i32 _, (fun H hH => by subst hH; exact (mr_undo hI (by omega) 12 (by decide) jG4 rfl eG4 jG42 rfl eG42)), rfl⟩
    · show pj_X _ _ G4 26 [(0, .ref 1)] [.ref 135, .ref 21] _
      rw [if_neg (show ¬ (13 : Nat) = 0 by decide), if_neg (show ¬ (13 : Nat) = 1 by decide), if_neg (show ¬ (13 : Nat) = 2 by decide), if_neg (show ¬ (13 : Nat) = 3 by decide), if_neg (show ¬ (13 : Nat) = 4 by decide), if_neg (show ¬ (13 : Nat) = 5 by decide), if_neg (show ¬ (13 : Nat) = 6 by decide), if_neg (show ¬ (13 : Nat) = 7 by decide), if_neg (show ¬ (13 : Nat) = 8 by decide), if_neg (show ¬ (13 : Nat) = 9 by decide), if_neg (show ¬ (13 : Nat) = 10 by decide), if_neg (show ¬ (13 : Nat) = 11 by decide), if_neg (show ¬ (13 : Nat) = 12 by decide), if_pos (show (13 : Nat) = 13 from rfl)]
      refine pj_X_ca (vs := [.ref 21, .ref 135]) rfl (fun _ => rfl) ⟨Nat.le_of_ble_eq_true rfl, Nat.le_of_ble_eq_true rfl, pj_T_rcv iG4 rfl⟩ ⟨rfl, rfl⟩ (pj_Y_up (by decide) (ct_68_21_135x G4 iG4)) ?_
      rintro _ G45 ⟨rfl, iG45, jG45, eG45, fy44⟩
      replace eG45 := eG45 _ rfl
      rw [← fy44, pj_nm_e]
      have kG45 : pj_kpt kc_133nx G0 G45 := pj_kpt_t kG4 (pj_kpt_s jG45 rfl)
      show pj_X _ _ G45 29 [(0, .ref 1)] [] _
      refine pj_X_of (fun r h => pj_R_to (G45, 30, [(0, .ref 1)], [.ref 1], 0, 0) 30 2 (fun _ => rfl) h) ?_
      refine pj_X_of (fun r h => pj_T_gr iG45 rfl rfl rfl h) ?_
      refine pj_X_of (fun r h => pj_T_gi iG45 rfl rfl h) ?_
      show pj_X _ _ G45 36 [(0, .ref 1)] [.int (pj_fi G45 53 2)] _
      obtain ⟨y46, hy46⟩ : ∃ z : Int32, z = pj_fi G45 53 2 := ⟨_, rfl⟩
      refine pj_X_eqi hy46.symm ?_
      rw [← hy46, pj_nm_e]
      have ey46 : (pj_fi G45 53 2).toInt = y46.toInt := by rw [hy46]
      have ry46 : (0 : Int) ≤ y46.toInt ∧ y46.toInt ≤ 15 := by rw [hy46]; exact iG45.2.1 53 2 (0, 15) rfl
      exact pj_X_rt rfl rfl ⟨_, rfl, iG45, kG45, pj_i32 _, (fun H hH => by subst hH; exact (mr_undo hI (by omega) 13 (by decide) jG4 rfl eG4 jG45 rfl eG45)), rfl⟩
    · show pj_X _ _ G4 26 [(0, .ref 1)] [.ref 141, .ref 21] _
      rw [if_neg (show ¬ (14 : Nat) = 0 by decide), if_neg (show ¬ (14 : Nat) = 1 by decide), if_neg (show ¬ (14 : Nat) = 2 by decide), if_neg (show ¬ (14 : Nat) = 3 by decide), if_neg (show ¬ (14 : Nat) = 4 by decide), if_neg (show ¬ (14 : Nat) = 5 by decide), if_neg (show ¬ (14 : Nat) = 6 by decide), if_neg (show ¬ (14 : Nat) = 7 by decide), if_neg (show ¬ (14 : Nat) = 8 by decide), if_neg (show ¬ (14 : Nat) = 9 by decide), if_neg (show ¬ (14 : Nat) = 10 by decide), if_neg (show ¬ (14 : Nat) = 11 by decide), if_neg (show ¬ (14 : Nat) = 12 by decide), if_neg (show ¬ (14 : Nat) = 13 by decide), if_pos (show (14 : Nat) = 14 from rfl)]
      refine pj_X_ca (vs := [.ref 21, .ref 141]) rfl (fun _ => rfl) ⟨Nat.le_of_ble_eq_true rfl, Nat.le_of_ble_eq_true rfl, pj_T_rcv iG4 rfl⟩ ⟨rfl, rfl⟩ (pj_Y_up (by decide) (ct_68_21_141x G4 iG4)) ?_
      rintro _ G48 ⟨rfl, iG48, jG48, eG48, fy47⟩
      replace eG48 := eG48 _ rfl
      rw [← fy47, pj_nm_e]
      have kG48 : pj_kpt kc_133nx G0 G48 := pj_kpt_t kG4 (pj_kpt_s jG48 rfl)
      show pj_X _ _ G48 29 [(0, .ref 1)] [] _
      refine pj_X_of (fun r h => pj_R_to (G48, 30, [(0, .ref 1)], [.ref 1], 0, 0) 30 2 (fun _ => rfl) h) ?_
      refine pj_X_of (fun r h => pj_T_gr iG48 rfl rfl rfl h) ?_
      refine pj_X_of (fun r h => pj_T_gi iG48 rfl rfl h) ?_
      show pj_X _ _ G48 36 [(0, .ref 1)] [.int (pj_fi G48 53 2)] _
      obtain ⟨y49, hy49⟩ : ∃ z : Int32, z = pj_fi G48 53 2 := ⟨_, rfl⟩
      refine pj_X_eqi hy49.symm ?_
      rw [← hy49, pj_nm_e]
      have ey49 : (pj_fi G48 53 2).toInt = y49.toInt := by rw [hy49]
      have ry49 : (0 : Int) ≤ y49.toInt ∧ y49.toInt ≤ 15 := by rw [hy49]; exact iG48.2.1 53 2 (0, 15) rfl
      exact pj_X_rt rfl rfl ⟨_, rfl, iG48, kG48, pj_i32 _, (fun H hH => by subst hH; exact (mr_undo hI (by omega) 14 (by decide) jG4 rfl eG4 jG48 rfl eG48)), rfl⟩
    · show pj_X _ _ G4 26 [(0, .ref 1)] [.ref 147, .ref 21] _
      rw [if_neg (show ¬ (15 : Nat) = 0 by decide), if_neg (show ¬ (15 : Nat) = 1 by decide), if_neg (show ¬ (15 : Nat) = 2 by decide), if_neg (show ¬ (15 : Nat) = 3 by decide), if_neg (show ¬ (15 : Nat) = 4 by decide), if_neg (show ¬ (15 : Nat) = 5 by decide), if_neg (show ¬ (15 : Nat) = 6 by decide), if_neg (show ¬ (15 : Nat) = 7 by decide), if_neg (show ¬ (15 : Nat) = 8 by decide), if_neg (show ¬ (15 : Nat) = 9 by decide), if_neg (show ¬ (15 : Nat) = 10 by decide), if_neg (show ¬ (15 : Nat) = 11 by decide), if_neg (show ¬ (15 : Nat) = 12 by decide), if_neg (show ¬ (15 : Nat) = 13 by decide), if_neg (show ¬ (15 : Nat) = 14 by decide)]
      refine pj_X_ca (vs := [.ref 21, .ref 147]) rfl (fun _ => rfl) ⟨Nat.le_of_ble_eq_true rfl, Nat.le_of_ble_eq_true rfl, pj_T_rcv iG4 rfl⟩ ⟨rfl, rfl⟩ (pj_Y_up (by decide) (ct_68_21_147x G4 iG4)) ?_
      rintro _ G51 ⟨rfl, iG51, jG51, eG51, fy50⟩
      replace eG51 := eG51 _ rfl
      rw [← fy50, pj_nm_e]
      have kG51 : pj_kpt kc_133nx G0 G51 := pj_kpt_t kG4 (pj_kpt_s jG51 rfl)
      show pj_X _ _ G51 29 [(0, .ref 1)] [] _
      refine pj_X_of (fun r h => pj_R_to (G51, 30, [(0, .ref 1)], [.ref 1], 0, 0) 30 2 (fun _ => rfl) h) ?_
      refine pj_X_of (fun r h => pj_T_gr iG51 rfl rfl rfl h) ?_
      refine pj_X_of (fun r h => pj_T_gi iG51 rfl rfl h) ?_
      show pj_X _ _ G51 36 [(0, .ref 1)] [.int (pj_fi G51 53 2)] _
      obtain ⟨y52, hy52⟩ : ∃ z : Int32, z = pj_fi G51 53 2 := ⟨_, rfl⟩
      refine pj_X_eqi hy52.symm ?_
      rw [← hy52, pj_nm_e]
      have ey52 : (pj_fi G51 53 2).toInt = y52.toInt := by rw [hy52]
      have ry52 : (0 : Int) ≤ y52.toInt ∧ y52.toInt ≤ 15 := by rw [hy52]; exact iG51.2.1 53 2 (0, 15) rfl
      exact pj_X_rt rfl rfl ⟨_, rfl, iG51, kG51, pj_i32 _, (fun H hH => by subst hH; exact (mr_undo hI (by omega) 15 (by decide) jG4 rfl eG4 jG51 rfl eG51)), rfl⟩
  | false =>
    rw [pj_cF]
    have ub2 := pj_u0_neF b2
    refine pj_X_of (fun r h => pj_R_ifF rfl b2 h) ?_
    refine pj_X_of (fun r h => pj_R_to (G0, 11, [(0, .ref 1)], [.int (Int32.ofInt (-1))], 0, 0) 11 2 (fun _ => rfl) h) ?_
    exact pj_X_rt rfl rfl ⟨_, rfl, hI, hK, pj_i32 _, (fun H hH => by subst hH; exact (mr_PC_r _)), rfl⟩
theorem fr_133nx (G0 : pj_G) (hI : pj_Inv G0) : pj_Inv (F_133nx G0).2 ∧ pj_kpt kc_133nx G0 (F_133nx G0).2 ∧ (mr_PC G0 (F_133nx G0).2) := by
  obtain ⟨v, G', -, y, -, i, j, r, x, e⟩ := ct_133nx G0 hI 
  rw [← e]
  exact ⟨i, j, x _ rfl⟩
/-! UNDONE, KEPT, BACK, ON BOTH SIDES -/
theorem mr_133 {C : pj_G} (k : Nat) (hk : k < 16) (he : (F_35nx C).1 = k) (hz : ¬ (pj_fi C 53 2).toInt = 0) : F_133nx C = (pj_fi (mr_bec 21 (57 + 6 * k) (F_35nx C).2) 53 2, mr_bec 21 (57 + 6 * k) (F_35nx C).2) := by
  rw [F_133nx_e]
  simp only [pj_nm_x, pj_bd_x]
  rw [pj_b0_neT hz, pj_cT, he]
  rcases (show k = 0 ∨ k = 1 ∨ k = 2 ∨ k = 3 ∨ k = 4 ∨ k = 5 ∨ k = 6 ∨ k = 7 ∨ k = 8 ∨ k = 9 ∨ k = 10 ∨ k = 11 ∨ k = 12 ∨ k = 13 ∨ k = 14 ∨ k = 15 by omega) with rfl | rfl | rfl | rfl | rfl | rfl | rfl | rfl | rfl | rfl | rfl | rfl | rfl | rfl | rfl | rfl
  · rw [if_pos (show (0 : Nat) = 0 from rfl)]
    exact congrArg (fun X => (pj_fi X 53 2, X)) (mr_bq_21_57 (F_35nx C).2)
  · rw [if_neg (show ¬ (1 : Nat) = 0 by decide), if_pos (show (1 : Nat) = 1 from rfl)]
    exact congrArg (fun X => (pj_fi X 53 2, X)) (mr_bq_21_63 (F_35nx C).2)
  · rw [if_neg (show ¬ (2 : Nat) = 0 by decide), if_neg (show ¬ (2 : Nat) = 1 by decide), if_pos (show (2 : Nat) = 2 from rfl)]
    exact congrArg (fun X => (pj_fi X 53 2, X)) (mr_bq_21_69 (F_35nx C).2)
  · rw [if_neg (show ¬ (3 : Nat) = 0 by decide), if_neg (show ¬ (3 : Nat) = 1 by decide), if_neg (show ¬ (3 : Nat) = 2 by decide), if_pos (show (3 : Nat) = 3 from rfl)]
    exact congrArg (fun X => (pj_fi X 53 2, X)) (mr_bq_21_75 (F_35nx C).2)
  · rw [if_neg (show ¬ (4 : Nat) = 0 by decide), if_neg (show ¬ (4 : Nat) = 1 by decide), if_neg (show ¬ (4 : Nat) = 2 by decide), if_neg (show ¬ (4 : Nat) = 3 by decide), if_pos (show (4 : Nat) = 4 from rfl)]
    exact congrArg (fun X => (pj_fi X 53 2, X)) (mr_bq_21_81 (F_35nx C).2)
  · rw [if_neg (show ¬ (5 : Nat) = 0 by decide), if_neg (show ¬ (5 : Nat) = 1 by decide), if_neg (show ¬ (5 : Nat) = 2 by decide), if_neg (show ¬ (5 : Nat) = 3 by decide), if_neg (show ¬ (5 : Nat) = 4 by decide), if_pos (show (5 : Nat) = 5 from rfl)]
    exact congrArg (fun X => (pj_fi X 53 2, X)) (mr_bq_21_87 (F_35nx C).2)
  · rw [if_neg (show ¬ (6 : Nat) = 0 by decide), if_neg (show ¬ (6 : Nat) = 1 by decide), if_neg (show ¬ (6 : Nat) = 2 by decide), if_neg (show ¬ (6 : Nat) = 3 by decide), if_neg (show ¬ (6 : Nat) = 4 by decide), if_neg (show ¬ (6 : Nat) = 5 by decide), if_pos (show (6 : Nat) = 6 from rfl)]
    exact congrArg (fun X => (pj_fi X 53 2, X)) (mr_bq_21_93 (F_35nx C).2)
  · rw [if_neg (show ¬ (7 : Nat) = 0 by decide), if_neg (show ¬ (7 : Nat) = 1 by decide), if_neg (show ¬ (7 : Nat) = 2 by decide), if_neg (show ¬ (7 : Nat) = 3 by decide), if_neg (show ¬ (7 : Nat) = 4 by decide), if_neg (show ¬ (7 : Nat) = 5 by decide), if_neg (show ¬ (7 : Nat) = 6 by decide), if_pos (show (7 : Nat) = 7 from rfl)]
    exact congrArg (fun X => (pj_fi X 53 2, X)) (mr_bq_21_99 (F_35nx C).2)
  · rw [if_neg (show ¬ (8 : Nat) = 0 by decide), if_neg (show ¬ (8 : Nat) = 1 by decide), if_neg (show ¬ (8 : Nat) = 2 by decide), if_neg (show ¬ (8 : Nat) = 3 by decide), if_neg (show ¬ (8 : Nat) = 4 by decide), if_neg (show ¬ (8 : Nat) = 5 by decide), if_neg (show ¬ (8 : Nat) = 6 by decide), if_neg (show ¬ (8 : Nat) = 7 by decide), if_pos (show (8 : Nat) = 8 from rfl)]
    exact congrArg (fun X => (pj_fi X 53 2, X)) (mr_bq_21_105 (F_35nx C).2)
  · rw [if_neg (show ¬ (9 : Nat) = 0 by decide), if_neg (show ¬ (9 : Nat) = 1 by decide), if_neg (show ¬ (9 : Nat) = 2 by decide), if_neg (show ¬ (9 : Nat) = 3 by decide), if_neg (show ¬ (9 : Nat) = 4 by decide), if_neg (show ¬ (9 : Nat) = 5 by decide), if_neg (show ¬ (9 : Nat) = 6 by decide), if_neg (show ¬ (9 : Nat) = 7 by decide), if_neg (show ¬ (9 : Nat) = 8 by decide), if_pos (show (9 : Nat) = 9 from rfl)]
    exact congrArg (fun X => (pj_fi X 53 2, X)) (mr_bq_21_111 (F_35nx C).2)
  · rw [if_neg (show ¬ (10 : Nat) = 0 by decide), if_neg (show ¬ (10 : Nat) = 1 by decide), if_neg (show ¬ (10 : Nat) = 2 by decide), if_neg (show ¬ (10 : Nat) = 3 by decide), if_neg (show ¬ (10 : Nat) = 4 by decide), if_neg (show ¬ (10 : Nat) = 5 by decide), if_neg (show ¬ (10 : Nat) = 6 by decide), if_neg (show ¬ (10 : Nat) = 7 by decide), if_neg (show ¬ (10 : Nat) = 8 by decide), if_neg (show ¬ (10 : Nat) = 9 by decide), if_pos (show (10 : Nat) = 10 from rfl)]
    exact congrArg (fun X => (pj_fi X 53 2, X)) (mr_bq_21_117 (F_35nx C).2)
  · rw [if_neg (show ¬ (11 : Nat) = 0 by decide), if_neg (show ¬ (11 : Nat) = 1 by decide), if_neg (show ¬ (11 : Nat) = 2 by decide), if_neg (show ¬ (11 : Nat) = 3 by decide), if_neg (show ¬ (11 : Nat) = 4 by decide), if_neg (show ¬ (11 : Nat) = 5 by decide), if_neg (show ¬ (11 : Nat) = 6 by decide), if_neg (show ¬ (11 : Nat) = 7 by decide), if_neg (show ¬ (11 : Nat) = 8 by decide), if_neg (show ¬ (11 : Nat) = 9 by decide), if_neg (show ¬ (11 : Nat) = 10 by decide), if_pos (show (11 : Nat) = 11 from rfl)]
    exact congrArg (fun X => (pj_fi X 53 2, X)) (mr_bq_21_123 (F_35nx C).2)
  · rw [if_neg (show ¬ (12 : Nat) = 0 by decide), if_neg (show ¬ (12 : Nat) = 1 by decide), if_neg (show ¬ (12 : Nat) = 2 by decide), if_neg (show ¬ (12 : Nat) = 3 by decide), if_neg (show ¬ (12 : Nat) = 4 by decide), if_neg (show ¬ (12 : Nat) = 5 by decide), if_neg (show ¬ (12 : Nat) = 6 by decide), if_neg (show ¬ (12 : Nat) = 7 by decide), if_neg (show ¬ (12 : Nat) = 8 by decide), if_neg (show ¬ (12 : Nat) = 9 by decide), if_neg (show ¬ (12 : Nat) = 10 by decide), if_neg (show ¬ (12 : Nat) = 11 by decide), if_pos (show (12 : Nat) = 12 from rfl)]
    exact congrArg (fun X => (pj_fi X 53 2, X)) (mr_bq_21_129 (F_35nx C).2)
  · rw [if_neg (show ¬ (13 : Nat) = 0 by decide), if_neg (show ¬ (13 : Nat) = 1 by decide), if_neg (show ¬ (13 : Nat) = 2 by decide), if_neg (show ¬ (13 : Nat) = 3 by decide), if_neg (show ¬ (13 : Nat) = 4 by decide), if_neg (show ¬ (13 : Nat) = 5 by decide), if_neg (show ¬ (13 : Nat) = 6 by decide), if_neg (show ¬ (13 : Nat) = 7 by decide), if_neg (show ¬ (13 : Nat) = 8 by decide), if_neg (show ¬ (13 : Nat) = 9 by decide), if_neg (show ¬ (13 : Nat) = 10 by decide), if_neg (show ¬ (13 : Nat) = 11 by decide), if_neg (show ¬ (13 : Nat) = 12 by decide), if_pos (show (13 : Nat) = 13 from rfl)]
    exact congrArg (fun X => (pj_fi X 53 2, X)) (mr_bq_21_135 (F_35nx C).2)
  · rw [if_neg (show ¬ (14 : Nat) = 0 by decide), if_neg (show ¬ (14 : Nat) = 1 by decide), if_neg (show ¬ (14 : Nat) = 2 by decide), if_neg (show ¬ (14 : Nat) = 3 by decide), if_neg (show ¬ (14 : Nat) = 4 by decide), if_neg (show ¬ (14 : Nat) = 5 by decide), if_neg (show ¬ (14 : Nat) = 6 by decide), if_neg (show ¬ (14 : Nat) = 7 by decide), if_neg (show ¬ (14 : Nat) = 8 by decide), if_neg (show ¬ (14 : Nat) = 9 by decide), if_neg (show ¬ (14 : Nat) = 10 by decide), if_neg (show ¬ (14 : Nat) = 11 by decide), if_neg (show ¬ (14 : Nat) = 12 by decide), if_neg (show ¬ (14 : Nat) = 13 by decide), if_pos (show (14 : Nat) = 14 from rfl)]
    exact congrArg (fun X => (pj_fi X 53 2, X)) (mr_bq_21_141 (F_35nx C).2)
  · rw [if_neg (show ¬ (15 : Nat) = 0 by decide), if_neg (show ¬ (15 : Nat) = 1 by decide), if_neg (show ¬ (15 : Nat) = 2 by decide), if_neg (show ¬ (15 : Nat) = 3 by decide), if_neg (show ¬ (15 : Nat) = 4 by decide), if_neg (show ¬ (15 : Nat) = 5 by decide), if_neg (show ¬ (15 : Nat) = 6 by decide), if_neg (show ¬ (15 : Nat) = 7 by decide), if_neg (show ¬ (15 : Nat) = 8 by decide), if_neg (show ¬ (15 : Nat) = 9 by decide), if_neg (show ¬ (15 : Nat) = 10 by decide), if_neg (show ¬ (15 : Nat) = 11 by decide), if_neg (show ¬ (15 : Nat) = 12 by decide), if_neg (show ¬ (15 : Nat) = 13 by decide), if_neg (show ¬ (15 : Nat) = 14 by decide)]
    exact congrArg (fun X => (pj_fi X 53 2, X)) (mr_bq_21_147 (F_35nx C).2)
theorem mr_undoR {B kc : Int} {C R : pj_G} (h : mr_A kc C R) (hP : mr_P C) (hU15 : (pj_fi R 171 30).toInt ≤ 15) (hS : mr_S B kc C R) (hU : mr_U B kc C R) : (F_133nx C).1 = (F_218x R).1 ∧ mr_S B kc (F_133nx C).2 (F_218x R).2 ∧ mr_U B kc (F_133nx C).2 (F_218x R).2 := by
  have k0 : (Int32.ofInt 0).toInt = 0 := by decide
  have k1 : (Int32.ofInt 1).toInt = 1 := by decide
  have iC := h.1
  have iR := h.2.1
  have rs : (0 : Int) ≤ (pj_fi C 53 2).toInt ∧ (pj_fi C 53 2).toInt ≤ 15 := iC.2.1 53 2 (0, 15) rfl
  have rn : (0 : Int) ≤ (pj_fi C 53 1).toInt ∧ (pj_fi C 53 1).toInt ≤ 15 := iC.2.1 53 1 (0, 15) rfl
  have h0 := hU.1
  have i0 : pj_Inv (pj_wv R 171 0 (.int (Int32.ofInt 0))) := pj_Inv_wi iR (ci := 12) rfl (fun q hq => by cases hq)
  by_cases q : (pj_fi C 53 2).toInt = 0
  · rw [F_133nx_e, F_218x_e]
    simp only [pj_nm_x]
    rw [pj_b0_neF q, pj_cF, pj_b0_neF (show (pj_fi R 171 30).toInt = 0 by omega), pj_cF]
    exact ⟨rfl, mr_Sf hS iC rfl rfl rfl (fun _ _ _ _ => rfl) (fun j _ => pj_ai_wv _ _ _ _ _ _), mr_Uk hU ⟨rfl, rfl, rfl, rfl, fun _ _ => ⟨rfl, fun _ _ _ _ => rfl⟩⟩ ⟨by rw [pj_fi_wv_ne _ _ _ _ _ _ (by decide)], fun j => pj_ai_wv _ _ _ _ _ _⟩⟩
  · obtain ⟨i1, kk, hk, e1, e2, e3⟩ := fr_35nx C iC (by omega)
    rw [mr_133 _ hk rfl q, F_218x_e]
    simp only [pj_nm_x]
    rw [pj_b0_neT (show ¬ (pj_fi R 171 30).toInt = 0 by omega), pj_cT]
    obtain ⟨m, hm⟩ : ∃ m : Nat, (m : Int) = (pj_fi R 171 30).toInt - 1 := ⟨((pj_fi R 171 30).toInt - 1).toNat, by omega⟩
    have s : (pj_fi R 171 30 - Int32.ofInt 1).toInt = (pj_fi R 171 30).toInt - 1 := by rw [pj_subI (by omega) (by omega), k1]
    have i30 : pj_coks pj_tb (pj_wv (pj_wv R 171 0 (.int (Int32.ofInt 0))) 171 30 (.int (pj_fi R 171 30 - Int32.ofInt 1))).1 = true := mr_sv i0.1 (show pj_kd 171 12 30 = some [] from rfl) _
    have e30 : pj_fi (pj_wv (pj_wv R 171 0 (.int (Int32.ofInt 0))) 171 30 (.int (pj_fi R 171 30 - Int32.ofInt 1))) 171 30 = pj_fi R 171 30 - Int32.ofInt 1 := pj_fi_wi i0.1 (a := 171) (ci := 12) (k := 30) rfl _
    have aR : ∀ a j, pj_ai (pj_wv (pj_wv R 171 0 (.int (Int32.ofInt 0))) 171 30 (.int (pj_fi R 171 30 - Int32.ofInt 1))) a j = pj_ai R a j := fun a j => (pj_ai_wv _ _ _ _ _ _).trans (pj_ai_wv _ _ _ _ _ _)
    obtain ⟨V, z1, z2, z3, z4, z5, z6⟩ := mr_bsl R 0 (32 * m) 32 33 (Int32.ofInt 0) (pj_wv (pj_wv R 171 0 (.int (Int32.ofInt 0))) 171 30 (.int (pj_fi R 171 30 - Int32.ofInt 1))) i30 (by rw [e30]; omega) (by omega) (by omega) (by omega) (by decide)
    rw [z1]
    have cf : ∀ a k, a ≠ 53 → pj_fi (F_35nx C).2 a k = pj_fi C a k := fun a k ha => kk.1 (a, k) (fun hm => by
      have z := List.all_eq_true.mp (show kc_35nx.1.all (fun q => Nat.beq q.1 53) = true from rfl) _ hm
      exact ha (Nat.eq_of_beq_eq_true z))
    have ca : ∀ a j, pj_ai (F_35nx C).2 a j = pj_ai C a j := fun a j => kk.2.2 a (fun hm => by cases hm) j
    obtain ⟨a1, a2⟩ := mr_Ut iC i1.1 hP hU (by omega) (F_35nx C).1 hk (by omega) e1 e3 cf ca m hm (by rw [z3, e30]; exact s) (fun k hk => (z5 k (by omega) hk).trans (aR _ _)) (fun j => (z4 186 j (by decide)).trans (aR _ _))
    refine ⟨?_, a1, a2⟩
    apply Int32.toInt_inj.mp
    rw [mr_bec_f _ _ _ _ _ (by decide), z3, e30, s, e3]
    omega
/-- the states that are kept -/
def mr_KS (B kc : Int) (C R : pj_G) : Prop := ∀ i : Nat, i < 3 → ¬ (pj_ai C 56 i).toInt = 0 → (pj_fi C (153 + 6 * i) 0).toInt = (pj_fi C 21 0).toInt → (pj_fi C (153 + 6 * i) 5).toInt = (pj_fi C 21 5).toInt → mr_row C (153 + 6 * i) R 202 (32 * i) (pj_fi C 21 0).toInt (pj_fi C 21 5).toInt B kc
theorem mr_KSf {B kc : Int} {C C' R R' : pj_G} (h : mr_KS B kc C R) (iC : pj_Inv C) (c0 : pj_fi C' 21 0 = pj_fi C 21 0) (c5 : pj_fi C' 21 5 = pj_fi C 21 5) (c56 : ∀ i, pj_ai C' 56 i = pj_ai C 56 i) (cf : ∀ i : Nat, i < 3 → ∀ k, pj_fi C' (153 + 6 * i) k = pj_fi C (153 + 6 * i) k) (ca : ∀ i : Nat, i < 3 → ∀ x j, pj_ai C' (153 + 6 * i + x) j = pj_ai C (153 + 6 * i + x) j) (ra : ∀ j, pj_ai R' 202 j = pj_ai R 202 j) : mr_KS B kc C' R' := by
  have r0 : (0 : Int) ≤ (pj_fi C 21 0).toInt ∧ (pj_fi C 21 0).toInt ≤ 6 := iC.2.1 21 0 (0, 6) rfl
  have r5 : (0 : Int) ≤ (pj_fi C 21 5).toInt ∧ (pj_fi C 21 5).toInt ≤ 6 := iC.2.1 21 5 (0, 6) rfl
  intro i hi h1 h2 h3
  rw [c56] at h1
  rw [cf i hi, c0] at h2
  rw [cf i hi, c5] at h3
  rw [c0, c5]
  exact mr_rowR r0.2 r5.2 (mr_rowk (h i hi h1 h2 h3) (ca i hi 1) (ca i hi 2) (ca i hi 3) (ca i hi 4) (ca i hi 5) (cf i hi 7)) (fun k _ => ra _)
