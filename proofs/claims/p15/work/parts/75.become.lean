def kc_68_57_21x : pj_KT := ([(57, 0), (57, 5), (57, 7), (57, 8)], [57, 58, 59, 60, 61, 62], [58, 59, 60, 61, 62])
noncomputable def F_68_57_21x (G0 : pj_G) : pj_G := pj_nm (pj_fi G0 21 0) (fun y3 => pj_nm (pj_wv G0 57 0 (.int y3)) (fun G5 => pj_nm (pj_wc G5 22 58 6) (fun G6 => pj_nm (pj_wc G6 23 59 6) (fun G7 => pj_nm (pj_wc G7 24 60 6) (fun G8 => pj_nm (pj_wc G8 25 61 6) (fun G9 => pj_nm (pj_fi G0 21 5) (fun y4 => pj_nm (pj_wv G9 57 5 (.int y4)) (fun G10 => pj_nm (pj_wc G10 26 62 6) (fun G11 => pj_nm (pj_fi G11 21 7) (fun y12 => pj_nm (pj_wv G11 57 7 (.int y12)) (fun G13 => pj_nm (pj_fi G13 21 8) (fun y14 => pj_nm (pj_wv G13 57 8 (.int y14)) (fun G15 => G15)))))))))))))
theorem F_68_57_21x_e (G0 : pj_G) : F_68_57_21x G0 = pj_nm (pj_fi G0 21 0) (fun y3 => pj_nm (pj_wv G0 57 0 (.int y3)) (fun G5 => pj_nm (pj_wc G5 22 58 6) (fun G6 => pj_nm (pj_wc G6 23 59 6) (fun G7 => pj_nm (pj_wc G7 24 60 6) (fun G8 => pj_nm (pj_wc G8 25 61 6) (fun G9 => pj_nm (pj_fi G0 21 5) (fun y4 => pj_nm (pj_wv G9 57 5 (.int y4)) (fun G10 => pj_nm (pj_wc G10 26 62 6) (fun G11 => pj_nm (pj_fi G11 21 7) (fun y12 => pj_nm (pj_wv G11 57 7 (.int y12)) (fun G13 => pj_nm (pj_fi G13 21 8) (fun y14 => pj_nm (pj_wv G13 57 8 (.int y14)) (fun G15 => G15))))))))))))) := rfl
theorem ct_68_57_21x (G0 : pj_G) (hI : pj_Inv G0) : pj_Y 1 68 [.ref 57, .ref 21] G0 (fun v' G' => v' = none ∧ pj_Inv G' ∧ pj_kpt kc_68_57_21x G0 G' ∧ (∀ H, G0 = H → ((pj_fi G' 57 0).toInt = (pj_fi H 21 0).toInt ∧ (pj_fi G' 57 5).toInt = (pj_fi H 21 5).toInt)) ∧ (G' = F_68_57_21x G0)) := by
  have c0_ : ((Int8.ofInt 6).toInt32).toInt = 6 := by decide
  have c1_ : (Int32.ofInt 0).toInt = 0 := by decide
  refine pj_Y_X (M := pj_m68) rfl rfl (Nat.le_of_ble_eq_true rfl) ?_
  have hK : pj_kpt kc_68_57_21x G0 G0 := pj_kpt_r _ _
  show pj_X _ _ G0 0 [(0, .ref 57), (1, .ref 21)] [] _
  rw [F_68_57_21x_e]
  obtain ⟨y1, hy1⟩ : ∃ z : Int32, z = pj_fi G0 57 0 := ⟨_, rfl⟩
  have ey1 : (pj_fi G0 57 0).toInt = y1.toInt := by rw [hy1]
  have ry1 : (0 : Int) ≤ y1.toInt ∧ y1.toInt ≤ 6 := by rw [hy1]; exact hI.2.1 57 0 (0, 6) rfl
  obtain ⟨y2, hy2⟩ : ∃ z : Int32, z = pj_fi G0 57 5 := ⟨_, rfl⟩
  have ey2 : (pj_fi G0 57 5).toInt = y2.toInt := by rw [hy2]
  have ry2 : (0 : Int) ≤ y2.toInt ∧ y2.toInt ≤ 6 := by rw [hy2]; exact hI.2.1 57 5 (0, 6) rfl
  obtain ⟨y3, hy3⟩ : ∃ z : Int32, z = pj_fi G0 21 0 := ⟨_, rfl⟩
  have ey3 : (pj_fi G0 21 0).toInt = y3.toInt := by rw [hy3]
  have ry3 : (0 : Int) ≤ y3.toInt ∧ y3.toInt ≤ 6 := by rw [hy3]; exact hI.2.1 21 0 (0, 6) rfl
  obtain ⟨y4, hy4⟩ : ∃ z : Int32, z = pj_fi G0 21 5 := ⟨_, rfl⟩
  have ey4 : (pj_fi G0 21 5).toInt = y4.toInt := by rw [hy4]
  have ry4 : (0 : Int) ≤ y4.toInt ∧ y4.toInt ≤ 6 := by rw [hy4]; exact hI.2.1 21 5 (0, 6) rfl
  refine pj_X_of (fun r h => pj_R_to (G0, 2, [(0, .ref 57), (1, .ref 21)], [.ref 21, .ref 57], 0, 0) 2 3 (fun _ => rfl) h) ?_
  refine pj_X_of (fun r h => pj_T_gi hI rfl rfl h) ?_
  show pj_X _ _ G0 5 [(0, .ref 57), (1, .ref 21)] [.int (pj_fi G0 21 0), .ref 57] _
  rw [← hy3, pj_nm_e]
  refine pj_X_of (fun r h => pj_T_pf hI rfl rfl rfl h) ?_
  show pj_X _ _ (pj_wv G0 57 0 (.int y3)) 8 [(0, .ref 57), (1, .ref 21)] [] _
  obtain ⟨G5, hG5⟩ : ∃ H, H = pj_wv G0 57 0 (.int y3) := ⟨_, rfl⟩
  have iG5 : pj_Inv G5 := by rw [hG5]; exact pj_Inv_wi hI (ci := 8) rfl (fun q hq => by cases hq; exact ⟨by show (0 : Int) ≤ _; omega, by show _ ≤ (6 : Int); omega⟩)
  have kG5 : pj_kpt kc_68_57_21x G0 G5 := by rw [hG5]; exact pj_kpt_v hK rfl
  rw [← hG5]
  rw [pj_nm_e]
  refine pj_X_of (fun r h => pj_R_to (G5, 9, [(0, .ref 57), (1, .ref 21)], [.ref 21], 0, 0) 9 2 (fun _ => rfl) h) ?_
  refine pj_X_of (fun r h => pj_T_gr iG5 rfl rfl rfl h) ?_
  refine pj_X_of (fun r h => pj_R_to (G5, 14, [(0, .ref 57), (1, .ref 21)], [.ref 57, .int (Int32.ofInt 0), .ref 22], 0, 0) 14 3 (fun _ => rfl) h) ?_
  refine pj_X_of (fun r h => pj_T_gr iG5 rfl rfl rfl h) ?_
  refine pj_X_of (fun r h => pj_R_to (G5, 20, [(0, .ref 57), (1, .ref 21)], [.int ((Int8.ofInt 6).toInt32), .int (Int32.ofInt 0), .ref 58, .int (Int32.ofInt 0), .ref 22], 0, 0) 20 3 (fun _ => rfl) h) ?_
  refine pj_X_of (fun r h => pj_T_cp iG5 rfl rfl rfl rfl (by omega) (by omega) (by show _ = ((6 : Nat) : Int); omega) (Nat.le_of_ble_eq_true rfl) h) ?_
  show pj_X _ _ (pj_wc G5 22 58 6) 23 [(0, .ref 57), (1, .ref 21)] [] _
  obtain ⟨G6, hG6⟩ : ∃ H, H = pj_wc G5 22 58 6 := ⟨_, rfl⟩
  have iG6 : pj_Inv G6 := by rw [hG6]; exact pj_Inv_wc iG5 rfl rfl (fun q hq => by cases hq; exact ⟨rfl, by decide⟩) rfl
  have kG6 : pj_kpt kc_68_57_21x G0 G6 := by rw [hG6]; exact pj_kpt_c kG5 rfl
  rw [← hG6]
  rw [pj_nm_e]
  refine pj_X_of (fun r h => pj_R_to (G6, 24, [(0, .ref 57), (1, .ref 21)], [.ref 21], 0, 0) 24 2 (fun _ => rfl) h) ?_
  refine pj_X_of (fun r h => pj_T_gr iG6 rfl rfl rfl h) ?_
  refine pj_X_of (fun r h => pj_R_to (G6, 29, [(0, .ref 57), (1, .ref 21)], [.ref 57, .int (Int32.ofInt 0), .ref 23], 0, 0) 29 3 (fun _ => rfl) h) ?_
  refine pj_X_of (fun r h => pj_T_gr iG6 rfl rfl rfl h) ?_
  refine pj_X_of (fun r h => pj_R_to (G6, 35, [(0, .ref 57), (1, .ref 21)], [.int ((Int8.ofInt 6).toInt32), .int (Int32.ofInt 0), .ref 59, .int (Int32.ofInt 0), .ref 23], 0, 0) 35 3 (fun _ => rfl) h) ?_
  refine pj_X_of (fun r h => pj_T_cp iG6 rfl rfl rfl rfl (by omega) (by omega) (by show _ = ((6 : Nat) : Int); omega) (Nat.le_of_ble_eq_true rfl) h) ?_
  show pj_X _ _ (pj_wc G6 23 59 6) 38 [(0, .ref 57), (1, .ref 21)] [] _
  obtain ⟨G7, hG7⟩ : ∃ H, H = pj_wc G6 23 59 6 := ⟨_, rfl⟩
  have iG7 : pj_Inv G7 := by rw [hG7]; exact pj_Inv_wc iG6 rfl rfl (fun q hq => by cases hq) rfl
  have kG7 : pj_kpt kc_68_57_21x G0 G7 := by rw [hG7]; exact pj_kpt_c kG6 rfl
  rw [← hG7]
  rw [pj_nm_e]
  refine pj_X_of (fun r h => pj_R_to (G7, 39, [(0, .ref 57), (1, .ref 21)], [.ref 21], 0, 0) 39 2 (fun _ => rfl) h) ?_
  refine pj_X_of (fun r h => pj_T_gr iG7 rfl rfl rfl h) ?_
  refine pj_X_of (fun r h => pj_R_to (G7, 44, [(0, .ref 57), (1, .ref 21)], [.ref 57, .int (Int32.ofInt 0), .ref 24], 0, 0) 44 3 (fun _ => rfl) h) ?_
  refine pj_X_of (fun r h => pj_T_gr iG7 rfl rfl rfl h) ?_
  refine pj_X_of (fun r h => pj_R_to (G7, 50, [(0, .ref 57), (1, .ref 21)], [.int ((Int8.ofInt 6).toInt32), .int (Int32.ofInt 0), .ref 60, .int (Int32.ofInt 0), .ref 24], 0, 0) 50 3 (fun _ => rfl) h) ?_
  refine pj_X_of (fun r h => pj_T_cp iG7 rfl rfl rfl rfl (by omega) (by omega) (by show _ = ((6 : Nat) : Int); omega) (Nat.le_of_ble_eq_true rfl) h) ?_
  show pj_X _ _ (pj_wc G7 24 60 6) 53 [(0, .ref 57), (1, .ref 21)] [] _
  obtain ⟨G8, hG8⟩ : ∃ H, H = pj_wc G7 24 60 6 := ⟨_, rfl⟩
  have iG8 : pj_Inv G8 := by rw [hG8]; exact pj_Inv_wc iG7 rfl rfl (fun q hq => by cases hq) rfl
  have kG8 : pj_kpt kc_68_57_21x G0 G8 := by rw [hG8]; exact pj_kpt_c kG7 rfl
  rw [← hG8]
  rw [pj_nm_e]
  refine pj_X_of (fun r h => pj_R_to (G8, 54, [(0, .ref 57), (1, .ref 21)], [.ref 21], 0, 0) 54 2 (fun _ => rfl) h) ?_
  refine pj_X_of (fun r h => pj_T_gr iG8 rfl rfl rfl h) ?_
  refine pj_X_of (fun r h => pj_R_to (G8, 59, [(0, .ref 57), (1, .ref 21)], [.ref 57, .int (Int32.ofInt 0), .ref 25], 0, 0) 59 3 (fun _ => rfl) h) ?_
  refine pj_X_of (fun r h => pj_T_gr iG8 rfl rfl rfl h) ?_
  refine pj_X_of (fun r h => pj_R_to (G8, 65, [(0, .ref 57), (1, .ref 21)], [.int ((Int8.ofInt 6).toInt32), .int (Int32.ofInt 0), .ref 61, .int (Int32.ofInt 0), .ref 25], 0, 0) 65 3 (fun _ => rfl) h) ?_
  refine pj_X_of (fun r h => pj_T_cp iG8 rfl rfl rfl rfl (by omega) (by omega) (by show _ = ((6 : Nat) : Int); omega) (Nat.le_of_ble_eq_true rfl) h) ?_
  show pj_X _ _ (pj_wc G8 25 61 6) 68 [(0, .ref 57), (1, .ref 21)] [] _
  obtain ⟨G9, hG9⟩ : ∃ H, H = pj_wc G8 25 61 6 := ⟨_, rfl⟩
  have iG9 : pj_Inv G9 := by rw [hG9]; exact pj_Inv_wc iG8 rfl rfl (fun q hq => by cases hq) rfl
  have kG9 : pj_kpt kc_68_57_21x G0 G9 := by rw [hG9]; exact pj_kpt_c kG8 rfl
  rw [← hG9]
  rw [pj_nm_e]
  refine pj_X_of (fun r h => pj_R_to (G9, 70, [(0, .ref 57), (1, .ref 21)], [.ref 21, .ref 57], 0, 0) 70 3 (fun _ => rfl) h) ?_
  refine pj_X_of (fun r h => pj_T_gi iG9 rfl rfl h) ?_
  show pj_X _ _ G9 73 [(0, .ref 57), (1, .ref 21)] [.int (pj_fi G9 21 5), .ref 57] _
  rw [← hy4, pj_nm_e]
  rw [show pj_fi G9 21 5 = y4 from by rw [hG9, pj_fi_wc]; exact (by rw [hG8, pj_fi_wc]; exact (by rw [hG7, pj_fi_wc]; exact (by rw [hG6, pj_fi_wc]; exact (by rw [hG5, pj_fi_wv_ne _ _ _ _ _ _ (by decide)]; exact hy4.symm))))]
  refine pj_X_of (fun r h => pj_T_pf iG9 rfl rfl rfl h) ?_
  show pj_X _ _ (pj_wv G9 57 5 (.int y4)) 76 [(0, .ref 57), (1, .ref 21)] [] _
  obtain ⟨G10, hG10⟩ : ∃ H, H = pj_wv G9 57 5 (.int y4) := ⟨_, rfl⟩
  have iG10 : pj_Inv G10 := by rw [hG10]; exact pj_Inv_wi iG9 (ci := 8) rfl (fun q hq => by cases hq; exact ⟨by show (0 : Int) ≤ _; omega, by show _ ≤ (6 : Int); omega⟩)
  have kG10 : pj_kpt kc_68_57_21x G0 G10 := by rw [hG10]; exact pj_kpt_v kG9 rfl
  rw [← hG10]
  rw [pj_nm_e]
  refine pj_X_of (fun r h => pj_R_to (G10, 77, [(0, .ref 57), (1, .ref 21)], [.ref 21], 0, 0) 77 2 (fun _ => rfl) h) ?_
  refine pj_X_of (fun r h => pj_T_gr iG10 rfl rfl rfl h) ?_
  refine pj_X_of (fun r h => pj_R_to (G10, 82, [(0, .ref 57), (1, .ref 21)], [.ref 57, .int (Int32.ofInt 0), .ref 26], 0, 0) 82 3 (fun _ => rfl) h) ?_
  refine pj_X_of (fun r h => pj_T_gr iG10 rfl rfl rfl h) ?_
  refine pj_X_of (fun r h => pj_R_to (G10, 88, [(0, .ref 57), (1, .ref 21)], [.int ((Int8.ofInt 6).toInt32), .int (Int32.ofInt 0), .ref 62, .int (Int32.ofInt 0), .ref 26], 0, 0) 88 3 (fun _ => rfl) h) ?_
  refine pj_X_of (fun r h => pj_T_cp iG10 rfl rfl rfl rfl (by omega) (by omega) (by show _ = ((6 : Nat) : Int); omega) (Nat.le_of_ble_eq_true rfl) h) ?_
  show pj_X _ _ (pj_wc G10 26 62 6) 91 [(0, .ref 57), (1, .ref 21)] [] _
  obtain ⟨G11, hG11⟩ : ∃ H, H = pj_wc G10 26 62 6 := ⟨_, rfl⟩
  have iG11 : pj_Inv G11 := by rw [hG11]; exact pj_Inv_wc iG10 rfl rfl (fun q hq => by cases hq; exact ⟨rfl, by decide⟩) rfl
  have kG11 : pj_kpt kc_68_57_21x G0 G11 := by rw [hG11]; exact pj_kpt_c kG10 rfl
  rw [← hG11]
  rw [pj_nm_e]
  refine pj_X_of (fun r h => pj_R_to (G11, 93, [(0, .ref 57), (1, .ref 21)], [.ref 21, .ref 57], 0, 0) 93 3 (fun _ => rfl) h) ?_
  refine pj_X_of (fun r h => pj_T_gi iG11 rfl rfl h) ?_
  show pj_X _ _ G11 96 [(0, .ref 57), (1, .ref 21)] [.int (pj_fi G11 21 7), .ref 57] _
  obtain ⟨y12, hy12⟩ : ∃ z : Int32, z = pj_fi G11 21 7 := ⟨_, rfl⟩
  rw [← hy12]
  rw [pj_nm_e]
  have ey12 : (pj_fi G11 21 7).toInt = y12.toInt := by rw [hy12]
  refine pj_X_of (fun r h => pj_T_pf iG11 rfl rfl rfl h) ?_
  show pj_X _ _ (pj_wv G11 57 7 (.int y12)) 99 [(0, .ref 57), (1, .ref 21)] [] _
  obtain ⟨G13, hG13⟩ : ∃ H, H = pj_wv G11 57 7 (.int y12) := ⟨_, rfl⟩
  have iG13 : pj_Inv G13 := by rw [hG13]; exact pj_Inv_wi iG11 (ci := 8) rfl (fun q hq => by cases hq)
  have kG13 : pj_kpt kc_68_57_21x G0 G13 := by rw [hG13]; exact pj_kpt_v kG11 rfl
  rw [← hG13]
  rw [pj_nm_e]
  refine pj_X_of (fun r h => pj_R_to (G13, 101, [(0, .ref 57), (1, .ref 21)], [.ref 21, .ref 57], 0, 0) 101 3 (fun _ => rfl) h) ?_
  refine pj_X_of (fun r h => pj_T_gi iG13 rfl rfl h) ?_
  show pj_X _ _ G13 104 [(0, .ref 57), (1, .ref 21)] [.int (pj_fi G13 21 8), .ref 57] _
  obtain ⟨y14, hy14⟩ : ∃ z : Int32, z = pj_fi G13 21 8 := ⟨_, rfl⟩
  rw [← hy14]
  rw [pj_nm_e]
  have ey14 : (pj_fi G13 21 8).toInt = y14.toInt := by rw [hy14]
  refine pj_X_of (fun r h => pj_T_pf iG13 rfl rfl rfl h) ?_
  show pj_X _ _ (pj_wv G13 57 8 (.int y14)) 107 [(0, .ref 57), (1, .ref 21)] [] _
  obtain ⟨G15, hG15⟩ : ∃ H, H = pj_wv G13 57 8 (.int y14) := ⟨_, rfl⟩
  have iG15 : pj_Inv G15 := by rw [hG15]; exact pj_Inv_wi iG13 (ci := 8) rfl (fun q hq => by cases hq)
  have kG15 : pj_kpt kc_68_57_21x G0 G15 := by rw [hG15]; exact pj_kpt_v kG13 rfl
  rw [← hG15]
  rw [pj_nm_e]
  have q16 : (pj_fi G15 57 0).toInt = y3.toInt := by rw [show pj_fi G15 57 0 = y3 from by rw [hG15, pj_fi_wv_ne _ _ _ _ _ _ (by decide)]; exact (by rw [hG13, pj_fi_wv_ne _ _ _ _ _ _ (by decide)]; exact (by rw [hG11, pj_fi_wc]; exact (by rw [hG10, pj_fi_wv_ne _ _ _ _ _ _ (by decide)]; exact (by rw [hG9, pj_fi_wc]; exact (by rw [hG8, pj_fi_wc]; exact (by rw [hG7, pj_fi_wc]; exact (by rw [hG6, pj_fi_wc]; exact (by rw [hG5]; exact pj_fi_wi hI.1 (ci := 8) rfl _))))))))]
  have q17 : (pj_fi G15 57 5).toInt = y4.toInt := by rw [show pj_fi G15 57 5 = y4 from by rw [hG15, pj_fi_wv_ne _ _ _ _ _ _ (by decide)]; exact (by rw [hG13, pj_fi_wv_ne _ _ _ _ _ _ (by decide)]; exact (by rw [hG11, pj_fi_wc]; exact (by rw [hG10]; exact pj_fi_wi iG9.1 (ci := 8) rfl _)))]
  have q18 : (pj_fi G15 21 0).toInt = y3.toInt := by rw [show pj_fi G15 21 0 = y3 from by rw [hG15, pj_fi_wv_ne _ _ _ _ _ _ (by decide)]; exact (by rw [hG13, pj_fi_wv_ne _ _ _ _ _ _ (by decide)]; exact (by rw [hG11, pj_fi_wc]; exact (by rw [hG10, pj_fi_wv_ne _ _ _ _ _ _ (by decide)]; exact (by rw [hG9, pj_fi_wc]; exact (by rw [hG8, pj_fi_wc]; exact (by rw [hG7, pj_fi_wc]; exact (by rw [hG6, pj_fi_wc]; exact (by rw [hG5, pj_fi_wv_ne _ _ _ _ _ _ (by decide)]; exact hy3.symm))))))))]
  have q19 : (pj_fi G15 21 5).toInt = y4.toInt := by rw [show pj_fi G15 21 5 = y4 from by rw [hG15, pj_fi_wv_ne _ _ _ _ _ _ (by decide)]; exact (by rw [hG13, pj_fi_wv_ne _ _ _ _ _ _ (by decide)]; exact (by rw [hG11, pj_fi_wc]; exact (by rw [hG10, pj_fi_wv_ne _ _ _ _ _ _ (by decide)]; exact (by rw [hG9, pj_fi_wc]; exact (by rw [hG8, pj_fi_wc]; exact (by rw [hG7, pj_fi_wc]; exact (by rw [hG6, pj_fi_wc]; exact (by rw [hG5, pj_fi_wv_ne _ _ _ _ _ _ (by decide)]; exact hy4.symm))))))))]
  exact pj_X_rt rfl rfl ⟨rfl, iG15, kG15, (fun H hH => by subst hH; exact (by omega)), rfl⟩
theorem fr_68_57_21x (G0 : pj_G) (hI : pj_Inv G0) : pj_Inv (F_68_57_21x G0) ∧ pj_kpt kc_68_57_21x G0 (F_68_57_21x G0) ∧ ((pj_fi (F_68_57_21x G0) 57 0).toInt = (pj_fi G0 21 0).toInt ∧ (pj_fi (F_68_57_21x G0) 57 5).toInt = (pj_fi G0 21 5).toInt) := by
  obtain ⟨v, G', -, -, i, j, x, e⟩ := ct_68_57_21x G0 hI 
  rw [← e]
  exact ⟨i, j, x _ rfl⟩
def kc_68_63_21x : pj_KT := ([(63, 0), (63, 5), (63, 7), (63, 8)], [63, 64, 65, 66, 67, 68], [64, 65, 66, 67, 68])
noncomputable def F_68_63_21x (G0 : pj_G) : pj_G := pj_nm (pj_fi G0 21 0) (fun y3 => pj_nm (pj_wv G0 63 0 (.int y3)) (fun G5 => pj_nm (pj_wc G5 22 64 6) (fun G6 => pj_nm (pj_wc G6 23 65 6) (fun G7 => pj_nm (pj_wc G7 24 66 6) (fun G8 => pj_nm (pj_wc G8 25 67 6) (fun G9 => pj_nm (pj_fi G0 21 5) (fun y4 => pj_nm (pj_wv G9 63 5 (.int y4)) (fun G10 => pj_nm (pj_wc G10 26 68 6) (fun G11 => pj_nm (pj_fi G11 21 7) (fun y12 => pj_nm (pj_wv G11 63 7 (.int y12)) (fun G13 => pj_nm (pj_fi G13 21 8) (fun y14 => pj_nm (pj_wv G13 63 8 (.int y14)) (fun G15 => G15)))))))))))))
theorem F_68_63_21x_e (G0 : pj_G) : F_68_63_21x G0 = pj_nm (pj_fi G0 21 0) (fun y3 => pj_nm (pj_wv G0 63 0 (.int y3)) (fun G5 => pj_nm (pj_wc G5 22 64 6) (fun G6 => pj_nm (pj_wc G6 23 65 6) (fun G7 => pj_nm (pj_wc G7 24 66 6) (fun G8 => pj_nm (pj_wc G8 25 67 6) (fun G9 => pj_nm (pj_fi G0 21 5) (fun y4 => pj_nm (pj_wv G9 63 5 (.int y4)) (fun G10 => pj_nm (pj_wc G10 26 68 6) (fun G11 => pj_nm (pj_fi G11 21 7) (fun y12 => pj_nm (pj_wv G11 63 7 (.int y12)) (fun G13 => pj_nm (pj_fi G13 21 8) (fun y14 => pj_nm (pj_wv G13 63 8 (.int y14)) (fun G15 => G15))))))))))))) := rfl
theorem ct_68_63_21x (G0 : pj_G) (hI : pj_Inv G0) : pj_Y 1 68 [.ref 63, .ref 21] G0 (fun v' G' => v' = none ∧ pj_Inv G' ∧ pj_kpt kc_68_63_21x G0 G' ∧ (∀ H, G0 = H → ((pj_fi G' 63 0).toInt = (pj_fi H 21 0).toInt ∧ (pj_fi G' 63 5).toInt = (pj_fi H 21 5).toInt)) ∧ (G' = F_68_63_21x G0)) := by
  have c0_ : ((Int8.ofInt 6).toInt32).toInt = 6 := by decide
  have c1_ : (Int32.ofInt 0).toInt = 0 := by decide
  refine pj_Y_X (M := pj_m68) rfl rfl (Nat.le_of_ble_eq_true rfl) ?_
  have hK : pj_kpt kc_68_63_21x G0 G0 := pj_kpt_r _ _
  show pj_X _ _ G0 0 [(0, .ref 63), (1, .ref 21)] [] _
  rw [F_68_63_21x_e]
  obtain ⟨y1, hy1⟩ : ∃ z : Int32, z = pj_fi G0 63 0 := ⟨_, rfl⟩
  have ey1 : (pj_fi G0 63 0).toInt = y1.toInt := by rw [hy1]
  have ry1 : (0 : Int) ≤ y1.toInt ∧ y1.toInt ≤ 6 := by rw [hy1]; exact hI.2.1 63 0 (0, 6) rfl
  obtain ⟨y2, hy2⟩ : ∃ z : Int32, z = pj_fi G0 63 5 := ⟨_, rfl⟩
  have ey2 : (pj_fi G0 63 5).toInt = y2.toInt := by rw [hy2]
  have ry2 : (0 : Int) ≤ y2.toInt ∧ y2.toInt ≤ 6 := by rw [hy2]; exact hI.2.1 63 5 (0, 6) rfl
  obtain ⟨y3, hy3⟩ : ∃ z : Int32, z = pj_fi G0 21 0 := ⟨_, rfl⟩
  have ey3 : (pj_fi G0 21 0).toInt = y3.toInt := by rw [hy3]
  have ry3 : (0 : Int) ≤ y3.toInt ∧ y3.toInt ≤ 6 := by rw [hy3]; exact hI.2.1 21 0 (0, 6) rfl
  obtain ⟨y4, hy4⟩ : ∃ z : Int32, z = pj_fi G0 21 5 := ⟨_, rfl⟩
  have ey4 : (pj_fi G0 21 5).toInt = y4.toInt := by rw [hy4]
  have ry4 : (0 : Int) ≤ y4.toInt ∧ y4.toInt ≤ 6 := by rw [hy4]; exact hI.2.1 21 5 (0, 6) rfl
  refine pj_X_of (fun r h => pj_R_to (G0, 2, [(0, .ref 63), (1, .ref 21)], [.ref 21, .ref 63], 0, 0) 2 3 (fun _ => rfl) h) ?_
  refine pj_X_of (fun r h => pj_T_gi hI rfl rfl h) ?_
  show pj_X _ _ G0 5 [(0, .ref 63), (1, .ref 21)] [.int (pj_fi G0 21 0), .ref 63] _
  rw [← hy3, pj_nm_e]
  refine pj_X_of (fun r h => pj_T_pf hI rfl rfl rfl h) ?_
  show pj_X _ _ (pj_wv G0 63 0 (.int y3)) 8 [(0, .ref 63), (1, .ref 21)] [] _
  obtain ⟨G5, hG5⟩ : ∃ H, H = pj_wv G0 63 0 (.int y3) := ⟨_, rfl⟩
  have iG5 : pj_Inv G5 := by rw [hG5]; exact pj_Inv_wi hI (ci := 8) rfl (fun q hq => by cases hq; exact ⟨by show (0 : Int) ≤ _; omega, by show _ ≤ (6 : Int); omega⟩)
  have kG5 : pj_kpt kc_68_63_21x G0 G5 := by rw [hG5]; exact pj_kpt_v hK rfl
  rw [← hG5]
  rw [pj_nm_e]
  refine pj_X_of (fun r h => pj_R_to (G5, 9, [(0, .ref 63), (1, .ref 21)], [.ref 21], 0, 0) 9 2 (fun _ => rfl) h) ?_
  refine pj_X_of (fun r h => pj_T_gr iG5 rfl rfl rfl h) ?_
  refine pj_X_of (fun r h => pj_R_to (G5, 14, [(0, .ref 63), (1, .ref 21)], [.ref 63, .int (Int32.ofInt 0), .ref 22], 0, 0) 14 3 (fun _ => rfl) h) ?_
  refine pj_X_of (fun r h => pj_T_gr iG5 rfl rfl rfl h) ?_
  refine pj_X_of (fun r h => pj_R_to (G5, 20, [(0, .ref 63), (1, .ref 21)], [.int ((Int8.ofInt 6).toInt32), .int (Int32.ofInt 0), .ref 64, .int (Int32.ofInt 0), .ref 22], 0, 0) 20 3 (fun _ => rfl) h) ?_
  refine pj_X_of (fun r h => pj_T_cp iG5 rfl rfl rfl rfl (by omega) (by omega) (by show _ = ((6 : Nat) : Int); omega) (Nat.le_of_ble_eq_true rfl) h) ?_
  show pj_X _ _ (pj_wc G5 22 64 6) 23 [(0, .ref 63), (1, .ref 21)] [] _
  obtain ⟨G6, hG6⟩ : ∃ H, H = pj_wc G5 22 64 6 := ⟨_, rfl⟩
  have iG6 : pj_Inv G6 := by rw [hG6]; exact pj_Inv_wc iG5 rfl rfl (fun q hq => by cases hq; exact ⟨rfl, by decide⟩) rfl
  have kG6 : pj_kpt kc_68_63_21x G0 G6 := by rw [hG6]; exact pj_kpt_c kG5 rfl
  rw [← hG6]
  rw [pj_nm_e]
  refine pj_X_of (fun r h => pj_R_to (G6, 24, [(0, .ref 63), (1, .ref 21)], [.ref 21], 0, 0) 24 2 (fun _ => rfl) h) ?_
  refine pj_X_of (fun r h => pj_T_gr iG6 rfl rfl rfl h) ?_
  refine pj_X_of (fun r h => pj_R_to (G6, 29, [(0, .ref 63), (1, .ref 21)], [.ref 63, .int (Int32.ofInt 0), .ref 23], 0, 0) 29 3 (fun _ => rfl) h) ?_
  refine pj_X_of (fun r h => pj_T_gr iG6 rfl rfl rfl h) ?_
  refine pj_X_of (fun r h => pj_R_to (G6, 35, [(0, .ref 63), (1, .ref 21)], [.int ((Int8.ofInt 6).toInt32), .int (Int32.ofInt 0), .ref 65, .int (Int32.ofInt 0), .ref 23], 0, 0) 35 3 (fun _ => rfl) h) ?_
  refine pj_X_of (fun r h => pj_T_cp iG6 rfl rfl rfl rfl (by omega) (by omega) (by show _ = ((6 : Nat) : Int); omega) (Nat.le_of_ble_eq_true rfl) h) ?_
  show pj_X _ _ (pj_wc G6 23 65 6) 38 [(0, .ref 63), (1, .ref 21)] [] _
  obtain ⟨G7, hG7⟩ : ∃ H, H = pj_wc G6 23 65 6 := ⟨_, rfl⟩
  have iG7 : pj_Inv G7 := by rw [hG7]; exact pj_Inv_wc iG6 rfl rfl (fun q hq => by cases hq) rfl
  have kG7 : pj_kpt kc_68_63_21x G0 G7 := by rw [hG7]; exact pj_kpt_c kG6 rfl
  rw [← hG7]
  rw [pj_nm_e]
  refine pj_X_of (fun r h => pj_R_to (G7, 39, [(0, .ref 63), (1, .ref 21)], [.ref 21], 0, 0) 39 2 (fun _ => rfl) h) ?_
  refine pj_X_of (fun r h => pj_T_gr iG7 rfl rfl rfl h) ?_
  refine pj_X_of (fun r h => pj_R_to (G7, 44, [(0, .ref 63), (1, .ref 21)], [.ref 63, .int (Int32.ofInt 0), .ref 24], 0, 0) 44 3 (fun _ => rfl) h) ?_
  refine pj_X_of (fun r h => pj_T_gr iG7 rfl rfl rfl h) ?_
  refine pj_X_of (fun r h => pj_R_to (G7, 50, [(0, .ref 63), (1, .ref 21)], [.int ((Int8.ofInt 6).toInt32), .int (Int32.ofInt 0), .ref 66, .int (Int32.ofInt 0), .ref 24], 0, 0) 50 3 (fun _ => rfl) h) ?_
  refine pj_X_of (fun r h => pj_T_cp iG7 rfl rfl rfl rfl (by omega) (by omega) (by show _ = ((6 : Nat) : Int); omega) (Nat.le_of_ble_eq_true rfl) h) ?_
  show pj_X _ _ (pj_wc G7 24 66 6) 53 [(0, .ref 63), (1, .ref 21)] [] _
  obtain ⟨G8, hG8⟩ : ∃ H, H = pj_wc G7 24 66 6 := ⟨_, rfl⟩
  have iG8 : pj_Inv G8 := by rw [hG8]; exact pj_Inv_wc iG7 rfl rfl (fun q hq => by cases hq) rfl
  have kG8 : pj_kpt kc_68_63_21x G0 G8 := by rw [hG8]; exact pj_kpt_c kG7 rfl
  rw [← hG8]
  rw [pj_nm_e]
  refine pj_X_of (fun r h => pj_R_to (G8, 54, [(0, .ref 63), (1, .ref 21)], [.ref 21], 0, 0) 54 2 (fun _ => rfl) h) ?_
  refine pj_X_of (fun r h => pj_T_gr iG8 rfl rfl rfl h) ?_
  refine pj_X_of (fun r h => pj_R_to (G8, 59, [(0, .ref 63), (1, .ref 21)], [.ref 63, .int (Int32.ofInt 0), .ref 25], 0, 0) 59 3 (fun _ => rfl) h) ?_
  refine pj_X_of (fun r h => pj_T_gr iG8 rfl rfl rfl h) ?_
  refine pj_X_of (fun r h => pj_R_to (G8, 65, [(0, .ref 63), (1, .ref 21)], [.int ((Int8.ofInt 6).toInt32), .int (Int32.ofInt 0), .ref 67, .int (Int32.ofInt 0), .ref 25], 0, 0) 65 3 (fun _ => rfl) h) ?_
  refine pj_X_of (fun r h => pj_T_cp iG8 rfl rfl rfl rfl (by omega) (by omega) (by show _ = ((6 : Nat) : Int); omega) (Nat.le_of_ble_eq_true rfl) h) ?_
  show pj_X _ _ (pj_wc G8 25 67 6) 68 [(0, .ref 63), (1, .ref 21)] [] _
  obtain ⟨G9, hG9⟩ : ∃ H, H = pj_wc G8 25 67 6 := ⟨_, rfl⟩
  have iG9 : pj_Inv G9 := by rw [hG9]; exact pj_Inv_wc iG8 rfl rfl (fun q hq => by cases hq) rfl
  have kG9 : pj_kpt kc_68_63_21x G0 G9 := by rw [hG9]; exact pj_kpt_c kG8 rfl
  rw [← hG9]
  rw [pj_nm_e]
  refine pj_X_of (fun r h => pj_R_to (G9, 70, [(0, .ref 63), (1, .ref 21)], [.ref 21, .ref 63], 0, 0) 70 3 (fun _ => rfl) h) ?_
  refine pj_X_of (fun r h => pj_T_gi iG9 rfl rfl h) ?_
  show pj_X _ _ G9 73 [(0, .ref 63), (1, .ref 21)] [.int (pj_fi G9 21 5), .ref 63] _
  rw [← hy4, pj_nm_e]
  rw [show pj_fi G9 21 5 = y4 from by rw [hG9, pj_fi_wc]; exact (by rw [hG8, pj_fi_wc]; exact (by rw [hG7, pj_fi_wc]; exact (by rw [hG6, pj_fi_wc]; exact (by rw [hG5, pj_fi_wv_ne _ _ _ _ _ _ (by decide)]; exact hy4.symm))))]
  refine pj_X_of (fun r h => pj_T_pf iG9 rfl rfl rfl h) ?_
  show pj_X _ _ (pj_wv G9 63 5 (.int y4)) 76 [(0, .ref 63), (1, .ref 21)] [] _
  obtain ⟨G10, hG10⟩ : ∃ H, H = pj_wv G9 63 5 (.int y4) := ⟨_, rfl⟩
  have iG10 : pj_Inv G10 := by rw [hG10]; exact pj_Inv_wi iG9 (ci := 8) rfl (fun q hq => by cases hq; exact ⟨by show (0 : Int) ≤ _; omega, by show _ ≤ (6 : Int); omega⟩)
  have kG10 : pj_kpt kc_68_63_21x G0 G10 := by rw [hG10]; exact pj_kpt_v kG9 rfl
  rw [← hG10]
  rw [pj_nm_e]
  refine pj_X_of (fun r h => pj_R_to (G10, 77, [(0, .ref 63), (1, .ref 21)], [.ref 21], 0, 0) 77 2 (fun _ => rfl) h) ?_
  refine pj_X_of (fun r h => pj_T_gr iG10 rfl rfl rfl h) ?_
  refine pj_X_of (fun r h => pj_R_to (G10, 82, [(0, .ref 63), (1, .ref 21)], [.ref 63, .int (Int32.ofInt 0), .ref 26], 0, 0) 82 3 (fun _ => rfl) h) ?_
  refine pj_X_of (fun r h => pj_T_gr iG10 rfl rfl rfl h) ?_
  refine pj_X_of (fun r h => pj_R_to (G10, 88, [(0, .ref 63), (1, .ref 21)], [.int ((Int8.ofInt 6).toInt32), .int (Int32.ofInt 0), .ref 68, .int (Int32.ofInt 0), .ref 26], 0, 0) 88 3 (fun _ => rfl) h) ?_
  refine pj_X_of (fun r h => pj_T_cp iG10 rfl rfl rfl rfl (by omega) (by omega) (by show _ = ((6 : Nat) : Int); omega) (Nat.le_of_ble_eq_true rfl) h) ?_
  show pj_X _ _ (pj_wc G10 26 68 6) 91 [(0, .ref 63), (1, .ref 21)] [] _
  obtain ⟨G11, hG11⟩ : ∃ H, H = pj_wc G10 26 68 6 := ⟨_, rfl⟩
  have iG11 : pj_Inv G11 := by rw [hG11]; exact pj_Inv_wc iG10 rfl rfl (fun q hq => by cases hq; exact ⟨rfl, by decide⟩) rfl
  have kG11 : pj_kpt kc_68_63_21x G0 G11 := by rw [hG11]; exact pj_kpt_c kG10 rfl
  rw [← hG11]
  rw [pj_nm_e]
  refine pj_X_of (fun r h => pj_R_to (G11, 93, [(0, .ref 63), (1, .ref 21)], [.ref 21, .ref 63], 0, 0) 93 3 (fun _ => rfl) h) ?_
  refine pj_X_of (fun r h => pj_T_gi iG11 rfl rfl h) ?_
  show pj_X _ _ G11 96 [(0, .ref 63), (1, .ref 21)] [.int (pj_fi G11 21 7), .ref 63] _
  obtain ⟨y12, hy12⟩ : ∃ z : Int32, z = pj_fi G11 21 7 := ⟨_, rfl⟩
  rw [← hy12]
  rw [pj_nm_e]
  have ey12 : (pj_fi G11 21 7).toInt = y12.toInt := by rw [hy12]
  refine pj_X_of (fun r h => pj_T_pf iG11 rfl rfl rfl h) ?_
  show pj_X _ _ (pj_wv G11 63 7 (.int y12)) 99 [(0, .ref 63), (1, .ref 21)] [] _
  obtain ⟨G13, hG13⟩ : ∃ H, H = pj_wv G11 63 7 (.int y12) := ⟨_, rfl⟩
  have iG13 : pj_Inv G13 := by rw [hG13]; exact pj_Inv_wi iG11 (ci := 8) rfl (fun q hq => by cases hq)
  have kG13 : pj_kpt kc_68_63_21x G0 G13 := by rw [hG13]; exact pj_kpt_v kG11 rfl
  rw [← hG13]
  rw [pj_nm_e]
  refine pj_X_of (fun r h => pj_R_to (G13, 101, [(0, .ref 63), (1, .ref 21)], [.ref 21, .ref 63], 0, 0) 101 3 (fun _ => rfl) h) ?_
  refine pj_X_of (fun r h => pj_T_gi iG13 rfl rfl h) ?_
  show pj_X _ _ G13 104 [(0, .ref 63), (1, .ref 21)] [.int (pj_fi G13 21 8), .ref 63] _
  obtain ⟨y14, hy14⟩ : ∃ z : Int32, z = pj_fi G13 21 8 := ⟨_, rfl⟩
  rw [← hy14]
  rw [pj_nm_e]
  have ey14 : (pj_fi G13 21 8).toInt = y14.toInt := by rw [hy14]
  refine pj_X_of (fun r h => pj_T_pf iG13 rfl rfl rfl h) ?_
  show pj_X _ _ (pj_wv G13 63 8 (.int y14)) 107 [(0, .ref 63), (1, .ref 21)] [] _
  obtain ⟨G15, hG15⟩ : ∃ H, H = pj_wv G13 63 8 (.int y14) := ⟨_, rfl⟩
  have iG15 : pj_Inv G15 := by rw [hG15]; exact pj_Inv_wi iG13 (ci := 8) rfl (fun q hq => by cases hq)
  have kG15 : pj_kpt kc_68_63_21x G0 G15 := by rw [hG15]; exact pj_kpt_v kG13 rfl
  rw [← hG15]
  rw [pj_nm_e]
  have q16 : (pj_fi G15 63 0).toInt = y3.toInt := by rw [show pj_fi G15 63 0 = y3 from by rw [hG15, pj_fi_wv_ne _ _ _ _ _ _ (by decide)]; exact (by rw [hG13, pj_fi_wv_ne _ _ _ _ _ _ (by decide)]; exact (by rw [hG11, pj_fi_wc]; exact (by rw [hG10, pj_fi_wv_ne _ _ _ _ _ _ (by decide)]; exact (by rw [hG9, pj_fi_wc]; exact (by rw [hG8, pj_fi_wc]; exact (by rw [hG7, pj_fi_wc]; exact (by rw [hG6, pj_fi_wc]; exact (by rw [hG5]; exact pj_fi_wi hI.1 (ci := 8) rfl _))))))))]
  have q17 : (pj_fi G15 63 5).toInt = y4.toInt := by rw [show pj_fi G15 63 5 = y4 from by rw [hG15, pj_fi_wv_ne _ _ _ _ _ _ (by decide)]; exact (by rw [hG13, pj_fi_wv_ne _ _ _ _ _ _ (by decide)]; exact (by rw [hG11, pj_fi_wc]; exact (by rw [hG10]; exact pj_fi_wi iG9.1 (ci := 8) rfl _)))]
  have q18 : (pj_fi G15 21 0).toInt = y3.toInt := by rw [show pj_fi G15 21 0 = y3 from by rw [hG15, pj_fi_wv_ne _ _ _ _ _ _ (by decide)]; exact (by rw [hG13, pj_fi_wv_ne _ _ _ _ _ _ (by decide)]; exact (by rw [hG11, pj_fi_wc]; exact (by rw [hG10, pj_fi_wv_ne _ _ _ _ _ _ (by decide)]; exact (by rw [hG9, pj_fi_wc]; exact (by rw [hG8, pj_fi_wc]; exact (by rw [hG7, pj_fi_wc]; exact (by rw [hG6, pj_fi_wc]; exact (by rw [hG5, pj_fi_wv_ne _ _ _ _ _ _ (by decide)]; exact hy3.symm))))))))]
  have q19 : (pj_fi G15 21 5).toInt = y4.toInt := by rw [show pj_fi G15 21 5 = y4 from by rw [hG15, pj_fi_wv_ne _ _ _ _ _ _ (by decide)]; exact (by rw [hG13, pj_fi_wv_ne _ _ _ _ _ _ (by decide)]; exact (by rw [hG11, pj_fi_wc]; exact (by rw [hG10, pj_fi_wv_ne _ _ _ _ _ _ (by decide)]; exact (by rw [hG9, pj_fi_wc]; exact (by rw [hG8, pj_fi_wc]; exact (by rw [hG7, pj_fi_wc]; exact (by rw [hG6, pj_fi_wc]; exact (by rw [hG5, pj_fi_wv_ne _ _ _ _ _ _ (by decide)]; exact hy4.symm))))))))]
  exact pj_X_rt rfl rfl ⟨rfl, iG15, kG15, (fun H hH => by subst hH; exact (by omega)), rfl⟩
theorem fr_68_63_21x (G0 : pj_G) (hI : pj_Inv G0) : pj_Inv (F_68_63_21x G0) ∧ pj_kpt kc_68_63_21x G0 (F_68_63_21x G0) ∧ ((pj_fi (F_68_63_21x G0) 63 0).toInt = (pj_fi G0 21 0).toInt ∧ (pj_fi (F_68_63_21x G0) 63 5).toInt = (pj_fi G0 21 5).toInt) := by
  obtain ⟨v, G', -, -, i, j, x, e⟩ := ct_68_63_21x G0 hI 
  rw [← e]
  exact ⟨i, j, x _ rfl⟩
def kc_68_69_21x : pj_KT := ([(69, 0), (69, 5), (69, 7), (69, 8)], [69, 70, 71, 72, 73, 74], [70, 71, 72, 73, 74])
noncomputable def F_68_69_21x (G0 : pj_G) : pj_G := pj_nm (pj_fi G0 21 0) (fun y3 => pj_nm (pj_wv G0 69 0 (.int y3)) (fun G5 => pj_nm (pj_wc G5 22 70 6) (fun G6 => pj_nm (pj_wc G6 23 71 6) (fun G7 => pj_nm (pj_wc G7 24 72 6) (fun G8 => pj_nm (pj_wc G8 25 73 6) (fun G9 => pj_nm (pj_fi G0 21 5) (fun y4 => pj_nm (pj_wv G9 69 5 (.int y4)) (fun G10 => pj_nm (pj_wc G10 26 74 6) (fun G11 => pj_nm (pj_fi G11 21 7) (fun y12 => pj_nm (pj_wv G11 69 7 (.int y12)) (fun G13 => pj_nm (pj_fi G13 21 8) (fun y14 => pj_nm (pj_wv G13 69 8 (.int y14)) (fun G15 => G15)))))))))))))
theorem F_68_69_21x_e (G0 : pj_G) : F_68_69_21x G0 = pj_nm (pj_fi G0 21 0) (fun y3 => pj_nm (pj_wv G0 69 0 (.int y3)) (fun G5 => pj_nm (pj_wc G5 22 70 6) (fun G6 => pj_nm (pj_wc G6 23 71 6) (fun G7 => pj_nm (pj_wc G7 24 72 6) (fun G8 => pj_nm (pj_wc G8 25 73 6) (fun G9 => pj_nm (pj_fi G0 21 5) (fun y4 => pj_nm (pj_wv G9 69 5 (.int y4)) (fun G10 => pj_nm (pj_wc G10 26 74 6) (fun G11 => pj_nm (pj_fi G11 21 7) (fun y12 => pj_nm (pj_wv G11 69 7 (.int y12)) (fun G13 => pj_nm (pj_fi G13 21 8) (fun y14 => pj_nm (pj_wv G13 69 8 (.int y14)) (fun G15 => G15))))))))))))) := rfl
theorem ct_68_69_21x (G0 : pj_G) (hI : pj_Inv G0) : pj_Y 1 68 [.ref 69, .ref 21] G0 (fun v' G' => v' = none ∧ pj_Inv G' ∧ pj_kpt kc_68_69_21x G0 G' ∧ (∀ H, G0 = H → ((pj_fi G' 69 0).toInt = (pj_fi H 21 0).toInt ∧ (pj_fi G' 69 5).toInt = (pj_fi H 21 5).toInt)) ∧ (G' = F_68_69_21x G0)) := by
  have c0_ : ((Int8.ofInt 6).toInt32).toInt = 6 := by decide
  have c1_ : (Int32.ofInt 0).toInt = 0 := by decide
  refine pj_Y_X (M := pj_m68) rfl rfl (Nat.le_of_ble_eq_true rfl) ?_
  have hK : pj_kpt kc_68_69_21x G0 G0 := pj_kpt_r _ _
  show pj_X _ _ G0 0 [(0, .ref 69), (1, .ref 21)] [] _
  rw [F_68_69_21x_e]
  obtain ⟨y1, hy1⟩ : ∃ z : Int32, z = pj_fi G0 69 0 := ⟨_, rfl⟩
  have ey1 : (pj_fi G0 69 0).toInt = y1.toInt := by rw [hy1]
  have ry1 : (0 : Int) ≤ y1.toInt ∧ y1.toInt ≤ 6 := by rw [hy1]; exact hI.2.1 69 0 (0, 6) rfl
  obtain ⟨y2, hy2⟩ : ∃ z : Int32, z = pj_fi G0 69 5 := ⟨_, rfl⟩
  have ey2 : (pj_fi G0 69 5).toInt = y2.toInt := by rw [hy2]
  have ry2 : (0 : Int) ≤ y2.toInt ∧ y2.toInt ≤ 6 := by rw [hy2]; exact hI.2.1 69 5 (0, 6) rfl
  obtain ⟨y3, hy3⟩ : ∃ z : Int32, z = pj_fi G0 21 0 := ⟨_, rfl⟩
  have ey3 : (pj_fi G0 21 0).toInt = y3.toInt := by rw [hy3]
  have ry3 : (0 : Int) ≤ y3.toInt ∧ y3.toInt ≤ 6 := by rw [hy3]; exact hI.2.1 21 0 (0, 6) rfl
  obtain ⟨y4, hy4⟩ : ∃ z : Int32, z = pj_fi G0 21 5 := ⟨_, rfl⟩
  have ey4 : (pj_fi G0 21 5).toInt = y4.toInt := by rw [hy4]
  have ry4 : (0 : Int) ≤ y4.toInt ∧ y4.toInt ≤ 6 := by rw [hy4]; exact hI.2.1 21 5 (0, 6) rfl
  refine pj_X_of (fun r h => pj_R_to (G0, 2, [(0, .ref 69), (1, .ref 21)], [.ref 21, .ref 69], 0, 0) 2 3 (fun _ => rfl) h) ?_
  refine pj_X_of (fun r h => pj_T_gi hI rfl rfl h) ?_
  show pj_X _ _ G0 5 [(0, .ref 69), (1, .ref 21)] [.int (pj_fi G0 21 0), .ref 69] _
  rw [← hy3, pj_nm_e]
  refine pj_X_of (fun r h => pj_T_pf hI rfl rfl rfl h) ?_
  show pj_X _ _ (pj_wv G0 69 0 (.int y3)) 8 [(0, .ref 69), (1, .ref 21)] [] _
  obtain ⟨G5, hG5⟩ : ∃ H, H = pj_wv G0 69 0 (.int y3) := ⟨_, rfl⟩
  have iG5 : pj_Inv G5 := by rw [hG5]; exact pj_Inv_wi hI (ci := 8) rfl (fun q hq => by cases hq; exact ⟨by show (0 : Int) ≤ _; omega, by show _ ≤ (6 : Int); omega⟩)
  have kG5 : pj_kpt kc_68_69_21x G0 G5 := by rw [hG5]; exact pj_kpt_v hK rfl
  rw [← hG5]
  rw [pj_nm_e]
  refine pj_X_of (fun r h => pj_R_to (G5, 9, [(0, .ref 69), (1, .ref 21)], [.ref 21], 0, 0) 9 2 (fun _ => rfl) h) ?_
  refine pj_X_of (fun r h => pj_T_gr iG5 rfl rfl rfl h) ?_
  refine pj_X_of (fun r h => pj_R_to (G5, 14, [(0, .ref 69), (1, .ref 21)], [.ref 69, .int (Int32.ofInt 0), .ref 22], 0, 0) 14 3 (fun _ => rfl) h) ?_
  refine pj_X_of (fun r h => pj_T_gr iG5 rfl rfl rfl h) ?_
  refine pj_X_of (fun r h => pj_R_to (G5, 20, [(0, .ref 69), (1, .ref 21)], [.int ((Int8.ofInt 6).toInt32), .int (Int32.ofInt 0), .ref 70, .int (Int32.ofInt 0), .ref 22], 0, 0) 20 3 (fun _ => rfl) h) ?_
  refine pj_X_of (fun r h => pj_T_cp iG5 rfl rfl rfl rfl (by omega) (by omega) (by show _ = ((6 : Nat) : Int); omega) (Nat.le_of_ble_eq_true rfl) h) ?_
  show pj_X _ _ (pj_wc G5 22 70 6) 23 [(0, .ref 69), (1, .ref 21)] [] _
  obtain ⟨G6, hG6⟩ : ∃ H, H = pj_wc G5 22 70 6 := ⟨_, rfl⟩
  have iG6 : pj_Inv G6 := by rw [hG6]; exact pj_Inv_wc iG5 rfl rfl (fun q hq => by cases hq; exact ⟨rfl, by decide⟩) rfl
  have kG6 : pj_kpt kc_68_69_21x G0 G6 := by rw [hG6]; exact pj_kpt_c kG5 rfl
  rw [← hG6]
  rw [pj_nm_e]
  refine pj_X_of (fun r h => pj_R_to (G6, 24, [(0, .ref 69), (1, .ref 21)], [.ref 21], 0, 0) 24 2 (fun _ => rfl) h) ?_
  refine pj_X_of (fun r h => pj_T_gr iG6 rfl rfl rfl h) ?_
  refine pj_X_of (fun r h => pj_R_to (G6, 29, [(0, .ref 69), (1, .ref 21)], [.ref 69, .int (Int32.ofInt 0), .ref 23], 0, 0) 29 3 (fun _ => rfl) h) ?_
  refine pj_X_of (fun r h => pj_T_gr iG6 rfl rfl rfl h) ?_
  refine pj_X_of (fun r h => pj_R_to (G6, 35, [(0, .ref 69), (1, .ref 21)], [.int ((Int8.ofInt 6).toInt32), .int (Int32.ofInt 0), .ref 71, .int (Int32.ofInt 0), .ref 23], 0, 0) 35 3 (fun _ => rfl) h) ?_
  refine pj_X_of (fun r h => pj_T_cp iG6 rfl rfl rfl rfl (by omega) (by omega) (by show _ = ((6 : Nat) : Int); omega) (Nat.le_of_ble_eq_true rfl) h) ?_
  show pj_X _ _ (pj_wc G6 23 71 6) 38 [(0, .ref 69), (1, .ref 21)] [] _
  obtain ⟨G7, hG7⟩ : ∃ H, H = pj_wc G6 23 71 6 := ⟨_, rfl⟩
  have iG7 : pj_Inv G7 := by rw [hG7]; exact pj_Inv_wc iG6 rfl rfl (fun q hq => by cases hq) rfl
  have kG7 : pj_kpt kc_68_69_21x G0 G7 := by rw [hG7]; exact pj_kpt_c kG6 rfl
  rw [← hG7]
  rw [pj_nm_e]
  refine pj_X_of (fun r h => pj_R_to (G7, 39, [(0, .ref 69), (1, .ref 21)], [.ref 21], 0, 0) 39 2 (fun _ => rfl) h) ?_
  refine pj_X_of (fun r h => pj_T_gr iG7 rfl rfl rfl h) ?_
  refine pj_X_of (fun r h => pj_R_to (G7, 44, [(0, .ref 69), (1, .ref 21)], [.ref 69, .int (Int32.ofInt 0), .ref 24], 0, 0) 44 3 (fun _ => rfl) h) ?_
  refine pj_X_of (fun r h => pj_T_gr iG7 rfl rfl rfl h) ?_
  refine pj_X_of (fun r h => pj_R_to (G7, 50, [(0, .ref 69), (1, .ref 21)], [.int ((Int8.ofInt 6).toInt32), .int (Int32.ofInt 0), .ref 72, .int (Int32.ofInt 0), .ref 24], 0, 0) 50 3 (fun _ => rfl) h) ?_
  refine pj_X_of (fun r h => pj_T_cp iG7 rfl rfl rfl rfl (by omega) (by omega) (by show _ = ((6 : Nat) : Int); omega) (Nat.le_of_ble_eq_true rfl) h) ?_
  show pj_X _ _ (pj_wc G7 24 72 6) 53 [(0, .ref 69), (1, .ref 21)] [] _
  obtain ⟨G8, hG8⟩ : ∃ H, H = pj_wc G7 24 72 6 := ⟨_, rfl⟩
  have iG8 : pj_Inv G8 := by rw [hG8]; exact pj_Inv_wc iG7 rfl rfl (fun q hq => by cases hq) rfl
  have kG8 : pj_kpt kc_68_69_21x G0 G8 := by rw [hG8]; exact pj_kpt_c kG7 rfl
  rw [← hG8]
  rw [pj_nm_e]
  refine pj_X_of (fun r h => pj_R_to (G8, 54, [(0, .ref 69), (1, .ref 21)], [.ref 21], 0, 0) 54 2 (fun _ => rfl) h) ?_
  refine pj_X_of (fun r h => pj_T_gr iG8 rfl rfl rfl h) ?_
  refine pj_X_of (fun r h => pj_R_to (G8, 59, [(0, .ref 69), (1, .ref 21)], [.ref 69, .int (Int32.ofInt 0), .ref 25], 0, 0) 59 3 (fun _ => rfl) h) ?_
  refine pj_X_of (fun r h => pj_T_gr iG8 rfl rfl rfl h) ?_
  refine pj_X_of (fun r h => pj_R_to (G8, 65, [(0, .ref 69), (1, .ref 21)], [.int ((Int8.ofInt 6).toInt32), .int (Int32.ofInt 0), .ref 73, .int (Int32.ofInt 0), .ref 25], 0, 0) 65 3 (fun _ => rfl) h) ?_
  refine pj_X_of (fun r h => pj_T_cp iG8 rfl rfl rfl rfl (by omega) (by omega) (by show _ = ((6 : Nat) : Int); omega) (Nat.le_of_ble_eq_true rfl) h) ?_
  show pj_X _ _ (pj_wc G8 25 73 6) 68 [(0, .ref 69), (1, .ref 21)] [] _
  obtain ⟨G9, hG9⟩ : ∃ H, H = pj_wc G8 25 73 6 := ⟨_, rfl⟩
  have iG9 : pj_Inv G9 := by rw [hG9]; exact pj_Inv_wc iG8 rfl rfl (fun q hq => by cases hq) rfl
  have kG9 : pj_kpt kc_68_69_21x G0 G9 := by rw [hG9]; exact pj_kpt_c kG8 rfl
  rw [← hG9]
  rw [pj_nm_e]
  refine pj_X_of (fun r h => pj_R_to (G9, 70, [(0, .ref 69), (1, .ref 21)], [.ref 21, .ref 69], 0, 0) 70 3 (fun _ => rfl) h) ?_
  refine pj_X_of (fun r h => pj_T_gi iG9 rfl rfl h) ?_
  show pj_X _ _ G9 73 [(0, .ref 69), (1, .ref 21)] [.int (pj_fi G9 21 5), .ref 69] _
  rw [← hy4, pj_nm_e]
  rw [show pj_fi G9 21 5 = y4 from by rw [hG9, pj_fi_wc]; exact (by rw [hG8, pj_fi_wc]; exact (by rw [hG7, pj_fi_wc]; exact (by rw [hG6, pj_fi_wc]; exact (by rw [hG5, pj_fi_wv_ne _ _ _ _ _ _ (by decide)]; exact hy4.symm))))]
  refine pj_X_of (fun r h => pj_T_pf iG9 rfl rfl rfl h) ?_
  show pj_X _ _ (pj_wv G9 69 5 (.int y4)) 76 [(0, .ref 69), (1, .ref 21)] [] _
  obtain ⟨G10, hG10⟩ : ∃ H, H = pj_wv G9 69 5 (.int y4) := ⟨_, rfl⟩
  have iG10 : pj_Inv G10 := by rw [hG10]; exact pj_Inv_wi iG9 (ci := 8) rfl (fun q hq => by cases hq; exact ⟨by show (0 : Int) ≤ _; omega, by show _ ≤ (6 : Int); omega⟩)
  have kG10 : pj_kpt kc_68_69_21x G0 G10 := by rw [hG10]; exact pj_kpt_v kG9 rfl
  rw [← hG10]
  rw [pj_nm_e]
  refine pj_X_of (fun r h => pj_R_to (G10, 77, [(0, .ref 69), (1, .ref 21)], [.ref 21], 0, 0) 77 2 (fun _ => rfl) h) ?_
  refine pj_X_of (fun r h => pj_T_gr iG10 rfl rfl rfl h) ?_
  refine pj_X_of (fun r h => pj_R_to (G10, 82, [(0, .ref 69), (1, .ref 21)], [.ref 69, .int (Int32.ofInt 0), .ref 26], 0, 0) 82 3 (fun _ => rfl) h) ?_
  refine pj_X_of (fun r h => pj_T_gr iG10 rfl rfl rfl h) ?_
  refine pj_X_of (fun r h => pj_R_to (G10, 88, [(0, .ref 69), (1, .ref 21)], [.int ((Int8.ofInt 6).toInt32), .int (Int32.ofInt 0), .ref 74, .int (Int32.ofInt 0), .ref 26], 0, 0) 88 3 (fun _ => rfl) h) ?_
  refine pj_X_of (fun r h => pj_T_cp iG10 rfl rfl rfl rfl (by omega) (by omega) (by show _ = ((6 : Nat) : Int); omega) (Nat.le_of_ble_eq_true rfl) h) ?_
  show pj_X _ _ (pj_wc G10 26 74 6) 91 [(0, .ref 69), (1, .ref 21)] [] _
  obtain ⟨G11, hG11⟩ : ∃ H, H = pj_wc G10 26 74 6 := ⟨_, rfl⟩
  have iG11 : pj_Inv G11 := by rw [hG11]; exact pj_Inv_wc iG10 rfl rfl (fun q hq => by cases hq; exact ⟨rfl, by decide⟩) rfl
  have kG11 : pj_kpt kc_68_69_21x G0 G11 := by rw [hG11]; exact pj_kpt_c kG10 rfl
  rw [← hG11]
  rw [pj_nm_e]
  refine pj_X_of (fun r h => pj_R_to (G11, 93, [(0, .ref 69), (1, .ref 21)], [.ref 21, .ref 69], 0, 0) 93 3 (fun _ => rfl) h) ?_
  refine pj_X_of (fun r h => pj_T_gi iG11 rfl rfl h) ?_
  show pj_X _ _ G11 96 [(0, .ref 69), (1, .ref 21)] [.int (pj_fi G11 21 7), .ref 69] _
  obtain ⟨y12, hy12⟩ : ∃ z : Int32, z = pj_fi G11 21 7 := ⟨_, rfl⟩
  rw [← hy12]
  rw [pj_nm_e]
  have ey12 : (pj_fi G11 21 7).toInt = y12.toInt := by rw [hy12]
  refine pj_X_of (fun r h => pj_T_pf iG11 rfl rfl rfl h) ?_
  show pj_X _ _ (pj_wv G11 69 7 (.int y12)) 99 [(0, .ref 69), (1, .ref 21)] [] _
  obtain ⟨G13, hG13⟩ : ∃ H, H = pj_wv G11 69 7 (.int y12) := ⟨_, rfl⟩
  have iG13 : pj_Inv G13 := by rw [hG13]; exact pj_Inv_wi iG11 (ci := 8) rfl (fun q hq => by cases hq)
  have kG13 : pj_kpt kc_68_69_21x G0 G13 := by rw [hG13]; exact pj_kpt_v kG11 rfl
  rw [← hG13]
  rw [pj_nm_e]
  refine pj_X_of (fun r h => pj_R_to (G13, 101, [(0, .ref 69), (1, .ref 21)], [.ref 21, .ref 69], 0, 0) 101 3 (fun _ => rfl) h) ?_
  refine pj_X_of (fun r h => pj_T_gi iG13 rfl rfl h) ?_
  show pj_X _ _ G13 104 [(0, .ref 69), (1, .ref 21)] [.int (pj_fi G13 21 8), .ref 69] _
  obtain ⟨y14, hy14⟩ : ∃ z : Int32, z = pj_fi G13 21 8 := ⟨_, rfl⟩
  rw [← hy14]
  rw [pj_nm_e]
  have ey14 : (pj_fi G13 21 8).toInt = y14.toInt := by rw [hy14]
  refine pj_X_of (fun r h => pj_T_pf iG13 rfl rfl rfl h) ?_
  show pj_X _ _ (pj_wv G13 69 8 (.int y14)) 107 [(0, .ref 69), (1, .ref 21)] [] _
  obtain ⟨G15, hG15⟩ : ∃ H, H = pj_wv G13 69 8 (.int y14) := ⟨_, rfl⟩
  have iG15 : pj_Inv G15 := by rw [hG15]; exact pj_Inv_wi iG13 (ci := 8) rfl (fun q hq => by cases hq)
  have kG15 : pj_kpt kc_68_69_21x G0 G15 := by rw [hG15]; exact pj_kpt_v kG13 rfl
  rw [← hG15]
  rw [pj_nm_e]
  have q16 : (pj_fi G15 69 0).toInt = y3.toInt := by rw [show pj_fi G15 69 0 = y3 from by rw [hG15, pj_fi_wv_ne _ _ _ _ _ _ (by decide)]; exact (by rw [hG13, pj_fi_wv_ne _ _ _ _ _ _ (by decide)]; exact (by rw [hG11, pj_fi_wc]; exact (by rw [hG10, pj_fi_wv_ne _ _ _ _ _ _ (by decide)]; exact (by rw [hG9, pj_fi_wc]; exact (by rw [hG8, pj_fi_wc]; exact (by rw [hG7, pj_fi_wc]; exact (by rw [hG6, pj_fi_wc]; exact (by rw [hG5]; exact pj_fi_wi hI.1 (ci := 8) rfl _))))))))]
  have q17 : (pj_fi G15 69 5).toInt = y4.toInt := by rw [show pj_fi G15 69 5 = y4 from by rw [hG15, pj_fi_wv_ne _ _ _ _ _ _ (by decide)]; exact (by rw [hG13, pj_fi_wv_ne _ _ _ _ _ _ (by decide)]; exact (by rw [hG11, pj_fi_wc]; exact (by rw [hG10]; exact pj_fi_wi iG9.1 (ci := 8) rfl _)))]
  have q18 : (pj_fi G15 21 0).toInt = y3.toInt := by rw [show pj_fi G15 21 0 = y3 from by rw [hG15, pj_fi_wv_ne _ _ _ _ _ _ (by decide)]; exact (by rw [hG13, pj_fi_wv_ne _ _ _ _ _ _ (by decide)]; exact (by rw [hG11, pj_fi_wc]; exact (by rw [hG10, pj_fi_wv_ne _ _ _ _ _ _ (by decide)]; exact (by rw [hG9, pj_fi_wc]; exact (by rw [hG8, pj_fi_wc]; exact (by rw [hG7, pj_fi_wc]; exact (by rw [hG6, pj_fi_wc]; exact (by rw [hG5, pj_fi_wv_ne _ _ _ _ _ _ (by decide)]; exact hy3.symm))))))))]
  have q19 : (pj_fi G15 21 5).toInt = y4.toInt := by rw [show pj_fi G15 21 5 = y4 from by rw [hG15, pj_fi_wv_ne _ _ _ _ _ _ (by decide)]; exact (by rw [hG13, pj_fi_wv_ne _ _ _ _ _ _ (by decide)]; exact (by rw [hG11, pj_fi_wc]; exact (by rw [hG10, pj_fi_wv_ne _ _ _ _ _ _ (by decide)]; exact (by rw [hG9, pj_fi_wc]; exact (by rw [hG8, pj_fi_wc]; exact (by rw [hG7, pj_fi_wc]; exact (by rw [hG6, pj_fi_wc]; exact (by rw [hG5, pj_fi_wv_ne _ _ _ _ _ _ (by decide)]; exact hy4.symm))))))))]
  exact pj_X_rt rfl rfl ⟨rfl, iG15, kG15, (fun H hH => by subst hH; exact (by omega)), rfl⟩
theorem fr_68_69_21x (G0 : pj_G) (hI : pj_Inv G0) : pj_Inv (F_68_69_21x G0) ∧ pj_kpt kc_68_69_21x G0 (F_68_69_21x G0) ∧ ((pj_fi (F_68_69_21x G0) 69 0).toInt = (pj_fi G0 21 0).toInt ∧ (pj_fi (F_68_69_21x G0) 69 5).toInt = (pj_fi G0 21 5).toInt) := by
  obtain ⟨v, G', -, -, i, j, x, e⟩ := ct_68_69_21x G0 hI 
  rw [← e]
  exact ⟨i, j, x _ rfl⟩
def kc_68_75_21x : pj_KT := ([(75, 0), (75, 5), (75, 7), (75, 8)], [75, 76, 77, 78, 79, 80], [76, 77, 78, 79, 80])
noncomputable def F_68_75_21x (G0 : pj_G) : pj_G := pj_nm (pj_fi G0 21 0) (fun y3 => pj_nm (pj_wv G0 75 0 (.int y3)) (fun G5 => pj_nm (pj_wc G5 22 76 6) (fun G6 => pj_nm (pj_wc G6 23 77 6) (fun G7 => pj_nm (pj_wc G7 24 78 6) (fun G8 => pj_nm (pj_wc G8 25 79 6) (fun G9 => pj_nm (pj_fi G0 21 5) (fun y4 => pj_nm (pj_wv G9 75 5 (.int y4)) (fun G10 => pj_nm (pj_wc G10 26 80 6) (fun G11 => pj_nm (pj_fi G11 21 7) (fun y12 => pj_nm (pj_wv G11 75 7 (.int y12)) (fun G13 => pj_nm (pj_fi G13 21 8) (fun y14 => pj_nm (pj_wv G13 75 8 (.int y14)) (fun G15 => G15)))))))))))))
theorem F_68_75_21x_e (G0 : pj_G) : F_68_75_21x G0 = pj_nm (pj_fi G0 21 0) (fun y3 => pj_nm (pj_wv G0 75 0 (.int y3)) (fun G5 => pj_nm (pj_wc G5 22 76 6) (fun G6 => pj_nm (pj_wc G6 23 77 6) (fun G7 => pj_nm (pj_wc G7 24 78 6) (fun G8 => pj_nm (pj_wc G8 25 79 6) (fun G9 => pj_nm (pj_fi G0 21 5) (fun y4 => pj_nm (pj_wv G9 75 5 (.int y4)) (fun G10 => pj_nm (pj_wc G10 26 80 6) (fun G11 => pj_nm (pj_fi G11 21 7) (fun y12 => pj_nm (pj_wv G11 75 7 (.int y12)) (fun G13 => pj_nm (pj_fi G13 21 8) (fun y14 => pj_nm (pj_wv G13 75 8 (.int y14)) (fun G15 => G15))))))))))))) := rfl
theorem ct_68_75_21x (G0 : pj_G) (hI : pj_Inv G0) : pj_Y 1 68 [.ref 75, .ref 21] G0 (fun v' G' => v' = none ∧ pj_Inv G' ∧ pj_kpt kc_68_75_21x G0 G' ∧ (∀ H, G0 = H → ((pj_fi G' 75 0).toInt = (pj_fi H 21 0).toInt ∧ (pj_fi G' 75 5).toInt = (pj_fi H 21 5).toInt)) ∧ (G' = F_68_75_21x G0)) := by
  have c0_ : ((Int8.ofInt 6).toInt32).toInt = 6 := by decide
  have c1_ : (Int32.ofInt 0).toInt = 0 := by decide
  refine pj_Y_X (M := pj_m68) rfl rfl (Nat.le_of_ble_eq_true rfl) ?_
  have hK : pj_kpt kc_68_75_21x G0 G0 := pj_kpt_r _ _
  show pj_X _ _ G0 0 [(0, .ref 75), (1, .ref 21)] [] _
  rw [F_68_75_21x_e]
  obtain ⟨y1, hy1⟩ : ∃ z : Int32, z = pj_fi G0 75 0 := ⟨_, rfl⟩
  have ey1 : (pj_fi G0 75 0).toInt = y1.toInt := by rw [hy1]
  have ry1 : (0 : Int) ≤ y1.toInt ∧ y1.toInt ≤ 6 := by rw [hy1]; exact hI.2.1 75 0 (0, 6) rfl
  obtain ⟨y2, hy2⟩ : ∃ z : Int32, z = pj_fi G0 75 5 := ⟨_, rfl⟩
  have ey2 : (pj_fi G0 75 5).toInt = y2.toInt := by rw [hy2]
  have ry2 : (0 : Int) ≤ y2.toInt ∧ y2.toInt ≤ 6 := by rw [hy2]; exact hI.2.1 75 5 (0, 6) rfl
  obtain ⟨y3, hy3⟩ : ∃ z : Int32, z = pj_fi G0 21 0 := ⟨_, rfl⟩
  have ey3 : (pj_fi G0 21 0).toInt = y3.toInt := by rw [hy3]
  have ry3 : (0 : Int) ≤ y3.toInt ∧ y3.toInt ≤ 6 := by rw [hy3]; exact hI.2.1 21 0 (0, 6) rfl
  obtain ⟨y4, hy4⟩ : ∃ z : Int32, z = pj_fi G0 21 5 := ⟨_, rfl⟩
  have ey4 : (pj_fi G0 21 5).toInt = y4.toInt := by rw [hy4]
  have ry4 : (0 : Int) ≤ y4.toInt ∧ y4.toInt ≤ 6 := by rw [hy4]; exact hI.2.1 21 5 (0, 6) rfl
  refine pj_X_of (fun r h => pj_R_to (G0, 2, [(0, .ref 75), (1, .ref 21)], [.ref 21, .ref 75], 0, 0) 2 3 (fun _ => rfl) h) ?_
  refine pj_X_of (fun r h => pj_T_gi hI rfl rfl h) ?_
  show pj_X _ _ G0 5 [(0, .ref 75), (1, .ref 21)] [.int (pj_fi G0 21 0), .ref 75] _
  rw [← hy3, pj_nm_e]
  refine pj_X_of (fun r h => pj_T_pf hI rfl rfl rfl h) ?_
  show pj_X _ _ (pj_wv G0 75 0 (.int y3)) 8 [(0, .ref 75), (1, .ref 21)] [] _
  obtain ⟨G5, hG5⟩ : ∃ H, H = pj_wv G0 75 0 (.int y3) := ⟨_, rfl⟩
  have iG5 : pj_Inv G5 := by rw [hG5]; exact pj_Inv_wi hI (ci := 8) rfl (fun q hq => by cases hq; exact ⟨by show (0 : Int) ≤ _; omega, by show _ ≤ (6 : Int); omega⟩)
  have kG5 : pj_kpt kc_68_75_21x G0 G5 := by rw [hG5]; exact pj_kpt_v hK rfl
  rw [← hG5]
  rw [pj_nm_e]
  refine pj_X_of (fun r h => pj_R_to (G5, 9, [(0, .ref 75), (1, .ref 21)], [.ref 21], 0, 0) 9 2 (fun _ => rfl) h) ?_
  refine pj_X_of (fun r h => pj_T_gr iG5 rfl rfl rfl h) ?_
  refine pj_X_of (fun r h => pj_R_to (G5, 14, [(0, .ref 75), (1, .ref 21)], [.ref 75, .int (Int32.ofInt 0), .ref 22], 0, 0) 14 3 (fun _ => rfl) h) ?_
  refine pj_X_of (fun r h => pj_T_gr iG5 rfl rfl rfl h) ?_
  refine pj_X_of (fun r h => pj_R_to (G5, 20, [(0, .ref 75), (1, .ref 21)], [.int ((Int8.ofInt 6).toInt32), .int (Int32.ofInt 0), .ref 76, .int (Int32.ofInt 0), .ref 22], 0, 0) 20 3 (fun _ => rfl) h) ?_
  refine pj_X_of (fun r h => pj_T_cp iG5 rfl rfl rfl rfl (by omega) (by omega) (by show _ = ((6 : Nat) : Int); omega) (Nat.le_of_ble_eq_true rfl) h) ?_
  show pj_X _ _ (pj_wc G5 22 76 6) 23 [(0, .ref 75), (1, .ref 21)] [] _
  obtain ⟨G6, hG6⟩ : ∃ H, H = pj_wc G5 22 76 6 := ⟨_, rfl⟩
  have iG6 : pj_Inv G6 := by rw [hG6]; exact pj_Inv_wc iG5 rfl rfl (fun q hq => by cases hq; exact ⟨rfl, by decide⟩) rfl
  have kG6 : pj_kpt kc_68_75_21x G0 G6 := by rw [hG6]; exact pj_kpt_c kG5 rfl
  rw [← hG6]
  rw [pj_nm_e]
  refine pj_X_of (fun r h => pj_R_to (G6, 24, [(0, .ref 75), (1, .ref 21)], [.ref 21], 0, 0) 24 2 (fun _ => rfl) h) ?_
  refine pj_X_of (fun r h => pj_T_gr iG6 rfl rfl rfl h) ?_
  refine pj_X_of (fun r h => pj_R_to (G6, 29, [(0, .ref 75), (1, .ref 21)], [.ref 75, .int (Int32.ofInt 0), .ref 23], 0, 0) 29 3 (fun _ => rfl) h) ?_
  refine pj_X_of (fun r h => pj_T_gr iG6 rfl rfl rfl h) ?_
  refine pj_X_of (fun r h => pj_R_to (G6, 35, [(0, .ref 75), (1, .ref 21)], [.int ((Int8.ofInt 6).toInt32), .int (Int32.ofInt 0), .ref 77, .int (Int32.ofInt 0), .ref 23], 0, 0) 35 3 (fun _ => rfl) h) ?_
  refine pj_X_of (fun r h => pj_T_cp iG6 rfl rfl rfl rfl (by omega) (by omega) (by show _ = ((6 : Nat) : Int); omega) (Nat.le_of_ble_eq_true rfl) h) ?_
  show pj_X _ _ (pj_wc G6 23 77 6) 38 [(0, .ref 75), (1, .ref 21)] [] _
  obtain ⟨G7, hG7⟩ : ∃ H, H = pj_wc G6 23 77 6 := ⟨_, rfl⟩
  have iG7 : pj_Inv G7 := by rw [hG7]; exact pj_Inv_wc iG6 rfl rfl (fun q hq => by cases hq) rfl
  have kG7 : pj_kpt kc_68_75_21x G0 G7 := by rw [hG7]; exact pj_kpt_c kG6 rfl
  rw [← hG7]
  rw [pj_nm_e]
  refine pj_X_of (fun r h => pj_R_to (G7, 39, [(0, .ref 75), (1, .ref 21)], [.ref 21], 0, 0) 39 2 (fun _ => rfl) h) ?_
  refine pj_X_of (fun r h => pj_T_gr iG7 rfl rfl rfl h) ?_
  refine pj_X_of (fun r h => pj_R_to (G7, 44, [(0, .ref 75), (1, .ref 21)], [.ref 75, .int (Int32.ofInt 0), .ref 24], 0, 0) 44 3 (fun _ => rfl) h) ?_
  refine pj_X_of (fun r h => pj_T_gr iG7 rfl rfl rfl h) ?_
  refine pj_X_of (fun r h => pj_R_to (G7, 50, [(0, .ref 75), (1, .ref 21)], [.int ((Int8.ofInt 6).toInt32), .int (Int32.ofInt 0), .ref 78, .int (Int32.ofInt 0), .ref 24], 0, 0) 50 3 (fun _ => rfl) h) ?_
  refine pj_X_of (fun r h => pj_T_cp iG7 rfl rfl rfl rfl (by omega) (by omega) (by show _ = ((6 : Nat) : Int); omega) (Nat.le_of_ble_eq_true rfl) h) ?_
  show pj_X _ _ (pj_wc G7 24 78 6) 53 [(0, .ref 75), (1, .ref 21)] [] _
  obtain ⟨G8, hG8⟩ : ∃ H, H = pj_wc G7 24 78 6 := ⟨_, rfl⟩
  have iG8 : pj_Inv G8 := by rw [hG8]; exact pj_Inv_wc iG7 rfl rfl (fun q hq => by cases hq) rfl
  have kG8 : pj_kpt kc_68_75_21x G0 G8 := by rw [hG8]; exact pj_kpt_c kG7 rfl
  rw [← hG8]
  rw [pj_nm_e]
  refine pj_X_of (fun r h => pj_R_to (G8, 54, [(0, .ref 75), (1, .ref 21)], [.ref 21], 0, 0) 54 2 (fun _ => rfl) h) ?_
  refine pj_X_of (fun r h => pj_T_gr iG8 rfl rfl rfl h) ?_
  refine pj_X_of (fun r h => pj_R_to (G8, 59, [(0, .ref 75), (1, .ref 21)], [.ref 75, .int (Int32.ofInt 0), .ref 25], 0, 0) 59 3 (fun _ => rfl) h) ?_
  refine pj_X_of (fun r h => pj_T_gr iG8 rfl rfl rfl h) ?_
  refine pj_X_of (fun r h => pj_R_to (G8, 65, [(0, .ref 75), (1, .ref 21)], [.int ((Int8.ofInt 6).toInt32), .int (Int32.ofInt 0), .ref 79, .int (Int32.ofInt 0), .ref 25], 0, 0) 65 3 (fun _ => rfl) h) ?_
  refine pj_X_of (fun r h => pj_T_cp iG8 rfl rfl rfl rfl (by omega) (by omega) (by show _ = ((6 : Nat) : Int); omega) (Nat.le_of_ble_eq_true rfl) h) ?_
  show pj_X _ _ (pj_wc G8 25 79 6) 68 [(0, .ref 75), (1, .ref 21)] [] _
  obtain ⟨G9, hG9⟩ : ∃ H, H = pj_wc G8 25 79 6 := ⟨_, rfl⟩
  have iG9 : pj_Inv G9 := by rw [hG9]; exact pj_Inv_wc iG8 rfl rfl (fun q hq => by cases hq) rfl
  have kG9 : pj_kpt kc_68_75_21x G0 G9 := by rw [hG9]; exact pj_kpt_c kG8 rfl
  rw [← hG9]
  rw [pj_nm_e]
  refine pj_X_of (fun r h => pj_R_to (G9, 70, [(0, .ref 75), (1, .ref 21)], [.ref 21, .ref 75], 0, 0) 70 3 (fun _ => rfl) h) ?_
  refine pj_X_of (fun r h => pj_T_gi iG9 rfl rfl h) ?_
  show pj_X _ _ G9 73 [(0, .ref 75), (1, .ref 21)] [.int (pj_fi G9 21 5), .ref 75] _
  rw [← hy4, pj_nm_e]
  rw [show pj_fi G9 21 5 = y4 from by rw [hG9, pj_fi_wc]; exact (by rw [hG8, pj_fi_wc]; exact (by rw [hG7, pj_fi_wc]; exact (by rw [hG6, pj_fi_wc]; exact (by rw [hG5, pj_fi_wv_ne _ _ _ _ _ _ (by decide)]; exact hy4.symm))))]
  refine pj_X_of (fun r h => pj_T_pf iG9 rfl rfl rfl h) ?_
  show pj_X _ _ (pj_wv G9 75 5 (.int y4)) 76 [(0, .ref 75), (1, .ref 21)] [] _
  obtain ⟨G10, hG10⟩ : ∃ H, H = pj_wv G9 75 5 (.int y4) := ⟨_, rfl⟩
  have iG10 : pj_Inv G10 := by rw [hG10]; exact pj_Inv_wi iG9 (ci := 8) rfl (fun q hq => by cases hq; exact ⟨by show (0 : Int) ≤ _; omega, by show _ ≤ (6 : Int); omega⟩)
  have kG10 : pj_kpt kc_68_75_21x G0 G10 := by rw [hG10]; exact pj_kpt_v kG9 rfl
  rw [← hG10]
  rw [pj_nm_e]
  refine pj_X_of (fun r h => pj_R_to (G10, 77, [(0, .ref 75), (1, .ref 21)], [.ref 21], 0, 0) 77 2 (fun _ => rfl) h) ?_
  refine pj_X_of (fun r h => pj_T_gr iG10 rfl rfl rfl h) ?_
  refine pj_X_of (fun r h => pj_R_to (G10, 82, [(0, .ref 75), (1, .ref 21)], [.ref 75, .int (Int32.ofInt 0), .ref 26], 0, 0) 82 3 (fun _ => rfl) h) ?_
  refine pj_X_of (fun r h => pj_T_gr iG10 rfl rfl rfl h) ?_
  refine pj_X_of (fun r h => pj_R_to (G10, 88, [(0, .ref 75), (1, .ref 21)], [.int ((Int8.ofInt 6).toInt32), .int (Int32.ofInt 0), .ref 80, .int (Int32.ofInt 0), .ref 26], 0, 0) 88 3 (fun _ => rfl) h) ?_
  refine pj_X_of (fun r h => pj_T_cp iG10 rfl rfl rfl rfl (by omega) (by omega) (by show _ = ((6 : Nat) : Int); omega) (Nat.le_of_ble_eq_true rfl) h) ?_
  show pj_X _ _ (pj_wc G10 26 80 6) 91 [(0, .ref 75), (1, .ref 21)] [] _
  obtain ⟨G11, hG11⟩ : ∃ H, H = pj_wc G10 26 80 6 := ⟨_, rfl⟩
  have iG11 : pj_Inv G11 := by rw [hG11]; exact pj_Inv_wc iG10 rfl rfl (fun q hq => by cases hq; exact ⟨rfl, by decide⟩) rfl
  have kG11 : pj_kpt kc_68_75_21x G0 G11 := by rw [hG11]; exact pj_kpt_c kG10 rfl
  rw [← hG11]
  rw [pj_nm_e]
  refine pj_X_of (fun r h => pj_R_to (G11, 93, [(0, .ref 75), (1, .ref 21)], [.ref 21, .ref 75], 0, 0) 93 3 (fun _ => rfl) h) ?_
  refine pj_X_of (fun r h => pj_T_gi iG11 rfl rfl h) ?_
  show pj_X _ _ G11 96 [(0, .ref 75), (1, .ref 21)] [.int (pj_fi G11 21 7), .ref 75] _
  obtain ⟨y12, hy12⟩ : ∃ z : Int32, z = pj_fi G11 21 7 := ⟨_, rfl⟩
  rw [← hy12]
  rw [pj_nm_e]
  have ey12 : (pj_fi G11 21 7).toInt = y12.toInt := by rw [hy12]
  refine pj_X_of (fun r h => pj_T_pf iG11 rfl rfl rfl h) ?_
  show pj_X _ _ (pj_wv G11 75 7 (.int y12)) 99 [(0, .ref 75), (1, .ref 21)] [] _
  obtain ⟨G13, hG13⟩ : ∃ H, H = pj_wv G11 75 7 (.int y12) := ⟨_, rfl⟩
  have iG13 : pj_Inv G13 := by rw [hG13]; exact pj_Inv_wi iG11 (ci := 8) rfl (fun q hq => by cases hq)
  have kG13 : pj_kpt kc_68_75_21x G0 G13 := by rw [hG13]; exact pj_kpt_v kG11 rfl
  rw [← hG13]
  rw [pj_nm_e]
  refine pj_X_of (fun r h => pj_R_to (G13, 101, [(0, .ref 75), (1, .ref 21)], [.ref 21, .ref 75], 0, 0) 101 3 (fun _ => rfl) h) ?_
  refine pj_X_of (fun r h => pj_T_gi iG13 rfl rfl h) ?_
  show pj_X _ _ G13 104 [(0, .ref 75), (1, .ref 21)] [.int (pj_fi G13 21 8), .ref 75] _
  obtain ⟨y14, hy14⟩ : ∃ z : Int32, z = pj_fi G13 21 8 := ⟨_, rfl⟩
  rw [← hy14]
  rw [pj_nm_e]
  have ey14 : (pj_fi G13 21 8).toInt = y14.toInt := by rw [hy14]
  refine pj_X_of (fun r h => pj_T_pf iG13 rfl rfl rfl h) ?_
  show pj_X _ _ (pj_wv G13 75 8 (.int y14)) 107 [(0, .ref 75), (1, .ref 21)] [] _
  obtain ⟨G15, hG15⟩ : ∃ H, H = pj_wv G13 75 8 (.int y14) := ⟨_, rfl⟩
  have iG15 : pj_Inv G15 := by rw [hG15]; exact pj_Inv_wi iG13 (ci := 8) rfl (fun q hq => by cases hq)
  have kG15 : pj_kpt kc_68_75_21x G0 G15 := by rw [hG15]; exact pj_kpt_v kG13 rfl
  rw [← hG15]
  rw [pj_nm_e]
  have q16 : (pj_fi G15 75 0).toInt = y3.toInt := by rw [show pj_fi G15 75 0 = y3 from by rw [hG15, pj_fi_wv_ne _ _ _ _ _ _ (by decide)]; exact (by rw [hG13, pj_fi_wv_ne _ _ _ _ _ _ (by decide)]; exact (by rw [hG11, pj_fi_wc]; exact (by rw [hG10, pj_fi_wv_ne _ _ _ _ _ _ (by decide)]; exact (by rw [hG9, pj_fi_wc]; exact (by rw [hG8, pj_fi_wc]; exact (by rw [hG7, pj_fi_wc]; exact (by rw [hG6, pj_fi_wc]; exact (by rw [hG5]; exact pj_fi_wi hI.1 (ci := 8) rfl _))))))))]
  have q17 : (pj_fi G15 75 5).toInt = y4.toInt := by rw [show pj_fi G15 75 5 = y4 from by rw [hG15, pj_fi_wv_ne _ _ _ _ _ _ (by decide)]; exact (by rw [hG13, pj_fi_wv_ne _ _ _ _ _ _ (by decide)]; exact (by rw [hG11, pj_fi_wc]; exact (by rw [hG10]; exact pj_fi_wi iG9.1 (ci := 8) rfl _)))]
  have q18 : (pj_fi G15 21 0).toInt = y3.toInt := by rw [show pj_fi G15 21 0 = y3 from by rw [hG15, pj_fi_wv_ne _ _ _ _ _ _ (by decide)]; exact (by rw [hG13, pj_fi_wv_ne _ _ _ _ _ _ (by decide)]; exact (by rw [hG11, pj_fi_wc]; exact (by rw [hG10, pj_fi_wv_ne _ _ _ _ _ _ (by decide)]; exact (by rw [hG9, pj_fi_wc]; exact (by rw [hG8, pj_fi_wc]; exact (by rw [hG7, pj_fi_wc]; exact (by rw [hG6, pj_fi_wc]; exact (by rw [hG5, pj_fi_wv_ne _ _ _ _ _ _ (by decide)]; exact hy3.symm))))))))]
  have q19 : (pj_fi G15 21 5).toInt = y4.toInt := by rw [show pj_fi G15 21 5 = y4 from by rw [hG15, pj_fi_wv_ne _ _ _ _ _ _ (by decide)]; exact (by rw [hG13, pj_fi_wv_ne _ _ _ _ _ _ (by decide)]; exact (by rw [hG11, pj_fi_wc]; exact (by rw [hG10, pj_fi_wv_ne _ _ _ _ _ _ (by decide)]; exact (by rw [hG9, pj_fi_wc]; exact (by rw [hG8, pj_fi_wc]; exact (by rw [hG7, pj_fi_wc]; exact (by rw [hG6, pj_fi_wc]; exact (by rw [hG5, pj_fi_wv_ne _ _ _ _ _ _ (by decide)]; exact hy4.symm))))))))]
  exact pj_X_rt rfl rfl ⟨rfl, iG15, kG15, (fun H hH => by subst hH; exact (by omega)), rfl⟩
theorem fr_68_75_21x (G0 : pj_G) (hI : pj_Inv G0) : pj_Inv (F_68_75_21x G0) ∧ pj_kpt kc_68_75_21x G0 (F_68_75_21x G0) ∧ ((pj_fi (F_68_75_21x G0) 75 0).toInt = (pj_fi G0 21 0).toInt ∧ (pj_fi (F_68_75_21x G0) 75 5).toInt = (pj_fi G0 21 5).toInt) := by
  obtain ⟨v, G', -, -, i, j, x, e⟩ := ct_68_75_21x G0 hI 
  rw [← e]
  exact ⟨i, j, x _ rfl⟩
def kc_68_81_21x : pj_KT := ([(81, 0), (81, 5), (81, 7), (81, 8)], [81, 82, 83, 84, 85, 86], [82, 83, 84, 85, 86])
noncomputable def F_68_81_21x (G0 : pj_G) : pj_G := pj_nm (pj_fi G0 21 0) (fun y3 => pj_nm (pj_wv G0 81 0 (.int y3)) (fun G5 => pj_nm (pj_wc G5 22 82 6) (fun G6 => pj_nm (pj_wc G6 23 83 6) (fun G7 => pj_nm (pj_wc G7 24 84 6) (fun G8 => pj_nm (pj_wc G8 25 85 6) (fun G9 => pj_nm (pj_fi G0 21 5) (fun y4 => pj_nm (pj_wv G9 81 5 (.int y4)) (fun G10 => pj_nm (pj_wc G10 26 86 6) (fun G11 => pj_nm (pj_fi G11 21 7) (fun y12 => pj_nm (pj_wv G11 81 7 (.int y12)) (fun G13 => pj_nm (pj_fi G13 21 8) (fun y14 => pj_nm (pj_wv G13 81 8 (.int y14)) (fun G15 => G15)))))))))))))
theorem F_68_81_21x_e (G0 : pj_G) : F_68_81_21x G0 = pj_nm (pj_fi G0 21 0) (fun y3 => pj_nm (pj_wv G0 81 0 (.int y3)) (fun G5 => pj_nm (pj_wc G5 22 82 6) (fun G6 => pj_nm (pj_wc G6 23 83 6) (fun G7 => pj_nm (pj_wc G7 24 84 6) (fun G8 => pj_nm (pj_wc G8 25 85 6) (fun G9 => pj_nm (pj_fi G0 21 5) (fun y4 => pj_nm (pj_wv G9 81 5 (.int y4)) (fun G10 => pj_nm (pj_wc G10 26 86 6) (fun G11 => pj_nm (pj_fi G11 21 7) (fun y12 => pj_nm (pj_wv G11 81 7 (.int y12)) (fun G13 => pj_nm (pj_fi G13 21 8) (fun y14 => pj_nm (pj_wv G13 81 8 (.int y14)) (fun G15 => G15))))))))))))) := rfl
theorem ct_68_81_21x (G0 : pj_G) (hI : pj_Inv G0) : pj_Y 1 68 [.ref 81, .ref 21] G0 (fun v' G' => v' = none ∧ pj_Inv G' ∧ pj_kpt kc_68_81_21x G0 G' ∧ (∀ H, G0 = H → ((pj_fi G' 81 0).toInt = (pj_fi H 21 0).toInt ∧ (pj_fi G' 81 5).toInt = (pj_fi H 21 5).toInt)) ∧ (G' = F_68_81_21x G0)) := by
  have c0_ : ((Int8.ofInt 6).toInt32).toInt = 6 := by decide
  have c1_ : (Int32.ofInt 0).toInt = 0 := by decide
  refine pj_Y_X (M := pj_m68) rfl rfl (Nat.le_of_ble_eq_true rfl) ?_
  have hK : pj_kpt kc_68_81_21x G0 G0 := pj_kpt_r _ _
  show pj_X _ _ G0 0 [(0, .ref 81), (1, .ref 21)] [] _
  rw [F_68_81_21x_e]
  obtain ⟨y1, hy1⟩ : ∃ z : Int32, z = pj_fi G0 81 0 := ⟨_, rfl⟩
  have ey1 : (pj_fi G0 81 0).toInt = y1.toInt := by rw [hy1]
  have ry1 : (0 : Int) ≤ y1.toInt ∧ y1.toInt ≤ 6 := by rw [hy1]; exact hI.2.1 81 0 (0, 6) rfl
  obtain ⟨y2, hy2⟩ : ∃ z : Int32, z = pj_fi G0 81 5 := ⟨_, rfl⟩
  have ey2 : (pj_fi G0 81 5).toInt = y2.toInt := by rw [hy2]
  have ry2 : (0 : Int) ≤ y2.toInt ∧ y2.toInt ≤ 6 := by rw [hy2]; exact hI.2.1 81 5 (0, 6) rfl
  obtain ⟨y3, hy3⟩ : ∃ z : Int32, z = pj_fi G0 21 0 := ⟨_, rfl⟩
  have ey3 : (pj_fi G0 21 0).toInt = y3.toInt := by rw [hy3]
  have ry3 : (0 : Int) ≤ y3.toInt ∧ y3.toInt ≤ 6 := by rw [hy3]; exact hI.2.1 21 0 (0, 6) rfl
  obtain ⟨y4, hy4⟩ : ∃ z : Int32, z = pj_fi G0 21 5 := ⟨_, rfl⟩
  have ey4 : (pj_fi G0 21 5).toInt = y4.toInt := by rw [hy4]
  have ry4 : (0 : Int) ≤ y4.toInt ∧ y4.toInt ≤ 6 := by rw [hy4]; exact hI.2.1 21 5 (0, 6) rfl
  refine pj_X_of (fun r h => pj_R_to (G0, 2, [(0, .ref 81), (1, .ref 21)], [.ref 21, .ref 81], 0, 0) 2 3 (fun _ => rfl) h) ?_
  refine pj_X_of (fun r h => pj_T_gi hI rfl rfl h) ?_
  show pj_X _ _ G0 5 [(0, .ref 81), (1, .ref 21)] [.int (pj_fi G0 21 0), .ref 81] _
  rw [← hy3, pj_nm_e]
  refine pj_X_of (fun r h => pj_T_pf hI rfl rfl rfl h) ?_
  show pj_X _ _ (pj_wv G0 81 0 (.int y3)) 8 [(0, .ref 81), (1, .ref 21)] [] _
  obtain ⟨G5, hG5⟩ : ∃ H, H = pj_wv G0 81 0 (.int y3) := ⟨_, rfl⟩
  have iG5 : pj_Inv G5 := by rw [hG5]; exact pj_Inv_wi hI (ci := 8) rfl (fun q hq => by cases hq; exact ⟨by show (0 : Int) ≤ _; omega, by show _ ≤ (6 : Int); omega⟩)
  have kG5 : pj_kpt kc_68_81_21x G0 G5 := by rw [hG5]; exact pj_kpt_v hK rfl
  rw [← hG5]
  rw [pj_nm_e]
  refine pj_X_of (fun r h => pj_R_to (G5, 9, [(0, .ref 81), (1, .ref 21)], [.ref 21], 0, 0) 9 2 (fun _ => rfl) h) ?_
  refine pj_X_of (fun r h => pj_T_gr iG5 rfl rfl rfl h) ?_
  refine pj_X_of (fun r h => pj_R_to (G5, 14, [(0, .ref 81), (1, .ref 21)], [.ref 81, .int (Int32.ofInt 0), .ref 22], 0, 0) 14 3 (fun _ => rfl) h) ?_
  refine pj_X_of (fun r h => pj_T_gr iG5 rfl rfl rfl h) ?_
  refine pj_X_of (fun r h => pj_R_to (G5, 20, [(0, .ref 81), (1, .ref 21)], [.int ((Int8.ofInt 6).toInt32), .int (Int32.ofInt 0), .ref 82, .int (Int32.ofInt 0), .ref 22], 0, 0) 20 3 (fun _ => rfl) h) ?_
  refine pj_X_of (fun r h => pj_T_cp iG5 rfl rfl rfl rfl (by omega) (by omega) (by show _ = ((6 : Nat) : Int); omega) (Nat.le_of_ble_eq_true rfl) h) ?_
  show pj_X _ _ (pj_wc G5 22 82 6) 23 [(0, .ref 81), (1, .ref 21)] [] _
  obtain ⟨G6, hG6⟩ : ∃ H, H = pj_wc G5 22 82 6 := ⟨_, rfl⟩
  have iG6 : pj_Inv G6 := by rw [hG6]; exact pj_Inv_wc iG5 rfl rfl (fun q hq => by cases hq; exact ⟨rfl, by decide⟩) rfl
  have kG6 : pj_kpt kc_68_81_21x G0 G6 := by rw [hG6]; exact pj_kpt_c kG5 rfl
  rw [← hG6]
  rw [pj_nm_e]
  refine pj_X_of (fun r h => pj_R_to (G6, 24, [(0, .ref 81), (1, .ref 21)], [.ref 21], 0, 0) 24 2 (fun _ => rfl) h) ?_
  refine pj_X_of (fun r h => pj_T_gr iG6 rfl rfl rfl h) ?_
  refine pj_X_of (fun r h => pj_R_to (G6, 29, [(0, .ref 81), (1, .ref 21)], [.ref 81, .int (Int32.ofInt 0), .ref 23], 0, 0) 29 3 (fun _ => rfl) h) ?_
  refine pj_X_of (fun r h => pj_T_gr iG6 rfl rfl rfl h) ?_
  refine pj_X_of (fun r h => pj_R_to (G6, 35, [(0, .ref 81), (1, .ref 21)], [.int ((Int8.ofInt 6).toInt32), .int (Int32.ofInt 0), .ref 83, .int (Int32.ofInt 0), .ref 23], 0, 0) 35 3 (fun _ => rfl) h) ?_
  refine pj_X_of (fun r h => pj_T_cp iG6 rfl rfl rfl rfl (by omega) (by omega) (by show _ = ((6 : Nat) : Int); omega) (Nat.le_of_ble_eq_true rfl) h) ?_
  show pj_X _ _ (pj_wc G6 23 83 6) 38 [(0, .ref 81), (1, .ref 21)] [] _
  obtain ⟨G7, hG7⟩ : ∃ H, H = pj_wc G6 23 83 6 := ⟨_, rfl⟩
  have iG7 : pj_Inv G7 := by rw [hG7]; exact pj_Inv_wc iG6 rfl rfl (fun q hq => by cases hq) rfl
  have kG7 : pj_kpt kc_68_81_21x G0 G7 := by rw [hG7]; exact pj_kpt_c kG6 rfl
  rw [← hG7]
  rw [pj_nm_e]
  refine pj_X_of (fun r h => pj_R_to (G7, 39, [(0, .ref 81), (1, .ref 21)], [.ref 21], 0, 0) 39 2 (fun _ => rfl) h) ?_
  refine pj_X_of (fun r h => pj_T_gr iG7 rfl rfl rfl h) ?_
  refine pj_X_of (fun r h => pj_R_to (G7, 44, [(0, .ref 81), (1, .ref 21)], [.ref 81, .int (Int32.ofInt 0), .ref 24], 0, 0) 44 3 (fun _ => rfl) h) ?_
  refine pj_X_of (fun r h => pj_T_gr iG7 rfl rfl rfl h) ?_
  refine pj_X_of (fun r h => pj_R_to (G7, 50, [(0, .ref 81), (1, .ref 21)], [.int ((Int8.ofInt 6).toInt32), .int (Int32.ofInt 0), .ref 84, .int (Int32.ofInt 0), .ref 24], 0, 0) 50 3 (fun _ => rfl) h) ?_
  refine pj_X_of (fun r h => pj_T_cp iG7 rfl rfl rfl rfl (by omega) (by omega) (by show _ = ((6 : Nat) : Int); omega) (Nat.le_of_ble_eq_true rfl) h) ?_
  show pj_X _ _ (pj_wc G7 24 84 6) 53 [(0, .ref 81), (1, .ref 21)] [] _
  obtain ⟨G8, hG8⟩ : ∃ H, H = pj_wc G7 24 84 6 := ⟨_, rfl⟩
  have iG8 : pj_Inv G8 := by rw [hG8]; exact pj_Inv_wc iG7 rfl rfl (fun q hq => by cases hq) rfl
  have kG8 : pj_kpt kc_68_81_21x G0 G8 := by rw [hG8]; exact pj_kpt_c kG7 rfl
  rw [← hG8]
  rw [pj_nm_e]
  refine pj_X_of (fun r h => pj_R_to (G8, 54, [(0, .ref 81), (1, .ref 21)], [.ref 21], 0, 0) 54 2 (fun _ => rfl) h) ?_
  refine pj_X_of (fun r h => pj_T_gr iG8 rfl rfl rfl h) ?_
  refine pj_X_of (fun r h => pj_R_to (G8, 59, [(0, .ref 81), (1, .ref 21)], [.ref 81, .int (Int32.ofInt 0), .ref 25], 0, 0) 59 3 (fun _ => rfl) h) ?_
  refine pj_X_of (fun r h => pj_T_gr iG8 rfl rfl rfl h) ?_
  refine pj_X_of (fun r h => pj_R_to (G8, 65, [(0, .ref 81), (1, .ref 21)], [.int ((Int8.ofInt 6).toInt32), .int (Int32.ofInt 0), .ref 85, .int (Int32.ofInt 0), .ref 25], 0, 0) 65 3 (fun _ => rfl) h) ?_
  refine pj_X_of (fun r h => pj_T_cp iG8 rfl rfl rfl rfl (by omega) (by omega) (by show _ = ((6 : Nat) : Int); omega) (Nat.le_of_ble_eq_true rfl) h) ?_
  show pj_X _ _ (pj_wc G8 25 85 6) 68 [(0, .ref 81), (1, .ref 21)] [] _
  obtain ⟨G9, hG9⟩ : ∃ H, H = pj_wc G8 25 85 6 := ⟨_, rfl⟩
  have iG9 : pj_Inv G9 := by rw [hG9]; exact pj_Inv_wc iG8 rfl rfl (fun q hq => by cases hq) rfl
  have kG9 : pj_kpt kc_68_81_21x G0 G9 := by rw [hG9]; exact pj_kpt_c kG8 rfl
  rw [← hG9]
  rw [pj_nm_e]
  refine pj_X_of (fun r h => pj_R_to (G9, 70, [(0, .ref 81), (1, .ref 21)], [.ref 21, .ref 81], 0, 0) 70 3 (fun _ => rfl) h) ?_
  refine pj_X_of (fun r h => pj_T_gi iG9 rfl rfl h) ?_
  show pj_X _ _ G9 73 [(0, .ref 81), (1, .ref 21)] [.int (pj_fi G9 21 5), .ref 81] _
  rw [← hy4, pj_nm_e]
  rw [show pj_fi G9 21 5 = y4 from by rw [hG9, pj_fi_wc]; exact (by rw [hG8, pj_fi_wc]; exact (by rw [hG7, pj_fi_wc]; exact (by rw [hG6, pj_fi_wc]; exact (by rw [hG5, pj_fi_wv_ne _ _ _ _ _ _ (by decide)]; exact hy4.symm))))]
  refine pj_X_of (fun r h => pj_T_pf iG9 rfl rfl rfl h) ?_
  show pj_X _ _ (pj_wv G9 81 5 (.int y4)) 76 [(0, .ref 81), (1, .ref 21)] [] _
  obtain ⟨G10, hG10⟩ : ∃ H, H = pj_wv G9 81 5 (.int y4) := ⟨_, rfl⟩
  have iG10 : pj_Inv G10 := by rw [hG10]; exact pj_Inv_wi iG9 (ci := 8) rfl (fun q hq => by cases hq; exact ⟨by show (0 : Int) ≤ _; omega, by show _ ≤ (6 : Int); omega⟩)
  have kG10 : pj_kpt kc_68_81_21x G0 G10 := by rw [hG10]; exact pj_kpt_v kG9 rfl
  rw [← hG10]
  rw [pj_nm_e]
  refine pj_X_of (fun r h => pj_R_to (G10, 77, [(0, .ref 81), (1, .ref 21)], [.ref 21], 0, 0) 77 2 (fun _ => rfl) h) ?_
  refine pj_X_of (fun r h => pj_T_gr iG10 rfl rfl rfl h) ?_
  refine pj_X_of (fun r h => pj_R_to (G10, 82, [(0, .ref 81), (1, .ref 21)], [.ref 81, .int (Int32.ofInt 0), .ref 26], 0, 0) 82 3 (fun _ => rfl) h) ?_
  refine pj_X_of (fun r h => pj_T_gr iG10 rfl rfl rfl h) ?_
  refine pj_X_of (fun r h => pj_R_to (G10, 88, [(0, .ref 81), (1, .ref 21)], [.int ((Int8.ofInt 6).toInt32), .int (Int32.ofInt 0), .ref 86, .int (Int32.ofInt 0), .ref 26], 0, 0) 88 3 (fun _ => rfl) h) ?_
  refine pj_X_of (fun r h => pj_T_cp iG10 rfl rfl rfl rfl (by omega) (by omega) (by show _ = ((6 : Nat) : Int); omega) (Nat.le_of_ble_eq_true rfl) h) ?_
  show pj_X _ _ (pj_wc G10 26 86 6) 91 [(0, .ref 81), (1, .ref 21)] [] _
  obtain ⟨G11, hG11⟩ : ∃ H, H = pj_wc G10 26 86 6 := ⟨_, rfl⟩
  have iG11 : pj_Inv G11 := by rw [hG11]; exact pj_Inv_wc iG10 rfl rfl (fun q hq => by cases hq; exact ⟨rfl, by decide⟩) rfl
  have kG11 : pj_kpt kc_68_81_21x G0 G11 := by rw [hG11]; exact pj_kpt_c kG10 rfl
  rw [← hG11]
  rw [pj_nm_e]
  refine pj_X_of (fun r h => pj_R_to (G11, 93, [(0, .ref 81), (1, .ref 21)], [.ref 21, .ref 81], 0, 0) 93 3 (fun _ => rfl) h) ?_
  refine pj_X_of (fun r h => pj_T_gi iG11 rfl rfl h) ?_
  show pj_X _ _ G11 96 [(0, .ref 81), (1, .ref 21)] [.int (pj_fi G11 21 7), .ref 81] _
  obtain ⟨y12, hy12⟩ : ∃ z : Int32, z = pj_fi G11 21 7 := ⟨_, rfl⟩
  rw [← hy12]
  rw [pj_nm_e]
  have ey12 : (pj_fi G11 21 7).toInt = y12.toInt := by rw [hy12]
  refine pj_X_of (fun r h => pj_T_pf iG11 rfl rfl rfl h) ?_
  show pj_X _ _ (pj_wv G11 81 7 (.int y12)) 99 [(0, .ref 81), (1, .ref 21)] [] _
  obtain ⟨G13, hG13⟩ : ∃ H, H = pj_wv G11 81 7 (.int y12) := ⟨_, rfl⟩
  have iG13 : pj_Inv G13 := by rw [hG13]; exact pj_Inv_wi iG11 (ci := 8) rfl (fun q hq => by cases hq)
  have kG13 : pj_kpt kc_68_81_21x G0 G13 := by rw [hG13]; exact pj_kpt_v kG11 rfl
  rw [← hG13]
  rw [pj_nm_e]
  refine pj_X_of (fun r h => pj_R_to (G13, 101, [(0, .ref 81), (1, .ref 21)], [.ref 21, .ref 81], 0, 0) 101 3 (fun _ => rfl) h) ?_
  refine pj_X_of (fun r h => pj_T_gi iG13 rfl rfl h) ?_
  show pj_X _ _ G13 104 [(0, .ref 81), (1, .ref 21)] [.int (pj_fi G13 21 8), .ref 81] _
  obtain ⟨y14, hy14⟩ : ∃ z : Int32, z = pj_fi G13 21 8 := ⟨_, rfl⟩
  rw [← hy14]
  rw [pj_nm_e]
  have ey14 : (pj_fi G13 21 8).toInt = y14.toInt := by rw [hy14]
  refine pj_X_of (fun r h => pj_T_pf iG13 rfl rfl rfl h) ?_
  show pj_X _ _ (pj_wv G13 81 8 (.int y14)) 107 [(0, .ref 81), (1, .ref 21)] [] _
  obtain ⟨G15, hG15⟩ : ∃ H, H = pj_wv G13 81 8 (.int y14) := ⟨_, rfl⟩
  have iG15 : pj_Inv G15 := by rw [hG15]; exact pj_Inv_wi iG13 (ci := 8) rfl (fun q hq => by cases hq)
  have kG15 : pj_kpt kc_68_81_21x G0 G15 := by rw [hG15]; exact pj_kpt_v kG13 rfl
  rw [← hG15]
  rw [pj_nm_e]
  have q16 : (pj_fi G15 81 0).toInt = y3.toInt := by rw [show pj_fi G15 81 0 = y3 from by rw [hG15, pj_fi_wv_ne _ _ _ _ _ _ (by decide)]; exact (by rw [hG13, pj_fi_wv_ne _ _ _ _ _ _ (by decide)]; exact (by rw [hG11, pj_fi_wc]; exact (by rw [hG10, pj_fi_wv_ne _ _ _ _ _ _ (by decide)]; exact (by rw [hG9, pj_fi_wc]; exact (by rw [hG8, pj_fi_wc]; exact (by rw [hG7, pj_fi_wc]; exact (by rw [hG6, pj_fi_wc]; exact (by rw [hG5]; exact pj_fi_wi hI.1 (ci := 8) rfl _))))))))]
  have q17 : (pj_fi G15 81 5).toInt = y4.toInt := by rw [show pj_fi G15 81 5 = y4 from by rw [hG15, pj_fi_wv_ne _ _ _ _ _ _ (by decide)]; exact (by rw [hG13, pj_fi_wv_ne _ _ _ _ _ _ (by decide)]; exact (by rw [hG11, pj_fi_wc]; exact (by rw [hG10]; exact pj_fi_wi iG9.1 (ci := 8) rfl _)))]
  have q18 : (pj_fi G15 21 0).toInt = y3.toInt := by rw [show pj_fi G15 21 0 = y3 from by rw [hG15, pj_fi_wv_ne _ _ _ _ _ _ (by decide)]; exact (by rw [hG13, pj_fi_wv_ne _ _ _ _ _ _ (by decide)]; exact (by rw [hG11, pj_fi_wc]; exact (by rw [hG10, pj_fi_wv_ne _ _ _ _ _ _ (by decide)]; exact (by rw [hG9, pj_fi_wc]; exact (by rw [hG8, pj_fi_wc]; exact (by rw [hG7, pj_fi_wc]; exact (by rw [hG6, pj_fi_wc]; exact (by rw [hG5, pj_fi_wv_ne _ _ _ _ _ _ (by decide)]; exact hy3.symm))))))))]
  have q19 : (pj_fi G15 21 5).toInt = y4.toInt := by rw [show pj_fi G15 21 5 = y4 from by rw [hG15, pj_fi_wv_ne _ _ _ _ _ _ (by decide)]; exact (by rw [hG13, pj_fi_wv_ne _ _ _ _ _ _ (by decide)]; exact (by rw [hG11, pj_fi_wc]; exact (by rw [hG10, pj_fi_wv_ne _ _ _ _ _ _ (by decide)]; exact (by rw [hG9, pj_fi_wc]; exact (by rw [hG8, pj_fi_wc]; exact (by rw [hG7, pj_fi_wc]; exact (by rw [hG6, pj_fi_wc]; exact (by rw [hG5, pj_fi_wv_ne _ _ _ _ _ _ (by decide)]; exact hy4.symm))))))))]
  exact pj_X_rt rfl rfl ⟨rfl, iG15, kG15, (fun H hH => by subst hH; exact (by omega)), rfl⟩
theorem fr_68_81_21x (G0 : pj_G) (hI : pj_Inv G0) : pj_Inv (F_68_81_21x G0) ∧ pj_kpt kc_68_81_21x G0 (F_68_81_21x G0) ∧ ((pj_fi (F_68_81_21x G0) 81 0).toInt = (pj_fi G0 21 0).toInt ∧ (pj_fi (F_68_81_21x G0) 81 5).toInt = (pj_fi G0 21 5).toInt) := by
  obtain ⟨v, G', -, -, i, j, x, e⟩ := ct_68_81_21x G0 hI 
  rw [← e]
  exact ⟨i, j, x _ rfl⟩
def kc_68_87_21x : pj_KT := ([(87, 0), (87, 5), (87, 7), (87, 8)], [87, 88, 89, 90, 91, 92], [88, 89, 90, 91, 92])
noncomputable def F_68_87_21x (G0 : pj_G) : pj_G := pj_nm (pj_fi G0 21 0) (fun y3 => pj_nm (pj_wv G0 87 0 (.int y3)) (fun G5 => pj_nm (pj_wc G5 22 88 6) (fun G6 => pj_nm (pj_wc G6 23 89 6) (fun G7 => pj_nm (pj_wc G7 24 90 6) (fun G8 => pj_nm (pj_wc G8 25 91 6) (fun G9 => pj_nm (pj_fi G0 21 5) (fun y4 => pj_nm (pj_wv G9 87 5 (.int y4)) (fun G10 => pj_nm (pj_wc G10 26 92 6) (fun G11 => pj_nm (pj_fi G11 21 7) (fun y12 => pj_nm (pj_wv G11 87 7 (.int y12)) (fun G13 => pj_nm (pj_fi G13 21 8) (fun y14 => pj_nm (pj_wv G13 87 8 (.int y14)) (fun G15 => G15)))))))))))))
theorem F_68_87_21x_e (G0 : pj_G) : F_68_87_21x G0 = pj_nm (pj_fi G0 21 0) (fun y3 => pj_nm (pj_wv G0 87 0 (.int y3)) (fun G5 => pj_nm (pj_wc G5 22 88 6) (fun G6 => pj_nm (pj_wc G6 23 89 6) (fun G7 => pj_nm (pj_wc G7 24 90 6) (fun G8 => pj_nm (pj_wc G8 25 91 6) (fun G9 => pj_nm (pj_fi G0 21 5) (fun y4 => pj_nm (pj_wv G9 87 5 (.int y4)) (fun G10 => pj_nm (pj_wc G10 26 92 6) (fun G11 => pj_nm (pj_fi G11 21 7) (fun y12 => pj_nm (pj_wv G11 87 7 (.int y12)) (fun G13 => pj_nm (pj_fi G13 21 8) (fun y14 => pj_nm (pj_wv G13 87 8 (.int y14)) (fun G15 => G15))))))))))))) := rfl
theorem ct_68_87_21x (G0 : pj_G) (hI : pj_Inv G0) : pj_Y 1 68 [.ref 87, .ref 21] G0 (fun v' G' => v' = none ∧ pj_Inv G' ∧ pj_kpt kc_68_87_21x G0 G' ∧ (∀ H, G0 = H → ((pj_fi G' 87 0).toInt = (pj_fi H 21 0).toInt ∧ (pj_fi G' 87 5).toInt = (pj_fi H 21 5).toInt)) ∧ (G' = F_68_87_21x G0)) := by
  have c0_ : ((Int8.ofInt 6).toInt32).toInt = 6 := by decide
  have c1_ : (Int32.ofInt 0).toInt = 0 := by decide
  refine pj_Y_X (M := pj_m68) rfl rfl (Nat.le_of_ble_eq_true rfl) ?_
  have hK : pj_kpt kc_68_87_21x G0 G0 := pj_kpt_r _ _
  show pj_X _ _ G0 0 [(0, .ref 87), (1, .ref 21)] [] _
  rw [F_68_87_21x_e]
  obtain ⟨y1, hy1⟩ : ∃ z : Int32, z = pj_fi G0 87 0 := ⟨_, rfl⟩
  have ey1 : (pj_fi G0 87 0).toInt = y1.toInt := by rw [hy1]
  have ry1 : (0 : Int) ≤ y1.toInt ∧ y1.toInt ≤ 6 := by rw [hy1]; exact hI.2.1 87 0 (0, 6) rfl
  obtain ⟨y2, hy2⟩ : ∃ z : Int32, z = pj_fi G0 87 5 := ⟨_, rfl⟩
  have ey2 : (pj_fi G0 87 5).toInt = y2.toInt := by rw [hy2]
  have ry2 : (0 : Int) ≤ y2.toInt ∧ y2.toInt ≤ 6 := by rw [hy2]; exact hI.2.1 87 5 (0, 6) rfl
  obtain ⟨y3, hy3⟩ : ∃ z : Int32, z = pj_fi G0 21 0 := ⟨_, rfl⟩
  have ey3 : (pj_fi G0 21 0).toInt = y3.toInt := by rw [hy3]
  have ry3 : (0 : Int) ≤ y3.toInt ∧ y3.toInt ≤ 6 := by rw [hy3]; exact hI.2.1 21 0 (0, 6) rfl
  obtain ⟨y4, hy4⟩ : ∃ z : Int32, z = pj_fi G0 21 5 := ⟨_, rfl⟩
  have ey4 : (pj_fi G0 21 5).toInt = y4.toInt := by rw [hy4]
  have ry4 : (0 : Int) ≤ y4.toInt ∧ y4.toInt ≤ 6 := by rw [hy4]; exact hI.2.1 21 5 (0, 6) rfl
  refine pj_X_of (fun r h => pj_R_to (G0, 2, [(0, .ref 87), (1, .ref 21)], [.ref 21, .ref 87], 0, 0) 2 3 (fun _ => rfl) h) ?_
  refine pj_X_of (fun r h => pj_T_gi hI rfl rfl h) ?_
  show pj_X _ _ G0 5 [(0, .ref 87), (1, .ref 21)] [.int (pj_fi G0 21 0), .ref 87] _
  rw [← hy3, pj_nm_e]
  refine pj_X_of (fun r h => pj_T_pf hI rfl rfl rfl h) ?_
  show pj_X _ _ (pj_wv G0 87 0 (.int y3)) 8 [(0, .ref 87), (1, .ref 21)] [] _
  obtain ⟨G5, hG5⟩ : ∃ H, H = pj_wv G0 87 0 (.int y3) := ⟨_, rfl⟩
  have iG5 : pj_Inv G5 := by rw [hG5]; exact pj_Inv_wi hI (ci := 8) rfl (fun q hq => by cases hq; exact ⟨by show (0 : Int) ≤ _; omega, by show _ ≤ (6 : Int); omega⟩)
  have kG5 : pj_kpt kc_68_87_21x G0 G5 := by rw [hG5]; exact pj_kpt_v hK rfl
  rw [← hG5]
  rw [pj_nm_e]
  refine pj_X_of (fun r h => pj_R_to (G5, 9, [(0, .ref 87), (1, .ref 21)], [.ref 21], 0, 0) 9 2 (fun _ => rfl) h) ?_
  refine pj_X_of (fun r h => pj_T_gr iG5 rfl rfl rfl h) ?_
  refine pj_X_of (fun r h => pj_R_to (G5, 14, [(0, .ref 87), (1, .ref 21)], [.ref 87, .int (Int32.ofInt 0), .ref 22], 0, 0) 14 3 (fun _ => rfl) h) ?_
  refine pj_X_of (fun r h => pj_T_gr iG5 rfl rfl rfl h) ?_
  refine pj_X_of (fun r h => pj_R_to (G5, 20, [(0, .ref 87), (1, .ref 21)], [.int ((Int8.ofInt 6).toInt32), .int (Int32.ofInt 0), .ref 88, .int (Int32.ofInt 0), .ref 22], 0, 0) 20 3 (fun _ => rfl) h) ?_
  refine pj_X_of (fun r h => pj_T_cp iG5 rfl rfl rfl rfl (by omega) (by omega) (by show _ = ((6 : Nat) : Int); omega) (Nat.le_of_ble_eq_true rfl) h) ?_
  show pj_X _ _ (pj_wc G5 22 88 6) 23 [(0, .ref 87), (1, .ref 21)] [] _
  obtain ⟨G6, hG6⟩ : ∃ H, H = pj_wc G5 22 88 6 := ⟨_, rfl⟩
  have iG6 : pj_Inv G6 := by rw [hG6]; exact pj_Inv_wc iG5 rfl rfl (fun q hq => by cases hq; exact ⟨rfl, by decide⟩) rfl
  have kG6 : pj_kpt kc_68_87_21x G0 G6 := by rw [hG6]; exact pj_kpt_c kG5 rfl
  rw [← hG6]
  rw [pj_nm_e]
  refine pj_X_of (fun r h => pj_R_to (G6, 24, [(0, .ref 87), (1, .ref 21)], [.ref 21], 0, 0) 24 2 (fun _ => rfl) h) ?_
  refine pj_X_of (fun r h => pj_T_gr iG6 rfl rfl rfl h) ?_
  refine pj_X_of (fun r h => pj_R_to (G6, 29, [(0, .ref 87), (1, .ref 21)], [.ref 87, .int (Int32.ofInt 0), .ref 23], 0, 0) 29 3 (fun _ => rfl) h) ?_
  refine pj_X_of (fun r h => pj_T_gr iG6 rfl rfl rfl h) ?_
  refine pj_X_of (fun r h => pj_R_to (G6, 35, [(0, .ref 87), (1, .ref 21)], [.int ((Int8.ofInt 6).toInt32), .int (Int32.ofInt 0), .ref 89, .int (Int32.ofInt 0), .ref 23], 0, 0) 35 3 (fun _ => rfl) h) ?_
  refine pj_X_of (fun r h => pj_T_cp iG6 rfl rfl rfl rfl (by omega) (by omega) (by show _ = ((6 : Nat) : Int); omega) (Nat.le_of_ble_eq_true rfl) h) ?_
  show pj_X _ _ (pj_wc G6 23 89 6) 38 [(0, .ref 87), (1, .ref 21)] [] _
  obtain ⟨G7, hG7⟩ : ∃ H, H = pj_wc G6 23 89 6 := ⟨_, rfl⟩
  have iG7 : pj_Inv G7 := by rw [hG7]; exact pj_Inv_wc iG6 rfl rfl (fun q hq => by cases hq) rfl
  have kG7 : pj_kpt kc_68_87_21x G0 G7 := by rw [hG7]; exact pj_kpt_c kG6 rfl
  rw [← hG7]
  rw [pj_nm_e]
  refine pj_X_of (fun r h => pj_R_to (G7, 39, [(0, .ref 87), (1, .ref 21)], [.ref 21], 0, 0) 39 2 (fun _ => rfl) h) ?_
  refine pj_X_of (fun r h => pj_T_gr iG7 rfl rfl rfl h) ?_
  refine pj_X_of (fun r h => pj_R_to (G7, 44, [(0, .ref 87), (1, .ref 21)], [.ref 87, .int (Int32.ofInt 0), .ref 24], 0, 0) 44 3 (fun _ => rfl) h) ?_
  refine pj_X_of (fun r h => pj_T_gr iG7 rfl rfl rfl h) ?_
  refine pj_X_of (fun r h => pj_R_to (G7, 50, [(0, .ref 87), (1, .ref 21)], [.int ((Int8.ofInt 6).toInt32), .int (Int32.ofInt 0), .ref 90, .int (Int32.ofInt 0), .ref 24], 0, 0) 50 3 (fun _ => rfl) h) ?_
  refine pj_X_of (fun r h => pj_T_cp iG7 rfl rfl rfl rfl (by omega) (by omega) (by show _ = ((6 : Nat) : Int); omega) (Nat.le_of_ble_eq_true rfl) h) ?_
  show pj_X _ _ (pj_wc G7 24 90 6) 53 [(0, .ref 87), (1, .ref 21)] [] _
  obtain ⟨G8, hG8⟩ : ∃ H, H = pj_wc G7 24 90 6 := ⟨_, rfl⟩
  have iG8 : pj_Inv G8 := by rw [hG8]; exact pj_Inv_wc iG7 rfl rfl (fun q hq => by cases hq) rfl
  have kG8 : pj_kpt kc_68_87_21x G0 G8 := by rw [hG8]; exact pj_kpt_c kG7 rfl
  rw [← hG8]
  rw [pj_nm_e]
  refine pj_X_of (fun r h => pj_R_to (G8, 54, [(0, .ref 87), (1, .ref 21)], [.ref 21], 0, 0) 54 2 (fun _ => rfl) h) ?_
  refine pj_X_of (fun r h => pj_T_gr iG8 rfl rfl rfl h) ?_
  refine pj_X_of (fun r h => pj_R_to (G8, 59, [(0, .ref 87), (1, .ref 21)], [.ref 87, .int (Int32.ofInt 0), .ref 25], 0, 0) 59 3 (fun _ => rfl) h) ?_
  refine pj_X_of (fun r h => pj_T_gr iG8 rfl rfl rfl h) ?_
  refine pj_X_of (fun r h => pj_R_to (G8, 65, [(0, .ref 87), (1, .ref 21)], [.int ((Int8.ofInt 6).toInt32), .int (Int32.ofInt 0), .ref 91, .int (Int32.ofInt 0), .ref 25], 0, 0) 65 3 (fun _ => rfl) h) ?_
  refine pj_X_of (fun r h => pj_T_cp iG8 rfl rfl rfl rfl (by omega) (by omega) (by show _ = ((6 : Nat) : Int); omega) (Nat.le_of_ble_eq_true rfl) h) ?_
  show pj_X _ _ (pj_wc G8 25 91 6) 68 [(0, .ref 87), (1, .ref 21)] [] _
  obtain ⟨G9, hG9⟩ : ∃ H, H = pj_wc G8 25 91 6 := ⟨_, rfl⟩
  have iG9 : pj_Inv G9 := by rw [hG9]; exact pj_Inv_wc iG8 rfl rfl (fun q hq => by cases hq) rfl
  have kG9 : pj_kpt kc_68_87_21x G0 G9 := by rw [hG9]; exact pj_kpt_c kG8 rfl
  rw [← hG9]
  rw [pj_nm_e]
  refine pj_X_of (fun r h => pj_R_to (G9, 70, [(0, .ref 87), (1, .ref 21)], [.ref 21, .ref 87], 0, 0) 70 3 (fun _ => rfl) h) ?_
  refine pj_X_of (fun r h => pj_T_gi iG9 rfl rfl h) ?_
  show pj_X _ _ G9 73 [(0, .ref 87), (1, .ref 21)] [.int (pj_fi G9 21 5), .ref 87] _
  rw [← hy4, pj_nm_e]
  rw [show pj_fi G9 21 5 = y4 from by rw [hG9, pj_fi_wc]; exact (by rw [hG8, pj_fi_wc]; exact (by rw [hG7, pj_fi_wc]; exact (by rw [hG6, pj_fi_wc]; exact (by rw [hG5, pj_fi_wv_ne _ _ _ _ _ _ (by decide)]; exact hy4.symm))))]
  refine pj_X_of (fun r h => pj_T_pf iG9 rfl rfl rfl h) ?_
  show pj_X _ _ (pj_wv G9 87 5 (.int y4)) 76 [(0, .ref 87), (1, .ref 21)] [] _
  obtain ⟨G10, hG10⟩ : ∃ H, H = pj_wv G9 87 5 (.int y4) := ⟨_, rfl⟩
  have iG10 : pj_Inv G10 := by rw [hG10]; exact pj_Inv_wi iG9 (ci := 8) rfl (fun q hq => by cases hq; exact ⟨by show (0 : Int) ≤ _; omega, by show _ ≤ (6 : Int); omega⟩)
  have kG10 : pj_kpt kc_68_87_21x G0 G10 := by rw [hG10]; exact pj_kpt_v kG9 rfl
  rw [← hG10]
  rw [pj_nm_e]
  refine pj_X_of (fun r h => pj_R_to (G10, 77, [(0, .ref 87), (1, .ref 21)], [.ref 21], 0, 0) 77 2 (fun _ => rfl) h) ?_
  refine pj_X_of (fun r h => pj_T_gr iG10 rfl rfl rfl h) ?_
  refine pj_X_of (fun r h => pj_R_to (G10, 82, [(0, .ref 87), (1, .ref 21)], [.ref 87, .int (Int32.ofInt 0), .ref 26], 0, 0) 82 3 (fun _ => rfl) h) ?_
  refine pj_X_of (fun r h => pj_T_gr iG10 rfl rfl rfl h) ?_
  refine pj_X_of (fun r h => pj_R_to (G10, 88, [(0, .ref 87), (1, .ref 21)], [.int ((Int8.ofInt 6).toInt32), .int (Int32.ofInt 0), .ref 92, .int (Int32.ofInt 0), .ref 26], 0, 0) 88 3 (fun _ => rfl) h) ?_
  refine pj_X_of (fun r h => pj_T_cp iG10 rfl rfl rfl rfl (by omega) (by omega) (by show _ = ((6 : Nat) : Int); omega) (Nat.le_of_ble_eq_true rfl) h) ?_
  show pj_X _ _ (pj_wc G10 26 92 6) 91 [(0, .ref 87), (1, .ref 21)] [] _
  obtain ⟨G11, hG11⟩ : ∃ H, H = pj_wc G10 26 92 6 := ⟨_, rfl⟩
  have iG11 : pj_Inv G11 := by rw [hG11]; exact pj_Inv_wc iG10 rfl rfl (fun q hq => by cases hq; exact ⟨rfl, by decide⟩) rfl
  have kG11 : pj_kpt kc_68_87_21x G0 G11 := by rw [hG11]; exact pj_kpt_c kG10 rfl
  rw [← hG11]
  rw [pj_nm_e]
  refine pj_X_of (fun r h => pj_R_to (G11, 93, [(0, .ref 87), (1, .ref 21)], [.ref 21, .ref 87], 0, 0) 93 3 (fun _ => rfl) h) ?_
  refine pj_X_of (fun r h => pj_T_gi iG11 rfl rfl h) ?_
  show pj_X _ _ G11 96 [(0, .ref 87), (1, .ref 21)] [.int (pj_fi G11 21 7), .ref 87] _
  obtain ⟨y12, hy12⟩ : ∃ z : Int32, z = pj_fi G11 21 7 := ⟨_, rfl⟩
  rw [← hy12]
  rw [pj_nm_e]
  have ey12 : (pj_fi G11 21 7).toInt = y12.toInt := by rw [hy12]
  refine pj_X_of (fun r h => pj_T_pf iG11 rfl rfl rfl h) ?_
  show pj_X _ _ (pj_wv G11 87 7 (.int y12)) 99 [(0, .ref 87), (1, .ref 21)] [] _
  obtain ⟨G13, hG13⟩ : ∃ H, H = pj_wv G11 87 7 (.int y12) := ⟨_, rfl⟩
  have iG13 : pj_Inv G13 := by rw [hG13]; exact pj_Inv_wi iG11 (ci := 8) rfl (fun q hq => by cases hq)
  have kG13 : pj_kpt kc_68_87_21x G0 G13 := by rw [hG13]; exact pj_kpt_v kG11 rfl
  rw [← hG13]
  rw [pj_nm_e]
  refine pj_X_of (fun r h => pj_R_to (G13, 101, [(0, .ref 87), (1, .ref 21)], [.ref 21, .ref 87], 0, 0) 101 3 (fun _ => rfl) h) ?_
  refine pj_X_of (fun r h => pj_T_gi iG13 rfl rfl h) ?_
  show pj_X _ _ G13 104 [(0, .ref 87), (1, .ref 21)] [.int (pj_fi G13 21 8), .ref 87] _
  obtain ⟨y14, hy14⟩ : ∃ z : Int32, z = pj_fi G13 21 8 := ⟨_, rfl⟩
  rw [← hy14]
  rw [pj_nm_e]
  have ey14 : (pj_fi G13 21 8).toInt = y14.toInt := by rw [hy14]
  refine pj_X_of (fun r h => pj_T_pf iG13 rfl rfl rfl h) ?_
  show pj_X _ _ (pj_wv G13 87 8 (.int y14)) 107 [(0, .ref 87), (1, .ref 21)] [] _
  obtain ⟨G15, hG15⟩ : ∃ H, H = pj_wv G13 87 8 (.int y14) := ⟨_, rfl⟩
  have iG15 : pj_Inv G15 := by rw [hG15]; exact pj_Inv_wi iG13 (ci := 8) rfl (fun q hq => by cases hq)
  have kG15 : pj_kpt kc_68_87_21x G0 G15 := by rw [hG15]; exact pj_kpt_v kG13 rfl
  rw [← hG15]
  rw [pj_nm_e]
  have q16 : (pj_fi G15 87 0).toInt = y3.toInt := by rw [show pj_fi G15 87 0 = y3 from by rw [hG15, pj_fi_wv_ne _ _ _ _ _ _ (by decide)]; exact (by rw [hG13, pj_fi_wv_ne _ _ _ _ _ _ (by decide)]; exact (by rw [hG11, pj_fi_wc]; exact (by rw [hG10, pj_fi_wv_ne _ _ _ _ _ _ (by decide)]; exact (by rw [hG9, pj_fi_wc]; exact (by rw [hG8, pj_fi_wc]; exact (by rw [hG7, pj_fi_wc]; exact (by rw [hG6, pj_fi_wc]; exact (by rw [hG5]; exact pj_fi_wi hI.1 (ci := 8) rfl _))))))))]
  have q17 : (pj_fi G15 87 5).toInt = y4.toInt := by rw [show pj_fi G15 87 5 = y4 from by rw [hG15, pj_fi_wv_ne _ _ _ _ _ _ (by decide)]; exact (by rw [hG13, pj_fi_wv_ne _ _ _ _ _ _ (by decide)]; exact (by rw [hG11, pj_fi_wc]; exact (by rw [hG10]; exact pj_fi_wi iG9.1 (ci := 8) rfl _)))]
  have q18 : (pj_fi G15 21 0).toInt = y3.toInt := by rw [show pj_fi G15 21 0 = y3 from by rw [hG15, pj_fi_wv_ne _ _ _ _ _ _ (by decide)]; exact (by rw [hG13, pj_fi_wv_ne _ _ _ _ _ _ (by decide)]; exact (by rw [hG11, pj_fi_wc]; exact (by rw [hG10, pj_fi_wv_ne _ _ _ _ _ _ (by decide)]; exact (by rw [hG9, pj_fi_wc]; exact (by rw [hG8, pj_fi_wc]; exact (by rw [hG7, pj_fi_wc]; exact (by rw [hG6, pj_fi_wc]; exact (by rw [hG5, pj_fi_wv_ne _ _ _ _ _ _ (by decide)]; exact hy3.symm))))))))]
  have q19 : (pj_fi G15 21 5).toInt = y4.toInt := by rw [show pj_fi G15 21 5 = y4 from by rw [hG15, pj_fi_wv_ne _ _ _ _ _ _ (by decide)]; exact (by rw [hG13, pj_fi_wv_ne _ _ _ _ _ _ (by decide)]; exact (by rw [hG11, pj_fi_wc]; exact (by rw [hG10, pj_fi_wv_ne _ _ _ _ _ _ (by decide)]; exact (by rw [hG9, pj_fi_wc]; exact (by rw [hG8, pj_fi_wc]; exact (by rw [hG7, pj_fi_wc]; exact (by rw [hG6, pj_fi_wc]; exact (by rw [hG5, pj_fi_wv_ne _ _ _ _ _ _ (by decide)]; exact hy4.symm))))))))]
  exact pj_X_rt rfl rfl ⟨rfl, iG15, kG15, (fun H hH => by subst hH; exact (by omega)), rfl⟩
theorem fr_68_87_21x (G0 : pj_G) (hI : pj_Inv G0) : pj_Inv (F_68_87_21x G0) ∧ pj_kpt kc_68_87_21x G0 (F_68_87_21x G0) ∧ ((pj_fi (F_68_87_21x G0) 87 0).toInt = (pj_fi G0 21 0).toInt ∧ (pj_fi (F_68_87_21x G0) 87 5).toInt = (pj_fi G0 21 5).toInt) := by
  obtain ⟨v, G', -, -, i, j, x, e⟩ := ct_68_87_21x G0 hI 
  rw [← e]
  exact ⟨i, j, x _ rfl⟩
def kc_68_93_21x : pj_KT := ([(93, 0), (93, 5), (93, 7), (93, 8)], [93, 94, 95, 96, 97, 98], [94, 95, 96, 97, 98])
noncomputable def F_68_93_21x (G0 : pj_G) : pj_G := pj_nm (pj_fi G0 21 0) (fun y3 => pj_nm (pj_wv G0 93 0 (.int y3)) (fun G5 => pj_nm (pj_wc G5 22 94 6) (fun G6 => pj_nm (pj_wc G6 23 95 6) (fun G7 => pj_nm (pj_wc G7 24 96 6) (fun G8 => pj_nm (pj_wc G8 25 97 6) (fun G9 => pj_nm (pj_fi G0 21 5) (fun y4 => pj_nm (pj_wv G9 93 5 (.int y4)) (fun G10 => pj_nm (pj_wc G10 26 98 6) (fun G11 => pj_nm (pj_fi G11 21 7) (fun y12 => pj_nm (pj_wv G11 93 7 (.int y12)) (fun G13 => pj_nm (pj_fi G13 21 8) (fun y14 => pj_nm (pj_wv G13 93 8 (.int y14)) (fun G15 => G15)))))))))))))
theorem F_68_93_21x_e (G0 : pj_G) : F_68_93_21x G0 = pj_nm (pj_fi G0 21 0) (fun y3 => pj_nm (pj_wv G0 93 0 (.int y3)) (fun G5 => pj_nm (pj_wc G5 22 94 6) (fun G6 => pj_nm (pj_wc G6 23 95 6) (fun G7 => pj_nm (pj_wc G7 24 96 6) (fun G8 => pj_nm (pj_wc G8 25 97 6) (fun G9 => pj_nm (pj_fi G0 21 5) (fun y4 => pj_nm (pj_wv G9 93 5 (.int y4)) (fun G10 => pj_nm (pj_wc G10 26 98 6) (fun G11 => pj_nm (pj_fi G11 21 7) (fun y12 => pj_nm (pj_wv G11 93 7 (.int y12)) (fun G13 => pj_nm (pj_fi G13 21 8) (fun y14 => pj_nm (pj_wv G13 93 8 (.int y14)) (fun G15 => G15))))))))))))) := rfl
theorem ct_68_93_21x (G0 : pj_G) (hI : pj_Inv G0) : pj_Y 1 68 [.ref 93, .ref 21] G0 (fun v' G' => v' = none ∧ pj_Inv G' ∧ pj_kpt kc_68_93_21x G0 G' ∧ (∀ H, G0 = H → ((pj_fi G' 93 0).toInt = (pj_fi H 21 0).toInt ∧ (pj_fi G' 93 5).toInt = (pj_fi H 21 5).toInt)) ∧ (G' = F_68_93_21x G0)) := by
  have c0_ : ((Int8.ofInt 6).toInt32).toInt = 6 := by decide
  have c1_ : (Int32.ofInt 0).toInt = 0 := by decide
  refine pj_Y_X (M := pj_m68) rfl rfl (Nat.le_of_ble_eq_true rfl) ?_
  have hK : pj_kpt kc_68_93_21x G0 G0 := pj_kpt_r _ _
  show pj_X _ _ G0 0 [(0, .ref 93), (1, .ref 21)] [] _
  rw [F_68_93_21x_e]
  obtain ⟨y1, hy1⟩ : ∃ z : Int32, z = pj_fi G0 93 0 := ⟨_, rfl⟩
  have ey1 : (pj_fi G0 93 0).toInt = y1.toInt := by rw [hy1]
  have ry1 : (0 : Int) ≤ y1.toInt ∧ y1.toInt ≤ 6 := by rw [hy1]; exact hI.2.1 93 0 (0, 6) rfl
  obtain ⟨y2, hy2⟩ : ∃ z : Int32, z = pj_fi G0 93 5 := ⟨_, rfl⟩
  have ey2 : (pj_fi G0 93 5).toInt = y2.toInt := by rw [hy2]
  have ry2 : (0 : Int) ≤ y2.toInt ∧ y2.toInt ≤ 6 := by rw [hy2]; exact hI.2.1 93 5 (0, 6) rfl
  obtain ⟨y3, hy3⟩ : ∃ z : Int32, z = pj_fi G0 21 0 := ⟨_, rfl⟩
  have ey3 : (pj_fi G0 21 0).toInt = y3.toInt := by rw [hy3]
  have ry3 : (0 : Int) ≤ y3.toInt ∧ y3.toInt ≤ 6 := by rw [hy3]; exact hI.2.1 21 0 (0, 6) rfl
  obtain ⟨y4, hy4⟩ : ∃ z : Int32, z = pj_fi G0 21 5 := ⟨_, rfl⟩
  have ey4 : (pj_fi G0 21 5).toInt = y4.toInt := by rw [hy4]
  have ry4 : (0 : Int) ≤ y4.toInt ∧ y4.toInt ≤ 6 := by rw [hy4]; exact hI.2.1 21 5 (0, 6) rfl
  refine pj_X_of (fun r h => pj_R_to (G0, 2, [(0, .ref 93), (1, .ref 21)], [.ref 21, .ref 93], 0, 0) 2 3 (fun _ => rfl) h) ?_
  refine pj_X_of (fun r h => pj_T_gi hI rfl rfl h) ?_
  show pj_X _ _ G0 5 [(0, .ref 93), (1, .ref 21)] [.int (pj_fi G0 21 0), .ref 93] _
  rw [← hy3, pj_nm_e]
  refine pj_X_of (fun r h => pj_T_pf hI rfl rfl rfl h) ?_
  show pj_X _ _ (pj_wv G0 93 0 (.int y3)) 8 [(0, .ref 93), (1, .ref 21)] [] _
  obtain ⟨G5, hG5⟩ : ∃ H, H = pj_wv G0 93 0 (.int y3) := ⟨_, rfl⟩
  have iG5 : pj_Inv G5 := by rw [hG5]; exact pj_Inv_wi hI (ci := 8) rfl (fun q hq => by cases hq; exact ⟨by show (0 : Int) ≤ _; omega, by show _ ≤ (6 : Int); omega⟩)
  have kG5 : pj_kpt kc_68_93_21x G0 G5 := by rw [hG5]; exact pj_kpt_v hK rfl
  rw [← hG5]
  rw [pj_nm_e]
  refine pj_X_of (fun r h => pj_R_to (G5, 9, [(0, .ref 93), (1, .ref 21)], [.ref 21], 0, 0) 9 2 (fun _ => rfl) h) ?_
  refine pj_X_of (fun r h => pj_T_gr iG5 rfl rfl rfl h) ?_
  refine pj_X_of (fun r h => pj_R_to (G5, 14, [(0, .ref 93), (1, .ref 21)], [.ref 93, .int (Int32.ofInt 0), .ref 22], 0, 0) 14 3 (fun _ => rfl) h) ?_
  refine pj_X_of (fun r h => pj_T_gr iG5 rfl rfl rfl h) ?_
  refine pj_X_of (fun r h => pj_R_to (G5, 20, [(0, .ref 93), (1, .ref 21)], [.int ((Int8.ofInt 6).toInt32), .int (Int32.ofInt 0), .ref 94, .int (Int32.ofInt 0), .ref 22], 0, 0) 20 3 (fun _ => rfl) h) ?_
  refine pj_X_of (fun r h => pj_T_cp iG5 rfl rfl rfl rfl (by omega) (by omega) (by show _ = ((6 : Nat) : Int); omega) (Nat.le_of_ble_eq_true rfl) h) ?_
  show pj_X _ _ (pj_wc G5 22 94 6) 23 [(0, .ref 93), (1, .ref 21)] [] _
  obtain ⟨G6, hG6⟩ : ∃ H, H = pj_wc G5 22 94 6 := ⟨_, rfl⟩
  have iG6 : pj_Inv G6 := by rw [hG6]; exact pj_Inv_wc iG5 rfl rfl (fun q hq => by cases hq; exact ⟨rfl, by decide⟩) rfl
  have kG6 : pj_kpt kc_68_93_21x G0 G6 := by rw [hG6]; exact pj_kpt_c kG5 rfl
  rw [← hG6]
  rw [pj_nm_e]
  refine pj_X_of (fun r h => pj_R_to (G6, 24, [(0, .ref 93), (1, .ref 21)], [.ref 21], 0, 0) 24 2 (fun _ => rfl) h) ?_
  refine pj_X_of (fun r h => pj_T_gr iG6 rfl rfl rfl h) ?_
  refine pj_X_of (fun r h => pj_R_to (G6, 29, [(0, .ref 93), (1, .ref 21)], [.ref 93, .int (Int32.ofInt 0), .ref 23], 0, 0) 29 3 (fun _ => rfl) h) ?_
  refine pj_X_of (fun r h => pj_T_gr iG6 rfl rfl rfl h) ?_
  refine pj_X_of (fun r h => pj_R_to (G6, 35, [(0, .ref 93), (1, .ref 21)], [.int ((Int8.ofInt 6).toInt32), .int (Int32.ofInt 0), .ref 95, .int (Int32.ofInt 0), .ref 23], 0, 0) 35 3 (fun _ => rfl) h) ?_
  refine pj_X_of (fun r h => pj_T_cp iG6 rfl rfl rfl rfl (by omega) (by omega) (by show _ = ((6 : Nat) : Int); omega) (Nat.le_of_ble_eq_true rfl) h) ?_
  show pj_X _ _ (pj_wc G6 23 95 6) 38 [(0, .ref 93), (1, .ref 21)] [] _
  obtain ⟨G7, hG7⟩ : ∃ H, H = pj_wc G6 23 95 6 := ⟨_, rfl⟩
  have iG7 : pj_Inv G7 := by rw [hG7]; exact pj_Inv_wc iG6 rfl rfl (fun q hq => by cases hq) rfl
  have kG7 : pj_kpt kc_68_93_21x G0 G7 := by rw [hG7]; exact pj_kpt_c kG6 rfl
  rw [← hG7]
  rw [pj_nm_e]
  refine pj_X_of (fun r h => pj_R_to (G7, 39, [(0, .ref 93), (1, .ref 21)], [.ref 21], 0, 0) 39 2 (fun _ => rfl) h) ?_
  refine pj_X_of (fun r h => pj_T_gr iG7 rfl rfl rfl h) ?_
  refine pj_X_of (fun r h => pj_R_to (G7, 44, [(0, .ref 93), (1, .ref 21)], [.ref 93, .int (Int32.ofInt 0), .ref 24], 0, 0) 44 3 (fun _ => rfl) h) ?_
  refine pj_X_of (fun r h => pj_T_gr iG7 rfl rfl rfl h) ?_
  refine pj_X_of (fun r h => pj_R_to (G7, 50, [(0, .ref 93), (1, .ref 21)], [.int ((Int8.ofInt 6).toInt32), .int (Int32.ofInt 0), .ref 96, .int (Int32.ofInt 0), .ref 24], 0, 0) 50 3 (fun _ => rfl) h) ?_
  refine pj_X_of (fun r h => pj_T_cp iG7 rfl rfl rfl rfl (by omega) (by omega) (by show _ = ((6 : Nat) : Int); omega) (Nat.le_of_ble_eq_true rfl) h) ?_
  show pj_X _ _ (pj_wc G7 24 96 6) 53 [(0, .ref 93), (1, .ref 21)] [] _
  obtain ⟨G8, hG8⟩ : ∃ H, H = pj_wc G7 24 96 6 := ⟨_, rfl⟩
  have iG8 : pj_Inv G8 := by rw [hG8]; exact pj_Inv_wc iG7 rfl rfl (fun q hq => by cases hq) rfl
  have kG8 : pj_kpt kc_68_93_21x G0 G8 := by rw [hG8]; exact pj_kpt_c kG7 rfl
  rw [← hG8]
  rw [pj_nm_e]
  refine pj_X_of (fun r h => pj_R_to (G8, 54, [(0, .ref 93), (1, .ref 21)], [.ref 21], 0, 0) 54 2 (fun _ => rfl) h) ?_
  refine pj_X_of (fun r h => pj_T_gr iG8 rfl rfl rfl h) ?_
  refine pj_X_of (fun r h => pj_R_to (G8, 59, [(0, .ref 93), (1, .ref 21)], [.ref 93, .int (Int32.ofInt 0), .ref 25], 0, 0) 59 3 (fun _ => rfl) h) ?_
  refine pj_X_of (fun r h => pj_T_gr iG8 rfl rfl rfl h) ?_
  refine pj_X_of (fun r h => pj_R_to (G8, 65, [(0, .ref 93), (1, .ref 21)], [.int ((Int8.ofInt 6).toInt32), .int (Int32.ofInt 0), .ref 97, .int (Int32.ofInt 0), .ref 25], 0, 0) 65 3 (fun _ => rfl) h) ?_
  refine pj_X_of (fun r h => pj_T_cp iG8 rfl rfl rfl rfl (by omega) (by omega) (by show _ = ((6 : Nat) : Int); omega) (Nat.le_of_ble_eq_true rfl) h) ?_
  show pj_X _ _ (pj_wc G8 25 97 6) 68 [(0, .ref 93), (1, .ref 21)] [] _
  obtain ⟨G9, hG9⟩ : ∃ H, H = pj_wc G8 25 97 6 := ⟨_, rfl⟩
  have iG9 : pj_Inv G9 := by rw [hG9]; exact pj_Inv_wc iG8 rfl rfl (fun q hq => by cases hq) rfl
  have kG9 : pj_kpt kc_68_93_21x G0 G9 := by rw [hG9]; exact pj_kpt_c kG8 rfl
  rw [← hG9]
  rw [pj_nm_e]
  refine pj_X_of (fun r h => pj_R_to (G9, 70, [(0, .ref 93), (1, .ref 21)], [.ref 21, .ref 93], 0, 0) 70 3 (fun _ => rfl) h) ?_
  refine pj_X_of (fun r h => pj_T_gi iG9 rfl rfl h) ?_
  show pj_X _ _ G9 73 [(0, .ref 93), (1, .ref 21)] [.int (pj_fi G9 21 5), .ref 93] _
  rw [← hy4, pj_nm_e]
  rw [show pj_fi G9 21 5 = y4 from by rw [hG9, pj_fi_wc]; exact (by rw [hG8, pj_fi_wc]; exact (by rw [hG7, pj_fi_wc]; exact (by rw [hG6, pj_fi_wc]; exact (by rw [hG5, pj_fi_wv_ne _ _ _ _ _ _ (by decide)]; exact hy4.symm))))]
  refine pj_X_of (fun r h => pj_T_pf iG9 rfl rfl rfl h) ?_
  show pj_X _ _ (pj_wv G9 93 5 (.int y4)) 76 [(0, .ref 93), (1, .ref 21)] [] _
  obtain ⟨G10, hG10⟩ : ∃ H, H = pj_wv G9 93 5 (.int y4) := ⟨_, rfl⟩
  have iG10 : pj_Inv G10 := by rw [hG10]; exact pj_Inv_wi iG9 (ci := 8) rfl (fun q hq => by cases hq; exact ⟨by show (0 : Int) ≤ _; omega, by show _ ≤ (6 : Int); omega⟩)
  have kG10 : pj_kpt kc_68_93_21x G0 G10 := by rw [hG10]; exact pj_kpt_v kG9 rfl
  rw [← hG10]
  rw [pj_nm_e]
  refine pj_X_of (fun r h => pj_R_to (G10, 77, [(0, .ref 93), (1, .ref 21)], [.ref 21], 0, 0) 77 2 (fun _ => rfl) h) ?_
  refine pj_X_of (fun r h => pj_T_gr iG10 rfl rfl rfl h) ?_
  refine pj_X_of (fun r h => pj_R_to (G10, 82, [(0, .ref 93), (1, .ref 21)], [.ref 93, .int (Int32.ofInt 0), .ref 26], 0, 0) 82 3 (fun _ => rfl) h) ?_
  refine pj_X_of (fun r h => pj_T_gr iG10 rfl rfl rfl h) ?_
  refine pj_X_of (fun r h => pj_R_to (G10, 88, [(0, .ref 93), (1, .ref 21)], [.int ((Int8.ofInt 6).toInt32), .int (Int32.ofInt 0), .ref 98, .int (Int32.ofInt 0), .ref 26], 0, 0) 88 3 (fun _ => rfl) h) ?_
  refine pj_X_of (fun r h => pj_T_cp iG10 rfl rfl rfl rfl (by omega) (by omega) (by show _ = ((6 : Nat) : Int); omega) (Nat.le_of_ble_eq_true rfl) h) ?_
  show pj_X _ _ (pj_wc G10 26 98 6) 91 [(0, .ref 93), (1, .ref 21)] [] _
  obtain ⟨G11, hG11⟩ : ∃ H, H = pj_wc G10 26 98 6 := ⟨_, rfl⟩
  have iG11 : pj_Inv G11 := by rw [hG11]; exact pj_Inv_wc iG10 rfl rfl (fun q hq => by cases hq; exact ⟨rfl, by decide⟩) rfl
  have kG11 : pj_kpt kc_68_93_21x G0 G11 := by rw [hG11]; exact pj_kpt_c kG10 rfl
  rw [← hG11]
  rw [pj_nm_e]
  refine pj_X_of (fun r h => pj_R_to (G11, 93, [(0, .ref 93), (1, .ref 21)], [.ref 21, .ref 93], 0, 0) 93 3 (fun _ => rfl) h) ?_
  refine pj_X_of (fun r h => pj_T_gi iG11 rfl rfl h) ?_
  show pj_X _ _ G11 96 [(0, .ref 93), (1, .ref 21)] [.int (pj_fi G11 21 7), .ref 93] _
  obtain ⟨y12, hy12⟩ : ∃ z : Int32, z = pj_fi G11 21 7 := ⟨_, rfl⟩
  rw [← hy12]
  rw [pj_nm_e]
  have ey12 : (pj_fi G11 21 7).toInt = y12.toInt := by rw [hy12]
  refine pj_X_of (fun r h => pj_T_pf iG11 rfl rfl rfl h) ?_
  show pj_X _ _ (pj_wv G11 93 7 (.int y12)) 99 [(0, .ref 93), (1, .ref 21)] [] _
  obtain ⟨G13, hG13⟩ : ∃ H, H = pj_wv G11 93 7 (.int y12) := ⟨_, rfl⟩
  have iG13 : pj_Inv G13 := by rw [hG13]; exact pj_Inv_wi iG11 (ci := 8) rfl (fun q hq => by cases hq)
  have kG13 : pj_kpt kc_68_93_21x G0 G13 := by rw [hG13]; exact pj_kpt_v kG11 rfl
  rw [← hG13]
  rw [pj_nm_e]
  refine pj_X_of (fun r h => pj_R_to (G13, 101, [(0, .ref 93), (1, .ref 21)], [.ref 21, .ref 93], 0, 0) 101 3 (fun _ => rfl) h) ?_
  refine pj_X_of (fun r h => pj_T_gi iG13 rfl rfl h) ?_
  show pj_X _ _ G13 104 [(0, .ref 93), (1, .ref 21)] [.int (pj_fi G13 21 8), .ref 93] _
  obtain ⟨y14, hy14⟩ : ∃ z : Int32, z = pj_fi G13 21 8 := ⟨_, rfl⟩
  rw [← hy14]
  rw [pj_nm_e]
  have ey14 : (pj_fi G13 21 8).toInt = y14.toInt := by rw [hy14]
  refine pj_X_of (fun r h => pj_T_pf iG13 rfl rfl rfl h) ?_
  show pj_X _ _ (pj_wv G13 93 8 (.int y14)) 107 [(0, .ref 93), (1, .ref 21)] [] _
  obtain ⟨G15, hG15⟩ : ∃ H, H = pj_wv G13 93 8 (.int y14) := ⟨_, rfl⟩
  have iG15 : pj_Inv G15 := by rw [hG15]; exact pj_Inv_wi iG13 (ci := 8) rfl (fun q hq => by cases hq)
  have kG15 : pj_kpt kc_68_93_21x G0 G15 := by rw [hG15]; exact pj_kpt_v kG13 rfl
  rw [← hG15]
  rw [pj_nm_e]
  have q16 : (pj_fi G15 93 0).toInt = y3.toInt := by rw [show pj_fi G15 93 0 = y3 from by rw [hG15, pj_fi_wv_ne _ _ _ _ _ _ (by decide)]; exact (by rw [hG13, pj_fi_wv_ne _ _ _ _ _ _ (by decide)]; exact (by rw [hG11, pj_fi_wc]; exact (by rw [hG10, pj_fi_wv_ne _ _ _ _ _ _ (by decide)]; exact (by rw [hG9, pj_fi_wc]; exact (by rw [hG8, pj_fi_wc]; exact (by rw [hG7, pj_fi_wc]; exact (by rw [hG6, pj_fi_wc]; exact (by rw [hG5]; exact pj_fi_wi hI.1 (ci := 8) rfl _))))))))]
  have q17 : (pj_fi G15 93 5).toInt = y4.toInt := by rw [show pj_fi G15 93 5 = y4 from by rw [hG15, pj_fi_wv_ne _ _ _ _ _ _ (by decide)]; exact (by rw [hG13, pj_fi_wv_ne _ _ _ _ _ _ (by decide)]; exact (by rw [hG11, pj_fi_wc]; exact (by rw [hG10]; exact pj_fi_wi iG9.1 (ci := 8) rfl _)))]
  have q18 : (pj_fi G15 21 0).toInt = y3.toInt := by rw [show pj_fi G15 21 0 = y3 from by rw [hG15, pj_fi_wv_ne _ _ _ _ _ _ (by decide)]; exact (by rw [hG13, pj_fi_wv_ne _ _ _ _ _ _ (by decide)]; exact (by rw [hG11, pj_fi_wc]; exact (by rw [hG10, pj_fi_wv_ne _ _ _ _ _ _ (by decide)]; exact (by rw [hG9, pj_fi_wc]; exact (by rw [hG8, pj_fi_wc]; exact (by rw [hG7, pj_fi_wc]; exact (by rw [hG6, pj_fi_wc]; exact (by rw [hG5, pj_fi_wv_ne _ _ _ _ _ _ (by decide)]; exact hy3.symm))))))))]
  have q19 : (pj_fi G15 21 5).toInt = y4.toInt := by rw [show pj_fi G15 21 5 = y4 from by rw [hG15, pj_fi_wv_ne _ _ _ _ _ _ (by decide)]; exact (by rw [hG13, pj_fi_wv_ne _ _ _ _ _ _ (by decide)]; exact (by rw [hG11, pj_fi_wc]; exact (by rw [hG10, pj_fi_wv_ne _ _ _ _ _ _ (by decide)]; exact (by rw [hG9, pj_fi_wc]; exact (by rw [hG8, pj_fi_wc]; exact (by rw [hG7, pj_fi_wc]; exact (by rw [hG6, pj_fi_wc]; exact (by rw [hG5, pj_fi_wv_ne _ _ _ _ _ _ (by decide)]; exact hy4.symm))))))))]
  exact pj_X_rt rfl rfl ⟨rfl, iG15, kG15, (fun H hH => by subst hH; exact (by omega)), rfl⟩
theorem fr_68_93_21x (G0 : pj_G) (hI : pj_Inv G0) : pj_Inv (F_68_93_21x G0) ∧ pj_kpt kc_68_93_21x G0 (F_68_93_21x G0) ∧ ((pj_fi (F_68_93_21x G0) 93 0).toInt = (pj_fi G0 21 0).toInt ∧ (pj_fi (F_68_93_21x G0) 93 5).toInt = (pj_fi G0 21 5).toInt) := by
  obtain ⟨v, G', -, -, i, j, x, e⟩ := ct_68_93_21x G0 hI 
  rw [← e]
  exact ⟨i, j, x _ rfl⟩
def kc_68_99_21x : pj_KT := ([(99, 0), (99, 5), (99, 7), (99, 8)], [99, 100, 101, 102, 103, 104], [100, 101, 102, 103, 104])
noncomputable def F_68_99_21x (G0 : pj_G) : pj_G := pj_nm (pj_fi G0 21 0) (fun y3 => pj_nm (pj_wv G0 99 0 (.int y3)) (fun G5 => pj_nm (pj_wc G5 22 100 6) (fun G6 => pj_nm (pj_wc G6 23 101 6) (fun G7 => pj_nm (pj_wc G7 24 102 6) (fun G8 => pj_nm (pj_wc G8 25 103 6) (fun G9 => pj_nm (pj_fi G0 21 5) (fun y4 => pj_nm (pj_wv G9 99 5 (.int y4)) (fun G10 => pj_nm (pj_wc G10 26 104 6) (fun G11 => pj_nm (pj_fi G11 21 7) (fun y12 => pj_nm (pj_wv G11 99 7 (.int y12)) (fun G13 => pj_nm (pj_fi G13 21 8) (fun y14 => pj_nm (pj_wv G13 99 8 (.int y14)) (fun G15 => G15)))))))))))))
theorem F_68_99_21x_e (G0 : pj_G) : F_68_99_21x G0 = pj_nm (pj_fi G0 21 0) (fun y3 => pj_nm (pj_wv G0 99 0 (.int y3)) (fun G5 => pj_nm (pj_wc G5 22 100 6) (fun G6 => pj_nm (pj_wc G6 23 101 6) (fun G7 => pj_nm (pj_wc G7 24 102 6) (fun G8 => pj_nm (pj_wc G8 25 103 6) (fun G9 => pj_nm (pj_fi G0 21 5) (fun y4 => pj_nm (pj_wv G9 99 5 (.int y4)) (fun G10 => pj_nm (pj_wc G10 26 104 6) (fun G11 => pj_nm (pj_fi G11 21 7) (fun y12 => pj_nm (pj_wv G11 99 7 (.int y12)) (fun G13 => pj_nm (pj_fi G13 21 8) (fun y14 => pj_nm (pj_wv G13 99 8 (.int y14)) (fun G15 => G15))))))))))))) := rfl
theorem ct_68_99_21x (G0 : pj_G) (hI : pj_Inv G0) : pj_Y 1 68 [.ref 99, .ref 21] G0 (fun v' G' => v' = none ∧ pj_Inv G' ∧ pj_kpt kc_68_99_21x G0 G' ∧ (∀ H, G0 = H → ((pj_fi G' 99 0).toInt = (pj_fi H 21 0).toInt ∧ (pj_fi G' 99 5).toInt = (pj_fi H 21 5).toInt)) ∧ (G' = F_68_99_21x G0)) := by
  have c0_ : ((Int8.ofInt 6).toInt32).toInt = 6 := by decide
  have c1_ : (Int32.ofInt 0).toInt = 0 := by decide
  refine pj_Y_X (M := pj_m68) rfl rfl (Nat.le_of_ble_eq_true rfl) ?_
  have hK : pj_kpt kc_68_99_21x G0 G0 := pj_kpt_r _ _
  show pj_X _ _ G0 0 [(0, .ref 99), (1, .ref 21)] [] _
  rw [F_68_99_21x_e]
  obtain ⟨y1, hy1⟩ : ∃ z : Int32, z = pj_fi G0 99 0 := ⟨_, rfl⟩
  have ey1 : (pj_fi G0 99 0).toInt = y1.toInt := by rw [hy1]
  have ry1 : (0 : Int) ≤ y1.toInt ∧ y1.toInt ≤ 6 := by rw [hy1]; exact hI.2.1 99 0 (0, 6) rfl
  obtain ⟨y2, hy2⟩ : ∃ z : Int32, z = pj_fi G0 99 5 := ⟨_, rfl⟩
  have ey2 : (pj_fi G0 99 5).toInt = y2.toInt := by rw [hy2]
  have ry2 : (0 : Int) ≤ y2.toInt ∧ y2.toInt ≤ 6 := by rw [hy2]; exact hI.2.1 99 5 (0, 6) rfl
  obtain ⟨y3, hy3⟩ : ∃ z : Int32, z = pj_fi G0 21 0 := ⟨_, rfl⟩
  have ey3 : (pj_fi G0 21 0).toInt = y3.toInt := by rw [hy3]
  have ry3 : (0 : Int) ≤ y3.toInt ∧ y3.toInt ≤ 6 := by rw [hy3]; exact hI.2.1 21 0 (0, 6) rfl
  obtain ⟨y4, hy4⟩ : ∃ z : Int32, z = pj_fi G0 21 5 := ⟨_, rfl⟩
  have ey4 : (pj_fi G0 21 5).toInt = y4.toInt := by rw [hy4]
  have ry4 : (0 : Int) ≤ y4.toInt ∧ y4.toInt ≤ 6 := by rw [hy4]; exact hI.2.1 21 5 (0, 6) rfl
  refine pj_X_of (fun r h => pj_R_to (G0, 2, [(0, .ref 99), (1, .ref 21)], [.ref 21, .ref 99], 0, 0) 2 3 (fun _ => rfl) h) ?_
  refine pj_X_of (fun r h => pj_T_gi hI rfl rfl h) ?_
  show pj_X _ _ G0 5 [(0, .ref 99), (1, .ref 21)] [.int (pj_fi G0 21 0), .ref 99] _
  rw [← hy3, pj_nm_e]
  refine pj_X_of (fun r h => pj_T_pf hI rfl rfl rfl h) ?_
  show pj_X _ _ (pj_wv G0 99 0 (.int y3)) 8 [(0, .ref 99), (1, .ref 21)] [] _
  obtain ⟨G5, hG5⟩ : ∃ H, H = pj_wv G0 99 0 (.int y3) := ⟨_, rfl⟩
  have iG5 : pj_Inv G5 := by rw [hG5]; exact pj_Inv_wi hI (ci := 8) rfl (fun q hq => by cases hq; exact ⟨by show (0 : Int) ≤ _; omega, by show _ ≤ (6 : Int); omega⟩)
  have kG5 : pj_kpt kc_68_99_21x G0 G5 := by rw [hG5]; exact pj_kpt_v hK rfl
  rw [← hG5]
  rw [pj_nm_e]
  refine pj_X_of (fun r h => pj_R_to (G5, 9, [(0, .ref 99), (1, .ref 21)], [.ref 21], 0, 0) 9 2 (fun _ => rfl) h) ?_
  refine pj_X_of (fun r h => pj_T_gr iG5 rfl rfl rfl h) ?_
  refine pj_X_of (fun r h => pj_R_to (G5, 14, [(0, .ref 99), (1, .ref 21)], [.ref 99, .int (Int32.ofInt 0), .ref 22], 0, 0) 14 3 (fun _ => rfl) h) ?_
  refine pj_X_of (fun r h => pj_T_gr iG5 rfl rfl rfl h) ?_
  refine pj_X_of (fun r h => pj_R_to (G5, 20, [(0, .ref 99), (1, .ref 21)], [.int ((Int8.ofInt 6).toInt32), .int (Int32.ofInt 0), .ref 100, .int (Int32.ofInt 0), .ref 22], 0, 0) 20 3 (fun _ => rfl) h) ?_
  refine pj_X_of (fun r h => pj_T_cp iG5 rfl rfl rfl rfl (by omega) (by omega) (by show _ = ((6 : Nat) : Int); omega) (Nat.le_of_ble_eq_true rfl) h) ?_
  show pj_X _ _ (pj_wc G5 22 100 6) 23 [(0, .ref 99), (1, .ref 21)] [] _
  obtain ⟨G6, hG6⟩ : ∃ H, H = pj_wc G5 22 100 6 := ⟨_, rfl⟩
  have iG6 : pj_Inv G6 := by rw [hG6]; exact pj_Inv_wc iG5 rfl rfl (fun q hq => by cases hq; exact ⟨rfl, by decide⟩) rfl
  have kG6 : pj_kpt kc_68_99_21x G0 G6 := by rw [hG6]; exact pj_kpt_c kG5 rfl
  rw [← hG6]
  rw [pj_nm_e]
  refine pj_X_of (fun r h => pj_R_to (G6, 24, [(0, .ref 99), (1, .ref 21)], [.ref 21], 0, 0) 24 2 (fun _ => rfl) h) ?_
  refine pj_X_of (fun r h => pj_T_gr iG6 rfl rfl rfl h) ?_
  refine pj_X_of (fun r h => pj_R_to (G6, 29, [(0, .ref 99), (1, .ref 21)], [.ref 99, .int (Int32.ofInt 0), .ref 23], 0, 0) 29 3 (fun _ => rfl) h) ?_
  refine pj_X_of (fun r h => pj_T_gr iG6 rfl rfl rfl h) ?_
  refine pj_X_of (fun r h => pj_R_to (G6, 35, [(0, .ref 99), (1, .ref 21)], [.int ((Int8.ofInt 6).toInt32), .int (Int32.ofInt 0), .ref 101, .int (Int32.ofInt 0), .ref 23], 0, 0) 35 3 (fun _ => rfl) h) ?_
  refine pj_X_of (fun r h => pj_T_cp iG6 rfl rfl rfl rfl (by omega) (by omega) (by show _ = ((6 : Nat) : Int); omega) (Nat.le_of_ble_eq_true rfl) h) ?_
  show pj_X _ _ (pj_wc G6 23 101 6) 38 [(0, .ref 99), (1, .ref 21)] [] _
  obtain ⟨G7, hG7⟩ : ∃ H, H = pj_wc G6 23 101 6 := ⟨_, rfl⟩
  have iG7 : pj_Inv G7 := by rw [hG7]; exact pj_Inv_wc iG6 rfl rfl (fun q hq => by cases hq) rfl
  have kG7 : pj_kpt kc_68_99_21x G0 G7 := by rw [hG7]; exact pj_kpt_c kG6 rfl
  rw [← hG7]
  rw [pj_nm_e]
  refine pj_X_of (fun r h => pj_R_to (G7, 39, [(0, .ref 99), (1, .ref 21)], [.ref 21], 0, 0) 39 2 (fun _ => rfl) h) ?_
  refine pj_X_of (fun r h => pj_T_gr iG7 rfl rfl rfl h) ?_
  refine pj_X_of (fun r h => pj_R_to (G7, 44, [(0, .ref 99), (1, .ref 21)], [.ref 99, .int (Int32.ofInt 0), .ref 24], 0, 0) 44 3 (fun _ => rfl) h) ?_
  refine pj_X_of (fun r h => pj_T_gr iG7 rfl rfl rfl h) ?_
  refine pj_X_of (fun r h => pj_R_to (G7, 50, [(0, .ref 99), (1, .ref 21)], [.int ((Int8.ofInt 6).toInt32), .int (Int32.ofInt 0), .ref 102, .int (Int32.ofInt 0), .ref 24], 0, 0) 50 3 (fun _ => rfl) h) ?_
  refine pj_X_of (fun r h => pj_T_cp iG7 rfl rfl rfl rfl (by omega) (by omega) (by show _ = ((6 : Nat) : Int); omega) (Nat.le_of_ble_eq_true rfl) h) ?_
  show pj_X _ _ (pj_wc G7 24 102 6) 53 [(0, .ref 99), (1, .ref 21)] [] _
  obtain ⟨G8, hG8⟩ : ∃ H, H = pj_wc G7 24 102 6 := ⟨_, rfl⟩
  have iG8 : pj_Inv G8 := by rw [hG8]; exact pj_Inv_wc iG7 rfl rfl (fun q hq => by cases hq) rfl
  have kG8 : pj_kpt kc_68_99_21x G0 G8 := by rw [hG8]; exact pj_kpt_c kG7 rfl
  rw [← hG8]
  rw [pj_nm_e]
  refine pj_X_of (fun r h => pj_R_to (G8, 54, [(0, .ref 99), (1, .ref 21)], [.ref 21], 0, 0) 54 2 (fun _ => rfl) h) ?_
  refine pj_X_of (fun r h => pj_T_gr iG8 rfl rfl rfl h) ?_
  refine pj_X_of (fun r h => pj_R_to (G8, 59, [(0, .ref 99), (1, .ref 21)], [.ref 99, .int (Int32.ofInt 0), .ref 25], 0, 0) 59 3 (fun _ => rfl) h) ?_
  refine pj_X_of (fun r h => pj_T_gr iG8 rfl rfl rfl h) ?_
  refine pj_X_of (fun r h => pj_R_to (G8, 65, [(0, .ref 99), (1, .ref 21)], [.int ((Int8.ofInt 6).toInt32), .int (Int32.ofInt 0), .ref 103, .int (Int32.ofInt 0), .ref 25], 0, 0) 65 3 (fun _ => rfl) h) ?_
  refine pj_X_of (fun r h => pj_T_cp iG8 rfl rfl rfl rfl (by omega) (by omega) (by show _ = ((6 : Nat) : Int); omega) (Nat.le_of_ble_eq_true rfl) h) ?_
  show pj_X _ _ (pj_wc G8 25 103 6) 68 [(0, .ref 99), (1, .ref 21)] [] _
  obtain ⟨G9, hG9⟩ : ∃ H, H = pj_wc G8 25 103 6 := ⟨_, rfl⟩
  have iG9 : pj_Inv G9 := by rw [hG9]; exact pj_Inv_wc iG8 rfl rfl (fun q hq => by cases hq) rfl
  have kG9 : pj_kpt kc_68_99_21x G0 G9 := by rw [hG9]; exact pj_kpt_c kG8 rfl
  rw [← hG9]
  rw [pj_nm_e]
  refine pj_X_of (fun r h => pj_R_to (G9, 70, [(0, .ref 99), (1, .ref 21)], [.ref 21, .ref 99], 0, 0) 70 3 (fun _ => rfl) h) ?_
  refine pj_X_of (fun r h => pj_T_gi iG9 rfl rfl h) ?_
  show pj_X _ _ G9 73 [(0, .ref 99), (1, .ref 21)] [.int (pj_fi G9 21 5), .ref 99] _
  rw [← hy4, pj_nm_e]
  rw [show pj_fi G9 21 5 = y4 from by rw [hG9, pj_fi_wc]; exact (by rw [hG8, pj_fi_wc]; exact (by rw [hG7, pj_fi_wc]; exact (by rw [hG6, pj_fi_wc]; exact (by rw [hG5, pj_fi_wv_ne _ _ _ _ _ _ (by decide)]; exact hy4.symm))))]
  refine pj_X_of (fun r h => pj_T_pf iG9 rfl rfl rfl h) ?_
  show pj_X _ _ (pj_wv G9 99 5 (.int y4)) 76 [(0, .ref 99), (1, .ref 21)] [] _
  obtain ⟨G10, hG10⟩ : ∃ H, H = pj_wv G9 99 5 (.int y4) := ⟨_, rfl⟩
  have iG10 : pj_Inv G10 := by rw [hG10]; exact pj_Inv_wi iG9 (ci := 8) rfl (fun q hq => by cases hq; exact ⟨by show (0 : Int) ≤ _; omega, by show _ ≤ (6 : Int); omega⟩)
  have kG10 : pj_kpt kc_68_99_21x G0 G10 := by rw [hG10]; exact pj_kpt_v kG9 rfl
  rw [← hG10]
  rw [pj_nm_e]
  refine pj_X_of (fun r h => pj_R_to (G10, 77, [(0, .ref 99), (1, .ref 21)], [.ref 21], 0, 0) 77 2 (fun _ => rfl) h) ?_
  refine pj_X_of (fun r h => pj_T_gr iG10 rfl rfl rfl h) ?_
  refine pj_X_of (fun r h => pj_R_to (G10, 82, [(0, .ref 99), (1, .ref 21)], [.ref 99, .int (Int32.ofInt 0), .ref 26], 0, 0) 82 3 (fun _ => rfl) h) ?_
  refine pj_X_of (fun r h => pj_T_gr iG10 rfl rfl rfl h) ?_
  refine pj_X_of (fun r h => pj_R_to (G10, 88, [(0, .ref 99), (1, .ref 21)], [.int ((Int8.ofInt 6).toInt32), .int (Int32.ofInt 0), .ref 104, .int (Int32.ofInt 0), .ref 26], 0, 0) 88 3 (fun _ => rfl) h) ?_
  refine pj_X_of (fun r h => pj_T_cp iG10 rfl rfl rfl rfl (by omega) (by omega) (by show _ = ((6 : Nat) : Int); omega) (Nat.le_of_ble_eq_true rfl) h) ?_
  show pj_X _ _ (pj_wc G10 26 104 6) 91 [(0, .ref 99), (1, .ref 21)] [] _
  obtain ⟨G11, hG11⟩ : ∃ H, H = pj_wc G10 26 104 6 := ⟨_, rfl⟩
  have iG11 : pj_Inv G11 := by rw [hG11]; exact pj_Inv_wc iG10 rfl rfl (fun q hq => by cases hq; exact ⟨rfl, by decide⟩) rfl
  have kG11 : pj_kpt kc_68_99_21x G0 G11 := by rw [hG11]; exact pj_kpt_c kG10 rfl
  rw [← hG11]
  rw [pj_nm_e]
  refine pj_X_of (fun r h => pj_R_to (G11, 93, [(0, .ref 99), (1, .ref 21)], [.ref 21, .ref 99], 0, 0) 93 3 (fun _ => rfl) h) ?_
  refine pj_X_of (fun r h => pj_T_gi iG11 rfl rfl h) ?_
  show pj_X _ _ G11 96 [(0, .ref 99), (1, .ref 21)] [.int (pj_fi G11 21 7), .ref 99] _
  obtain ⟨y12, hy12⟩ : ∃ z : Int32, z = pj_fi G11 21 7 := ⟨_, rfl⟩
  rw [← hy12]
  rw [pj_nm_e]
  have ey12 : (pj_fi G11 21 7).toInt = y12.toInt := by rw [hy12]
  refine pj_X_of (fun r h => pj_T_pf iG11 rfl rfl rfl h) ?_
  show pj_X _ _ (pj_wv G11 99 7 (.int y12)) 99 [(0, .ref 99), (1, .ref 21)] [] _
  obtain ⟨G13, hG13⟩ : ∃ H, H = pj_wv G11 99 7 (.int y12) := ⟨_, rfl⟩
  have iG13 : pj_Inv G13 := by rw [hG13]; exact pj_Inv_wi iG11 (ci := 8) rfl (fun q hq => by cases hq)
  have kG13 : pj_kpt kc_68_99_21x G0 G13 := by rw [hG13]; exact pj_kpt_v kG11 rfl
  rw [← hG13]
  rw [pj_nm_e]
  refine pj_X_of (fun r h => pj_R_to (G13, 101, [(0, .ref 99), (1, .ref 21)], [.ref 21, .ref 99], 0, 0) 101 3 (fun _ => rfl) h) ?_
  refine pj_X_of (fun r h => pj_T_gi iG13 rfl rfl h) ?_
  show pj_X _ _ G13 104 [(0, .ref 99), (1, .ref 21)] [.int (pj_fi G13 21 8), .ref 99] _
  obtain ⟨y14, hy14⟩ : ∃ z : Int32, z = pj_fi G13 21 8 := ⟨_, rfl⟩
  rw [← hy14]
  rw [pj_nm_e]
  have ey14 : (pj_fi G13 21 8).toInt = y14.toInt := by rw [hy14]
  refine pj_X_of (fun r h => pj_T_pf iG13 rfl rfl rfl h) ?_
  show pj_X _ _ (pj_wv G13 99 8 (.int y14)) 107 [(0, .ref 99), (1, .ref 21)] [] _
  obtain ⟨G15, hG15⟩ : ∃ H, H = pj_wv G13 99 8 (.int y14) := ⟨_, rfl⟩
  have iG15 : pj_Inv G15 := by rw [hG15]; exact pj_Inv_wi iG13 (ci := 8) rfl (fun q hq => by cases hq)
  have kG15 : pj_kpt kc_68_99_21x G0 G15 := by rw [hG15]; exact pj_kpt_v kG13 rfl
  rw [← hG15]
  rw [pj_nm_e]
  have q16 : (pj_fi G15 99 0).toInt = y3.toInt := by rw [show pj_fi G15 99 0 = y3 from by rw [hG15, pj_fi_wv_ne _ _ _ _ _ _ (by decide)]; exact (by rw [hG13, pj_fi_wv_ne _ _ _ _ _ _ (by decide)]; exact (by rw [hG11, pj_fi_wc]; exact (by rw [hG10, pj_fi_wv_ne _ _ _ _ _ _ (by decide)]; exact (by rw [hG9, pj_fi_wc]; exact (by rw [hG8, pj_fi_wc]; exact (by rw [hG7, pj_fi_wc]; exact (by rw [hG6, pj_fi_wc]; exact (by rw [hG5]; exact pj_fi_wi hI.1 (ci := 8) rfl _))))))))]
  have q17 : (pj_fi G15 99 5).toInt = y4.toInt := by rw [show pj_fi G15 99 5 = y4 from by rw [hG15, pj_fi_wv_ne _ _ _ _ _ _ (by decide)]; exact (by rw [hG13, pj_fi_wv_ne _ _ _ _ _ _ (by decide)]; exact (by rw [hG11, pj_fi_wc]; exact (by rw [hG10]; exact pj_fi_wi iG9.1 (ci := 8) rfl _)))]
  have q18 : (pj_fi G15 21 0).toInt = y3.toInt := by rw [show pj_fi G15 21 0 = y3 from by rw [hG15, pj_fi_wv_ne _ _ _ _ _ _ (by decide)]; exact (by rw [hG13, pj_fi_wv_ne _ _ _ _ _ _ (by decide)]; exact (by rw [hG11, pj_fi_wc]; exact (by rw [hG10, pj_fi_wv_ne _ _ _ _ _ _ (by decide)]; exact (by rw [hG9, pj_fi_wc]; exact (by rw [hG8, pj_fi_wc]; exact (by rw [hG7, pj_fi_wc]; exact (by rw [hG6, pj_fi_wc]; exact (by rw [hG5, pj_fi_wv_ne _ _ _ _ _ _ (by decide)]; exact hy3.symm))))))))]
  have q19 : (pj_fi G15 21 5).toInt = y4.toInt := by rw [show pj_fi G15 21 5 = y4 from by rw [hG15, pj_fi_wv_ne _ _ _ _ _ _ (by decide)]; exact (by rw [hG13, pj_fi_wv_ne _ _ _ _ _ _ (by decide)]; exact (by rw [hG11, pj_fi_wc]; exact (by rw [hG10, pj_fi_wv_ne _ _ _ _ _ _ (by decide)]; exact (by rw [hG9, pj_fi_wc]; exact (by rw [hG8, pj_fi_wc]; exact (by rw [hG7, pj_fi_wc]; exact (by rw [hG6, pj_fi_wc]; exact (by rw [hG5, pj_fi_wv_ne _ _ _ _ _ _ (by decide)]; exact hy4.symm))))))))]
  exact pj_X_rt rfl rfl ⟨rfl, iG15, kG15, (fun H hH => by subst hH; exact (by omega)), rfl⟩
theorem fr_68_99_21x (G0 : pj_G) (hI : pj_Inv G0) : pj_Inv (F_68_99_21x G0) ∧ pj_kpt kc_68_99_21x G0 (F_68_99_21x G0) ∧ ((pj_fi (F_68_99_21x G0) 99 0).toInt = (pj_fi G0 21 0).toInt ∧ (pj_fi (F_68_99_21x G0) 99 5).toInt = (pj_fi G0 21 5).toInt) := by
  obtain ⟨v, G', -, -, i, j, x, e⟩ := ct_68_99_21x G0 hI 
  rw [← e]
  exact ⟨i, j, x _ rfl⟩
def kc_68_105_21x : pj_KT := ([(105, 0), (105, 5), (105, 7), (105, 8)], [105, 106, 107, 108, 109, 110], [106, 107, 108, 109, 110])
noncomputable def F_68_105_21x (G0 : pj_G) : pj_G := pj_nm (pj_fi G0 21 0) (fun y3 => pj_nm (pj_wv G0 105 0 (.int y3)) (fun G5 => pj_nm (pj_wc G5 22 106 6) (fun G6 => pj_nm (pj_wc G6 23 107 6) (fun G7 => pj_nm (pj_wc G7 24 108 6) (fun G8 => pj_nm (pj_wc G8 25 109 6) (fun G9 => pj_nm (pj_fi G0 21 5) (fun y4 => pj_nm (pj_wv G9 105 5 (.int y4)) (fun G10 => pj_nm (pj_wc G10 26 110 6) (fun G11 => pj_nm (pj_fi G11 21 7) (fun y12 => pj_nm (pj_wv G11 105 7 (.int y12)) (fun G13 => pj_nm (pj_fi G13 21 8) (fun y14 => pj_nm (pj_wv G13 105 8 (.int y14)) (fun G15 => G15)))))))))))))
theorem F_68_105_21x_e (G0 : pj_G) : F_68_105_21x G0 = pj_nm (pj_fi G0 21 0) (fun y3 => pj_nm (pj_wv G0 105 0 (.int y3)) (fun G5 => pj_nm (pj_wc G5 22 106 6) (fun G6 => pj_nm (pj_wc G6 23 107 6) (fun G7 => pj_nm (pj_wc G7 24 108 6) (fun G8 => pj_nm (pj_wc G8 25 109 6) (fun G9 => pj_nm (pj_fi G0 21 5) (fun y4 => pj_nm (pj_wv G9 105 5 (.int y4)) (fun G10 => pj_nm (pj_wc G10 26 110 6) (fun G11 => pj_nm (pj_fi G11 21 7) (fun y12 => pj_nm (pj_wv G11 105 7 (.int y12)) (fun G13 => pj_nm (pj_fi G13 21 8) (fun y14 => pj_nm (pj_wv G13 105 8 (.int y14)) (fun G15 => G15))))))))))))) := rfl
theorem ct_68_105_21x (G0 : pj_G) (hI : pj_Inv G0) : pj_Y 1 68 [.ref 105, .ref 21] G0 (fun v' G' => v' = none ∧ pj_Inv G' ∧ pj_kpt kc_68_105_21x G0 G' ∧ (∀ H, G0 = H → ((pj_fi G' 105 0).toInt = (pj_fi H 21 0).toInt ∧ (pj_fi G' 105 5).toInt = (pj_fi H 21 5).toInt)) ∧ (G' = F_68_105_21x G0)) := by
  have c0_ : ((Int8.ofInt 6).toInt32).toInt = 6 := by decide
  have c1_ : (Int32.ofInt 0).toInt = 0 := by decide
  refine pj_Y_X (M := pj_m68) rfl rfl (Nat.le_of_ble_eq_true rfl) ?_
  have hK : pj_kpt kc_68_105_21x G0 G0 := pj_kpt_r _ _
  show pj_X _ _ G0 0 [(0, .ref 105), (1, .ref 21)] [] _
  rw [F_68_105_21x_e]
  obtain ⟨y1, hy1⟩ : ∃ z : Int32, z = pj_fi G0 105 0 := ⟨_, rfl⟩
  have ey1 : (pj_fi G0 105 0).toInt = y1.toInt := by rw [hy1]
  have ry1 : (0 : Int) ≤ y1.toInt ∧ y1.toInt ≤ 6 := by rw [hy1]; exact hI.2.1 105 0 (0, 6) rfl
  obtain ⟨y2, hy2⟩ : ∃ z : Int32, z = pj_fi G0 105 5 := ⟨_, rfl⟩
  have ey2 : (pj_fi G0 105 5).toInt = y2.toInt := by rw [hy2]
  have ry2 : (0 : Int) ≤ y2.toInt ∧ y2.toInt ≤ 6 := by rw [hy2]; exact hI.2.1 105 5 (0, 6) rfl
  obtain ⟨y3, hy3⟩ : ∃ z : Int32, z = pj_fi G0 21 0 := ⟨_, rfl⟩
  have ey3 : (pj_fi G0 21 0).toInt = y3.toInt := by rw [hy3]
  have ry3 : (0 : Int) ≤ y3.toInt ∧ y3.toInt ≤ 6 := by rw [hy3]; exact hI.2.1 21 0 (0, 6) rfl
  obtain ⟨y4, hy4⟩ : ∃ z : Int32, z = pj_fi G0 21 5 := ⟨_, rfl⟩
  have ey4 : (pj_fi G0 21 5).toInt = y4.toInt := by rw [hy4]
  have ry4 : (0 : Int) ≤ y4.toInt ∧ y4.toInt ≤ 6 := by rw [hy4]; exact hI.2.1 21 5 (0, 6) rfl
  refine pj_X_of (fun r h => pj_R_to (G0, 2, [(0, .ref 105), (1, .ref 21)], [.ref 21, .ref 105], 0, 0) 2 3 (fun _ => rfl) h) ?_
  refine pj_X_of (fun r h => pj_T_gi hI rfl rfl h) ?_
  show pj_X _ _ G0 5 [(0, .ref 105), (1, .ref 21)] [.int (pj_fi G0 21 0), .ref 105] _
  rw [← hy3, pj_nm_e]
  refine pj_X_of (fun r h => pj_T_pf hI rfl rfl rfl h) ?_
  show pj_X _ _ (pj_wv G0 105 0 (.int y3)) 8 [(0, .ref 105), (1, .ref 21)] [] _
  obtain ⟨G5, hG5⟩ : ∃ H, H = pj_wv G0 105 0 (.int y3) := ⟨_, rfl⟩
  have iG5 : pj_Inv G5 := by rw [hG5]; exact pj_Inv_wi hI (ci := 8) rfl (fun q hq => by cases hq; exact ⟨by show (0 : Int) ≤ _; omega, by show _ ≤ (6 : Int); omega⟩)
  have kG5 : pj_kpt kc_68_105_21x G0 G5 := by rw [hG5]; exact pj_kpt_v hK rfl
  rw [← hG5]
  rw [pj_nm_e]
  refine pj_X_of (fun r h => pj_R_to (G5, 9, [(0, .ref 105), (1, .ref 21)], [.ref 21], 0, 0) 9 2 (fun _ => rfl) h) ?_
  refine pj_X_of (fun r h => pj_T_gr iG5 rfl rfl rfl h) ?_
  refine pj_X_of (fun r h => pj_R_to (G5, 14, [(0, .ref 105), (1, .ref 21)], [.ref 105, .int (Int32.ofInt 0), .ref 22], 0, 0) 14 3 (fun _ => rfl) h) ?_
  refine pj_X_of (fun r h => pj_T_gr iG5 rfl rfl rfl h) ?_
  refine pj_X_of (fun r h => pj_R_to (G5, 20, [(0, .ref 105), (1, .ref 21)], [.int ((Int8.ofInt 6).toInt32), .int (Int32.ofInt 0), .ref 106, .int (Int32.ofInt 0), .ref 22], 0, 0) 20 3 (fun _ => rfl) h) ?_
  refine pj_X_of (fun r h => pj_T_cp iG5 rfl rfl rfl rfl (by omega) (by omega) (by show _ = ((6 : Nat) : Int); omega) (Nat.le_of_ble_eq_true rfl) h) ?_
  show pj_X _ _ (pj_wc G5 22 106 6) 23 [(0, .ref 105), (1, .ref 21)] [] _
  obtain ⟨G6, hG6⟩ : ∃ H, H = pj_wc G5 22 106 6 := ⟨_, rfl⟩
  have iG6 : pj_Inv G6 := by rw [hG6]; exact pj_Inv_wc iG5 rfl rfl (fun q hq => by cases hq; exact ⟨rfl, by decide⟩) rfl
  have kG6 : pj_kpt kc_68_105_21x G0 G6 := by rw [hG6]; exact pj_kpt_c kG5 rfl
  rw [← hG6]
  rw [pj_nm_e]
  refine pj_X_of (fun r h => pj_R_to (G6, 24, [(0, .ref 105), (1, .ref 21)], [.ref 21], 0, 0) 24 2 (fun _ => rfl) h) ?_
  refine pj_X_of (fun r h => pj_T_gr iG6 rfl rfl rfl h) ?_
  refine pj_X_of (fun r h => pj_R_to (G6, 29, [(0, .ref 105), (1, .ref 21)], [.ref 105, .int (Int32.ofInt 0), .ref 23], 0, 0) 29 3 (fun _ => rfl) h) ?_
  refine pj_X_of (fun r h => pj_T_gr iG6 rfl rfl rfl h) ?_
  refine pj_X_of (fun r h => pj_R_to (G6, 35, [(0, .ref 105), (1, .ref 21)], [.int ((Int8.ofInt 6).toInt32), .int (Int32.ofInt 0), .ref 107, .int (Int32.ofInt 0), .ref 23], 0, 0) 35 3 (fun _ => rfl) h) ?_
  refine pj_X_of (fun r h => pj_T_cp iG6 rfl rfl rfl rfl (by omega) (by omega) (by show _ = ((6 : Nat) : Int); omega) (Nat.le_of_ble_eq_true rfl) h) ?_
  show pj_X _ _ (pj_wc G6 23 107 6) 38 [(0, .ref 105), (1, .ref 21)] [] _
  obtain ⟨G7, hG7⟩ : ∃ H, H = pj_wc G6 23 107 6 := ⟨_, rfl⟩
  have iG7 : pj_Inv G7 := by rw [hG7]; exact pj_Inv_wc iG6 rfl rfl (fun q hq => by cases hq) rfl
  have kG7 : pj_kpt kc_68_105_21x G0 G7 := by rw [hG7]; exact pj_kpt_c kG6 rfl
  rw [← hG7]
  rw [pj_nm_e]
  refine pj_X_of (fun r h => pj_R_to (G7, 39, [(0, .ref 105), (1, .ref 21)], [.ref 21], 0, 0) 39 2 (fun _ => rfl) h) ?_
  refine pj_X_of (fun r h => pj_T_gr iG7 rfl rfl rfl h) ?_
  refine pj_X_of (fun r h => pj_R_to (G7, 44, [(0, .ref 105), (1, .ref 21)], [.ref 105, .int (Int32.ofInt 0), .ref 24], 0, 0) 44 3 (fun _ => rfl) h) ?_
  refine pj_X_of (fun r h => pj_T_gr iG7 rfl rfl rfl h) ?_
  refine pj_X_of (fun r h => pj_R_to (G7, 50, [(0, .ref 105), (1, .ref 21)], [.int ((Int8.ofInt 6).toInt32), .int (Int32.ofInt 0), .ref 108, .int (Int32.ofInt 0), .ref 24], 0, 0) 50 3 (fun _ => rfl) h) ?_
  refine pj_X_of (fun r h => pj_T_cp iG7 rfl rfl rfl rfl (by omega) (by omega) (by show _ = ((6 : Nat) : Int); omega) (Nat.le_of_ble_eq_true rfl) h) ?_
  show pj_X _ _ (pj_wc G7 24 108 6) 53 [(0, .ref 105), (1, .ref 21)] [] _
  obtain ⟨G8, hG8⟩ : ∃ H, H = pj_wc G7 24 108 6 := ⟨_, rfl⟩
  have iG8 : pj_Inv G8 := by rw [hG8]; exact pj_Inv_wc iG7 rfl rfl (fun q hq => by cases hq) rfl
  have kG8 : pj_kpt kc_68_105_21x G0 G8 := by rw [hG8]; exact pj_kpt_c kG7 rfl
  rw [← hG8]
  rw [pj_nm_e]
  refine pj_X_of (fun r h => pj_R_to (G8, 54, [(0, .ref 105), (1, .ref 21)], [.ref 21], 0, 0) 54 2 (fun _ => rfl) h) ?_
  refine pj_X_of (fun r h => pj_T_gr iG8 rfl rfl rfl h) ?_
  refine pj_X_of (fun r h => pj_R_to (G8, 59, [(0, .ref 105), (1, .ref 21)], [.ref 105, .int (Int32.ofInt 0), .ref 25], 0, 0) 59 3 (fun _ => rfl) h) ?_
  refine pj_X_of (fun r h => pj_T_gr iG8 rfl rfl rfl h) ?_
  refine pj_X_of (fun r h => pj_R_to (G8, 65, [(0, .ref 105), (1, .ref 21)], [.int ((Int8.ofInt 6).toInt32), .int (Int32.ofInt 0), .ref 109, .int (Int32.ofInt 0), .ref 25], 0, 0) 65 3 (fun _ => rfl) h) ?_
  refine pj_X_of (fun r h => pj_T_cp iG8 rfl rfl rfl rfl (by omega) (by omega) (by show _ = ((6 : Nat) : Int); omega) (Nat.le_of_ble_eq_true rfl) h) ?_
  show pj_X _ _ (pj_wc G8 25 109 6) 68 [(0, .ref 105), (1, .ref 21)] [] _
  obtain ⟨G9, hG9⟩ : ∃ H, H = pj_wc G8 25 109 6 := ⟨_, rfl⟩
  have iG9 : pj_Inv G9 := by rw [hG9]; exact pj_Inv_wc iG8 rfl rfl (fun q hq => by cases hq) rfl
  have kG9 : pj_kpt kc_68_105_21x G0 G9 := by rw [hG9]; exact pj_kpt_c kG8 rfl
  rw [← hG9]
  rw [pj_nm_e]
  refine pj_X_of (fun r h => pj_R_to (G9, 70, [(0, .ref 105), (1, .ref 21)], [.ref 21, .ref 105], 0, 0) 70 3 (fun _ => rfl) h) ?_
  refine pj_X_of (fun r h => pj_T_gi iG9 rfl rfl h) ?_
  show pj_X _ _ G9 73 [(0, .ref 105), (1, .ref 21)] [.int (pj_fi G9 21 5), .ref 105] _
  rw [← hy4, pj_nm_e]
  rw [show pj_fi G9 21 5 = y4 from by rw [hG9, pj_fi_wc]; exact (by rw [hG8, pj_fi_wc]; exact (by rw [hG7, pj_fi_wc]; exact (by rw [hG6, pj_fi_wc]; exact (by rw [hG5, pj_fi_wv_ne _ _ _ _ _ _ (by decide)]; exact hy4.symm))))]
  refine pj_X_of (fun r h => pj_T_pf iG9 rfl rfl rfl h) ?_
  show pj_X _ _ (pj_wv G9 105 5 (.int y4)) 76 [(0, .ref 105), (1, .ref 21)] [] _
  obtain ⟨G10, hG10⟩ : ∃ H, H = pj_wv G9 105 5 (.int y4) := ⟨_, rfl⟩
  have iG10 : pj_Inv G10 := by rw [hG10]; exact pj_Inv_wi iG9 (ci := 8) rfl (fun q hq => by cases hq; exact ⟨by show (0 : Int) ≤ _; omega, by show _ ≤ (6 : Int); omega⟩)
  have kG10 : pj_kpt kc_68_105_21x G0 G10 := by rw [hG10]; exact pj_kpt_v kG9 rfl
  rw [← hG10]
  rw [pj_nm_e]
  refine pj_X_of (fun r h => pj_R_to (G10, 77, [(0, .ref 105), (1, .ref 21)], [.ref 21], 0, 0) 77 2 (fun _ => rfl) h) ?_
  refine pj_X_of (fun r h => pj_T_gr iG10 rfl rfl rfl h) ?_
  refine pj_X_of (fun r h => pj_R_to (G10, 82, [(0, .ref 105), (1, .ref 21)], [.ref 105, .int (Int32.ofInt 0), .ref 26], 0, 0) 82 3 (fun _ => rfl) h) ?_
  refine pj_X_of (fun r h => pj_T_gr iG10 rfl rfl rfl h) ?_
  refine pj_X_of (fun r h => pj_R_to (G10, 88, [(0, .ref 105), (1, .ref 21)], [.int ((Int8.ofInt 6).toInt32), .int (Int32.ofInt 0), .ref 110, .int (Int32.ofInt 0), .ref 26], 0, 0) 88 3 (fun _ => rfl) h) ?_
  refine pj_X_of (fun r h => pj_T_cp iG10 rfl rfl rfl rfl (by omega) (by omega) (by show _ = ((6 : Nat) : Int); omega) (Nat.le_of_ble_eq_true rfl) h) ?_
  show pj_X _ _ (pj_wc G10 26 110 6) 91 [(0, .ref 105), (1, .ref 21)] [] _
  obtain ⟨G11, hG11⟩ : ∃ H, H = pj_wc G10 26 110 6 := ⟨_, rfl⟩
  have iG11 : pj_Inv G11 := by rw [hG11]; exact pj_Inv_wc iG10 rfl rfl (fun q hq => by cases hq; exact ⟨rfl, by decide⟩) rfl
  have kG11 : pj_kpt kc_68_105_21x G0 G11 := by rw [hG11]; exact pj_kpt_c kG10 rfl
  rw [← hG11]
  rw [pj_nm_e]
  refine pj_X_of (fun r h => pj_R_to (G11, 93, [(0, .ref 105), (1, .ref 21)], [.ref 21, .ref 105], 0, 0) 93 3 (fun _ => rfl) h) ?_
  refine pj_X_of (fun r h => pj_T_gi iG11 rfl rfl h) ?_
  show pj_X _ _ G11 96 [(0, .ref 105), (1, .ref 21)] [.int (pj_fi G11 21 7), .ref 105] _
  obtain ⟨y12, hy12⟩ : ∃ z : Int32, z = pj_fi G11 21 7 := ⟨_, rfl⟩
  rw [← hy12]
  rw [pj_nm_e]
  have ey12 : (pj_fi G11 21 7).toInt = y12.toInt := by rw [hy12]
  refine pj_X_of (fun r h => pj_T_pf iG11 rfl rfl rfl h) ?_
  show pj_X _ _ (pj_wv G11 105 7 (.int y12)) 99 [(0, .ref 105), (1, .ref 21)] [] _
  obtain ⟨G13, hG13⟩ : ∃ H, H = pj_wv G11 105 7 (.int y12) := ⟨_, rfl⟩
  have iG13 : pj_Inv G13 := by rw [hG13]; exact pj_Inv_wi iG11 (ci := 8) rfl (fun q hq => by cases hq)
  have kG13 : pj_kpt kc_68_105_21x G0 G13 := by rw [hG13]; exact pj_kpt_v kG11 rfl
  rw [← hG13]
  rw [pj_nm_e]
  refine pj_X_of (fun r h => pj_R_to (G13, 101, [(0, .ref 105), (1, .ref 21)], [.ref 21, .ref 105], 0, 0) 101 3 (fun _ => rfl) h) ?_
  refine pj_X_of (fun r h => pj_T_gi iG13 rfl rfl h) ?_
  show pj_X _ _ G13 104 [(0, .ref 105), (1, .ref 21)] [.int (pj_fi G13 21 8), .ref 105] _
  obtain ⟨y14, hy14⟩ : ∃ z : Int32, z = pj_fi G13 21 8 := ⟨_, rfl⟩
  rw [← hy14]
  rw [pj_nm_e]
  have ey14 : (pj_fi G13 21 8).toInt = y14.toInt := by rw [hy14]
  refine pj_X_of (fun r h => pj_T_pf iG13 rfl rfl rfl h) ?_
  show pj_X _ _ (pj_wv G13 105 8 (.int y14)) 107 [(0, .ref 105), (1, .ref 21)] [] _
  obtain ⟨G15, hG15⟩ : ∃ H, H = pj_wv G13 105 8 (.int y14) := ⟨_, rfl⟩
  have iG15 : pj_Inv G15 := by rw [hG15]; exact pj_Inv_wi iG13 (ci := 8) rfl (fun q hq => by cases hq)
  have kG15 : pj_kpt kc_68_105_21x G0 G15 := by rw [hG15]; exact pj_kpt_v kG13 rfl
  rw [← hG15]
  rw [pj_nm_e]
  have q16 : (pj_fi G15 105 0).toInt = y3.toInt := by rw [show pj_fi G15 105 0 = y3 from by rw [hG15, pj_fi_wv_ne _ _ _ _ _ _ (by decide)]; exact (by rw [hG13, pj_fi_wv_ne _ _ _ _ _ _ (by decide)]; exact (by rw [hG11, pj_fi_wc]; exact (by rw [hG10, pj_fi_wv_ne _ _ _ _ _ _ (by decide)]; exact (by rw [hG9, pj_fi_wc]; exact (by rw [hG8, pj_fi_wc]; exact (by rw [hG7, pj_fi_wc]; exact (by rw [hG6, pj_fi_wc]; exact (by rw [hG5]; exact pj_fi_wi hI.1 (ci := 8) rfl _))))))))]
  have q17 : (pj_fi G15 105 5).toInt = y4.toInt := by rw [show pj_fi G15 105 5 = y4 from by rw [hG15, pj_fi_wv_ne _ _ _ _ _ _ (by decide)]; exact (by rw [hG13, pj_fi_wv_ne _ _ _ _ _ _ (by decide)]; exact (by rw [hG11, pj_fi_wc]; exact (by rw [hG10]; exact pj_fi_wi iG9.1 (ci := 8) rfl _)))]
  have q18 : (pj_fi G15 21 0).toInt = y3.toInt := by rw [show pj_fi G15 21 0 = y3 from by rw [hG15, pj_fi_wv_ne _ _ _ _ _ _ (by decide)]; exact (by rw [hG13, pj_fi_wv_ne _ _ _ _ _ _ (by decide)]; exact (by rw [hG11, pj_fi_wc]; exact (by rw [hG10, pj_fi_wv_ne _ _ _ _ _ _ (by decide)]; exact (by rw [hG9, pj_fi_wc]; exact (by rw [hG8, pj_fi_wc]; exact (by rw [hG7, pj_fi_wc]; exact (by rw [hG6, pj_fi_wc]; exact (by rw [hG5, pj_fi_wv_ne _ _ _ _ _ _ (by decide)]; exact hy3.symm))))))))]
  have q19 : (pj_fi G15 21 5).toInt = y4.toInt := by rw [show pj_fi G15 21 5 = y4 from by rw [hG15, pj_fi_wv_ne _ _ _ _ _ _ (by decide)]; exact (by rw [hG13, pj_fi_wv_ne _ _ _ _ _ _ (by decide)]; exact (by rw [hG11, pj_fi_wc]; exact (by rw [hG10, pj_fi_wv_ne _ _ _ _ _ _ (by decide)]; exact (by rw [hG9, pj_fi_wc]; exact (by rw [hG8, pj_fi_wc]; exact (by rw [hG7, pj_fi_wc]; exact (by rw [hG6, pj_fi_wc]; exact (by rw [hG5, pj_fi_wv_ne _ _ _ _ _ _ (by decide)]; exact hy4.symm))))))))]
  exact pj_X_rt rfl rfl ⟨rfl, iG15, kG15, (fun H hH => by subst hH; exact (by omega)), rfl⟩
theorem fr_68_105_21x (G0 : pj_G) (hI : pj_Inv G0) : pj_Inv (F_68_105_21x G0) ∧ pj_kpt kc_68_105_21x G0 (F_68_105_21x G0) ∧ ((pj_fi (F_68_105_21x G0) 105 0).toInt = (pj_fi G0 21 0).toInt ∧ (pj_fi (F_68_105_21x G0) 105 5).toInt = (pj_fi G0 21 5).toInt) := by
  obtain ⟨v, G', -, -, i, j, x, e⟩ := ct_68_105_21x G0 hI 
  rw [← e]
  exact ⟨i, j, x _ rfl⟩
def kc_68_111_21x : pj_KT := ([(111, 0), (111, 5), (111, 7), (111, 8)], [111, 112, 113, 114, 115, 116], [112, 113, 114, 115, 116])
noncomputable def F_68_111_21x (G0 : pj_G) : pj_G := pj_nm (pj_fi G0 21 0) (fun y3 => pj_nm (pj_wv G0 111 0 (.int y3)) (fun G5 => pj_nm (pj_wc G5 22 112 6) (fun G6 => pj_nm (pj_wc G6 23 113 6) (fun G7 => pj_nm (pj_wc G7 24 114 6) (fun G8 => pj_nm (pj_wc G8 25 115 6) (fun G9 => pj_nm (pj_fi G0 21 5) (fun y4 => pj_nm (pj_wv G9 111 5 (.int y4)) (fun G10 => pj_nm (pj_wc G10 26 116 6) (fun G11 => pj_nm (pj_fi G11 21 7) (fun y12 => pj_nm (pj_wv G11 111 7 (.int y12)) (fun G13 => pj_nm (pj_fi G13 21 8) (fun y14 => pj_nm (pj_wv G13 111 8 (.int y14)) (fun G15 => G15)))))))))))))
theorem F_68_111_21x_e (G0 : pj_G) : F_68_111_21x G0 = pj_nm (pj_fi G0 21 0) (fun y3 => pj_nm (pj_wv G0 111 0 (.int y3)) (fun G5 => pj_nm (pj_wc G5 22 112 6) (fun G6 => pj_nm (pj_wc G6 23 113 6) (fun G7 => pj_nm (pj_wc G7 24 114 6) (fun G8 => pj_nm (pj_wc G8 25 115 6) (fun G9 => pj_nm (pj_fi G0 21 5) (fun y4 => pj_nm (pj_wv G9 111 5 (.int y4)) (fun G10 => pj_nm (pj_wc G10 26 116 6) (fun G11 => pj_nm (pj_fi G11 21 7) (fun y12 => pj_nm (pj_wv G11 111 7 (.int y12)) (fun G13 => pj_nm (pj_fi G13 21 8) (fun y14 => pj_nm (pj_wv G13 111 8 (.int y14)) (fun G15 => G15))))))))))))) := rfl
theorem ct_68_111_21x (G0 : pj_G) (hI : pj_Inv G0) : pj_Y 1 68 [.ref 111, .ref 21] G0 (fun v' G' => v' = none ∧ pj_Inv G' ∧ pj_kpt kc_68_111_21x G0 G' ∧ (∀ H, G0 = H → ((pj_fi G' 111 0).toInt = (pj_fi H 21 0).toInt ∧ (pj_fi G' 111 5).toInt = (pj_fi H 21 5).toInt)) ∧ (G' = F_68_111_21x G0)) := by
  have c0_ : ((Int8.ofInt 6).toInt32).toInt = 6 := by decide
  have c1_ : (Int32.ofInt 0).toInt = 0 := by decide
  refine pj_Y_X (M := pj_m68) rfl rfl (Nat.le_of_ble_eq_true rfl) ?_
  have hK : pj_kpt kc_68_111_21x G0 G0 := pj_kpt_r _ _
  show pj_X _ _ G0 0 [(0, .ref 111), (1, .ref 21)] [] _
  rw [F_68_111_21x_e]
  obtain ⟨y1, hy1⟩ : ∃ z : Int32, z = pj_fi G0 111 0 := ⟨_, rfl⟩
  have ey1 : (pj_fi G0 111 0).toInt = y1.toInt := by rw [hy1]
  have ry1 : (0 : Int) ≤ y1.toInt ∧ y1.toInt ≤ 6 := by rw [hy1]; exact hI.2.1 111 0 (0, 6) rfl
  obtain ⟨y2, hy2⟩ : ∃ z : Int32, z = pj_fi G0 111 5 := ⟨_, rfl⟩
  have ey2 : (pj_fi G0 111 5).toInt = y2.toInt := by rw [hy2]
  have ry2 : (0 : Int) ≤ y2.toInt ∧ y2.toInt ≤ 6 := by rw [hy2]; exact hI.2.1 111 5 (0, 6) rfl
  obtain ⟨y3, hy3⟩ : ∃ z : Int32, z = pj_fi G0 21 0 := ⟨_, rfl⟩
  have ey3 : (pj_fi G0 21 0).toInt = y3.toInt := by rw [hy3]
  have ry3 : (0 : Int) ≤ y3.toInt ∧ y3.toInt ≤ 6 := by rw [hy3]; exact hI.2.1 21 0 (0, 6) rfl
  obtain ⟨y4, hy4⟩ : ∃ z : Int32, z = pj_fi G0 21 5 := ⟨_, rfl⟩
  have ey4 : (pj_fi G0 21 5).toInt = y4.toInt := by rw [hy4]
  have ry4 : (0 : Int) ≤ y4.toInt ∧ y4.toInt ≤ 6 := by rw [hy4]; exact hI.2.1 21 5 (0, 6) rfl
  refine pj_X_of (fun r h => pj_R_to (G0, 2, [(0, .ref 111), (1, .ref 21)], [.ref 21, .ref 111], 0, 0) 2 3 (fun _ => rfl) h) ?_
  refine pj_X_of (fun r h => pj_T_gi hI rfl rfl h) ?_
  show pj_X _ _ G0 5 [(0, .ref 111), (1, .ref 21)] [.int (pj_fi G0 21 0), .ref 111] _
  rw [← hy3, pj_nm_e]
  refine pj_X_of (fun r h => pj_T_pf hI rfl rfl rfl h) ?_
  show pj_X _ _ (pj_wv G0 111 0 (.int y3)) 8 [(0, .ref 111), (1, .ref 21)] [] _
  obtain ⟨G5, hG5⟩ : ∃ H, H = pj_wv G0 111 0 (.int y3) := ⟨_, rfl⟩
  have iG5 : pj_Inv G5 := by rw [hG5]; exact pj_Inv_wi hI (ci := 8) rfl (fun q hq => by cases hq; exact ⟨by show (0 : Int) ≤ _; omega, by show _ ≤ (6 : Int); omega⟩)
  have kG5 : pj_kpt kc_68_111_21x G0 G5 := by rw [hG5]; exact pj_kpt_v hK rfl
  rw [← hG5]
  rw [pj_nm_e]
  refine pj_X_of (fun r h => pj_R_to (G5, 9, [(0, .ref 111), (1, .ref 21)], [.ref 21], 0, 0) 9 2 (fun _ => rfl) h) ?_
  refine pj_X_of (fun r h => pj_T_gr iG5 rfl rfl rfl h) ?_
  refine pj_X_of (fun r h => pj_R_to (G5, 14, [(0, .ref 111), (1, .ref 21)], [.ref 111, .int (Int32.ofInt 0), .ref 22], 0, 0) 14 3 (fun _ => rfl) h) ?_
  refine pj_X_of (fun r h => pj_T_gr iG5 rfl rfl rfl h) ?_
  refine pj_X_of (fun r h => pj_R_to (G5, 20, [(0, .ref 111), (1, .ref 21)], [.int ((Int8.ofInt 6).toInt32), .int (Int32.ofInt 0), .ref 112, .int (Int32.ofInt 0), .ref 22], 0, 0) 20 3 (fun _ => rfl) h) ?_
  refine pj_X_of (fun r h => pj_T_cp iG5 rfl rfl rfl rfl (by omega) (by omega) (by show _ = ((6 : Nat) : Int); omega) (Nat.le_of_ble_eq_true rfl) h) ?_
  show pj_X _ _ (pj_wc G5 22 112 6) 23 [(0, .ref 111), (1, .ref 21)] [] _
  obtain ⟨G6, hG6⟩ : ∃ H, H = pj_wc G5 22 112 6 := ⟨_, rfl⟩
  have iG6 : pj_Inv G6 := by rw [hG6]; exact pj_Inv_wc iG5 rfl rfl (fun q hq => by cases hq; exact ⟨rfl, by decide⟩) rfl
  have kG6 : pj_kpt kc_68_111_21x G0 G6 := by rw [hG6]; exact pj_kpt_c kG5 rfl
  rw [← hG6]
  rw [pj_nm_e]
  refine pj_X_of (fun r h => pj_R_to (G6, 24, [(0, .ref 111), (1, .ref 21)], [.ref 21], 0, 0) 24 2 (fun _ => rfl) h) ?_
  refine pj_X_of (fun r h => pj_T_gr iG6 rfl rfl rfl h) ?_
  refine pj_X_of (fun r h => pj_R_to (G6, 29, [(0, .ref 111), (1, .ref 21)], [.ref 111, .int (Int32.ofInt 0), .ref 23], 0, 0) 29 3 (fun _ => rfl) h) ?_
  refine pj_X_of (fun r h => pj_T_gr iG6 rfl rfl rfl h) ?_
  refine pj_X_of (fun r h => pj_R_to (G6, 35, [(0, .ref 111), (1, .ref 21)], [.int ((Int8.ofInt 6).toInt32), .int (Int32.ofInt 0), .ref 113, .int (Int32.ofInt 0), .ref 23], 0, 0) 35 3 (fun _ => rfl) h) ?_
  refine pj_X_of (fun r h => pj_T_cp iG6 rfl rfl rfl rfl (by omega) (by omega) (by show _ = ((6 : Nat) : Int); omega) (Nat.le_of_ble_eq_true rfl) h) ?_
  show pj_X _ _ (pj_wc G6 23 113 6) 38 [(0, .ref 111), (1, .ref 21)] [] _
  obtain ⟨G7, hG7⟩ : ∃ H, H = pj_wc G6 23 113 6 := ⟨_, rfl⟩
  have iG7 : pj_Inv G7 := by rw [hG7]; exact pj_Inv_wc iG6 rfl rfl (fun q hq => by cases hq) rfl
  have kG7 : pj_kpt kc_68_111_21x G0 G7 := by rw [hG7]; exact pj_kpt_c kG6 rfl
  rw [← hG7]
  rw [pj_nm_e]
  refine pj_X_of (fun r h => pj_R_to (G7, 39, [(0, .ref 111), (1, .ref 21)], [.ref 21], 0, 0) 39 2 (fun _ => rfl) h) ?_
  refine pj_X_of (fun r h => pj_T_gr iG7 rfl rfl rfl h) ?_
  refine pj_X_of (fun r h => pj_R_to (G7, 44, [(0, .ref 111), (1, .ref 21)], [.ref 111, .int (Int32.ofInt 0), .ref 24], 0, 0) 44 3 (fun _ => rfl) h) ?_
  refine pj_X_of (fun r h => pj_T_gr iG7 rfl rfl rfl h) ?_
  refine pj_X_of (fun r h => pj_R_to (G7, 50, [(0, .ref 111), (1, .ref 21)], [.int ((Int8.ofInt 6).toInt32), .int (Int32.ofInt 0), .ref 114, .int (Int32.ofInt 0), .ref 24], 0, 0) 50 3 (fun _ => rfl) h) ?_
  refine pj_X_of (fun r h => pj_T_cp iG7 rfl rfl rfl rfl (by omega) (by omega) (by show _ = ((6 : Nat) : Int); omega) (Nat.le_of_ble_eq_true rfl) h) ?_
  show pj_X _ _ (pj_wc G7 24 114 6) 53 [(0, .ref 111), (1, .ref 21)] [] _
  obtain ⟨G8, hG8⟩ : ∃ H, H = pj_wc G7 24 114 6 := ⟨_, rfl⟩
  have iG8 : pj_Inv G8 := by rw [hG8]; exact pj_Inv_wc iG7 rfl rfl (fun q hq => by cases hq) rfl
  have kG8 : pj_kpt kc_68_111_21x G0 G8 := by rw [hG8]; exact pj_kpt_c kG7 rfl
  rw [← hG8]
  rw [pj_nm_e]
  refine pj_X_of (fun r h => pj_R_to (G8, 54, [(0, .ref 111), (1, .ref 21)], [.ref 21], 0, 0) 54 2 (fun _ => rfl) h) ?_
  refine pj_X_of (fun r h => pj_T_gr iG8 rfl rfl rfl h) ?_
  refine pj_X_of (fun r h => pj_R_to (G8, 59, [(0, .ref 111), (1, .ref 21)], [.ref 111, .int (Int32.ofInt 0), .ref 25], 0, 0) 59 3 (fun _ => rfl) h) ?_
  refine pj_X_of (fun r h => pj_T_gr iG8 rfl rfl rfl h) ?_
  refine pj_X_of (fun r h => pj_R_to (G8, 65, [(0, .ref 111), (1, .ref 21)], [.int ((Int8.ofInt 6).toInt32), .int (Int32.ofInt 0), .ref 115, .int (Int32.ofInt 0), .ref 25], 0, 0) 65 3 (fun _ => rfl) h) ?_
  refine pj_X_of (fun r h => pj_T_cp iG8 rfl rfl rfl rfl (by omega) (by omega) (by show _ = ((6 : Nat) : Int); omega) (Nat.le_of_ble_eq_true rfl) h) ?_
  show pj_X _ _ (pj_wc G8 25 115 6) 68 [(0, .ref 111), (1, .ref 21)] [] _
  obtain ⟨G9, hG9⟩ : ∃ H, H = pj_wc G8 25 115 6 := ⟨_, rfl⟩
  have iG9 : pj_Inv G9 := by rw [hG9]; exact pj_Inv_wc iG8 rfl rfl (fun q hq => by cases hq) rfl
  have kG9 : pj_kpt kc_68_111_21x G0 G9 := by rw [hG9]; exact pj_kpt_c kG8 rfl
  rw [← hG9]
  rw [pj_nm_e]
  refine pj_X_of (fun r h => pj_R_to (G9, 70, [(0, .ref 111), (1, .ref 21)], [.ref 21, .ref 111], 0, 0) 70 3 (fun _ => rfl) h) ?_
  refine pj_X_of (fun r h => pj_T_gi iG9 rfl rfl h) ?_
  show pj_X _ _ G9 73 [(0, .ref 111), (1, .ref 21)] [.int (pj_fi G9 21 5), .ref 111] _
  rw [← hy4, pj_nm_e]
  rw [show pj_fi G9 21 5 = y4 from by rw [hG9, pj_fi_wc]; exact (by rw [hG8, pj_fi_wc]; exact (by rw [hG7, pj_fi_wc]; exact (by rw [hG6, pj_fi_wc]; exact (by rw [hG5, pj_fi_wv_ne _ _ _ _ _ _ (by decide)]; exact hy4.symm))))]
  refine pj_X_of (fun r h => pj_T_pf iG9 rfl rfl rfl h) ?_
  show pj_X _ _ (pj_wv G9 111 5 (.int y4)) 76 [(0, .ref 111), (1, .ref 21)] [] _
  obtain ⟨G10, hG10⟩ : ∃ H, H = pj_wv G9 111 5 (.int y4) := ⟨_, rfl⟩
  have iG10 : pj_Inv G10 := by rw [hG10]; exact pj_Inv_wi iG9 (ci := 8) rfl (fun q hq => by cases hq; exact ⟨by show (0 : Int) ≤ _; omega, by show _ ≤ (6 : Int); omega⟩)
  have kG10 : pj_kpt kc_68_111_21x G0 G10 := by rw [hG10]; exact pj_kpt_v kG9 rfl
  rw [← hG10]
  rw [pj_nm_e]
  refine pj_X_of (fun r h => pj_R_to (G10, 77, [(0, .ref 111), (1, .ref 21)], [.ref 21], 0, 0) 77 2 (fun _ => rfl) h) ?_
  refine pj_X_of (fun r h => pj_T_gr iG10 rfl rfl rfl h) ?_
  refine pj_X_of (fun r h => pj_R_to (G10, 82, [(0, .ref 111), (1, .ref 21)], [.ref 111, .int (Int32.ofInt 0), .ref 26], 0, 0) 82 3 (fun _ => rfl) h) ?_
  refine pj_X_of (fun r h => pj_T_gr iG10 rfl rfl rfl h) ?_
  refine pj_X_of (fun r h => pj_R_to (G10, 88, [(0, .ref 111), (1, .ref 21)], [.int ((Int8.ofInt 6).toInt32), .int (Int32.ofInt 0), .ref 116, .int (Int32.ofInt 0), .ref 26], 0, 0) 88 3 (fun _ => rfl) h) ?_
  refine pj_X_of (fun r h => pj_T_cp iG10 rfl rfl rfl rfl (by omega) (by omega) (by show _ = ((6 : Nat) : Int); omega) (Nat.le_of_ble_eq_true rfl) h) ?_
  show pj_X _ _ (pj_wc G10 26 116 6) 91 [(0, .ref 111), (1, .ref 21)] [] _
  obtain ⟨G11, hG11⟩ : ∃ H, H = pj_wc G10 26 116 6 := ⟨_, rfl⟩
  have iG11 : pj_Inv G11 := by rw [hG11]; exact pj_Inv_wc iG10 rfl rfl (fun q hq => by cases hq; exact ⟨rfl, by decide⟩) rfl
  have kG11 : pj_kpt kc_68_111_21x G0 G11 := by rw [hG11]; exact pj_kpt_c kG10 rfl
  rw [← hG11]
  rw [pj_nm_e]
  refine pj_X_of (fun r h => pj_R_to (G11, 93, [(0, .ref 111), (1, .ref 21)], [.ref 21, .ref 111], 0, 0) 93 3 (fun _ => rfl) h) ?_
  refine pj_X_of (fun r h => pj_T_gi iG11 rfl rfl h) ?_
  show pj_X _ _ G11 96 [(0, .ref 111), (1, .ref 21)] [.int (pj_fi G11 21 7), .ref 111] _
  obtain ⟨y12, hy12⟩ : ∃ z : Int32, z = pj_fi G11 21 7 := ⟨_, rfl⟩
  rw [← hy12]
  rw [pj_nm_e]
  have ey12 : (pj_fi G11 21 7).toInt = y12.toInt := by rw [hy12]
  refine pj_X_of (fun r h => pj_T_pf iG11 rfl rfl rfl h) ?_
  show pj_X _ _ (pj_wv G11 111 7 (.int y12)) 99 [(0, .ref 111), (1, .ref 21)] [] _
  obtain ⟨G13, hG13⟩ : ∃ H, H = pj_wv G11 111 7 (.int y12) := ⟨_, rfl⟩
  have iG13 : pj_Inv G13 := by rw [hG13]; exact pj_Inv_wi iG11 (ci := 8) rfl (fun q hq => by cases hq)
  have kG13 : pj_kpt kc_68_111_21x G0 G13 := by rw [hG13]; exact pj_kpt_v kG11 rfl
  rw [← hG13]
  rw [pj_nm_e]
  refine pj_X_of (fun r h => pj_R_to (G13, 101, [(0, .ref 111), (1, .ref 21)], [.ref 21, .ref 111], 0, 0) 101 3 (fun _ => rfl) h) ?_
  refine pj_X_of (fun r h => pj_T_gi iG13 rfl rfl h) ?_
  show pj_X _ _ G13 104 [(0, .ref 111), (1, .ref 21)] [.int (pj_fi G13 21 8), .ref 111] _
  obtain ⟨y14, hy14⟩ : ∃ z : Int32, z = pj_fi G13 21 8 := ⟨_, rfl⟩
  rw [← hy14]
  rw [pj_nm_e]
  have ey14 : (pj_fi G13 21 8).toInt = y14.toInt := by rw [hy14]
  refine pj_X_of (fun r h => pj_T_pf iG13 rfl rfl rfl h) ?_
  show pj_X _ _ (pj_wv G13 111 8 (.int y14)) 107 [(0, .ref 111), (1, .ref 21)] [] _
  obtain ⟨G15, hG15⟩ : ∃ H, H = pj_wv G13 111 8 (.int y14) := ⟨_, rfl⟩
  have iG15 : pj_Inv G15 := by rw [hG15]; exact pj_Inv_wi iG13 (ci := 8) rfl (fun q hq => by cases hq)
  have kG15 : pj_kpt kc_68_111_21x G0 G15 := by rw [hG15]; exact pj_kpt_v kG13 rfl
  rw [← hG15]
  rw [pj_nm_e]
  have q16 : (pj_fi G15 111 0).toInt = y3.toInt := by rw [show pj_fi G15 111 0 = y3 from by rw [hG15, pj_fi_wv_ne _ _ _ _ _ _ (by decide)]; exact (by rw [hG13, pj_fi_wv_ne _ _ _ _ _ _ (by decide)]; exact (by rw [hG11, pj_fi_wc]; exact (by rw [hG10, pj_fi_wv_ne _ _ _ _ _ _ (by decide)]; exact (by rw [hG9, pj_fi_wc]; exact (by rw [hG8, pj_fi_wc]; exact (by rw [hG7, pj_fi_wc]; exact (by rw [hG6, pj_fi_wc]; exact (by rw [hG5]; exact pj_fi_wi hI.1 (ci := 8) rfl _))))))))]
  have q17 : (pj_fi G15 111 5).toInt = y4.toInt := by rw [show pj_fi G15 111 5 = y4 from by rw [hG15, pj_fi_wv_ne _ _ _ _ _ _ (by decide)]; exact (by rw [hG13, pj_fi_wv_ne _ _ _ _ _ _ (by decide)]; exact (by rw [hG11, pj_fi_wc]; exact (by rw [hG10]; exact pj_fi_wi iG9.1 (ci := 8) rfl _)))]
  have q18 : (pj_fi G15 21 0).toInt = y3.toInt := by rw [show pj_fi G15 21 0 = y3 from by rw [hG15, pj_fi_wv_ne _ _ _ _ _ _ (by decide)]; exact (by rw [hG13, pj_fi_wv_ne _ _ _ _ _ _ (by decide)]; exact (by rw [hG11, pj_fi_wc]; exact (by rw [hG10, pj_fi_wv_ne _ _ _ _ _ _ (by decide)]; exact (by rw [hG9, pj_fi_wc]; exact (by rw [hG8, pj_fi_wc]; exact (by rw [hG7, pj_fi_wc]; exact (by rw [hG6, pj_fi_wc]; exact (by rw [hG5, pj_fi_wv_ne _ _ _ _ _ _ (by decide)]; exact hy3.symm))))))))]
  have q19 : (pj_fi G15 21 5).toInt = y4.toInt := by rw [show pj_fi G15 21 5 = y4 from by rw [hG15, pj_fi_wv_ne _ _ _ _ _ _ (by decide)]; exact (by rw [hG13, pj_fi_wv_ne _ _ _ _ _ _ (by decide)]; exact (by rw [hG11, pj_fi_wc]; exact (by rw [hG10, pj_fi_wv_ne _ _ _ _ _ _ (by decide)]; exact (by rw [hG9, pj_fi_wc]; exact (by rw [hG8, pj_fi_wc]; exact (by rw [hG7, pj_fi_wc]; exact (by rw [hG6, pj_fi_wc]; exact (by rw [hG5, pj_fi_wv_ne _ _ _ _ _ _ (by decide)]; exact hy4.symm))))))))]
  exact pj_X_rt rfl rfl ⟨rfl, iG15, kG15, (fun H hH => by subst hH; exact (by omega)), rfl⟩
theorem fr_68_111_21x (G0 : pj_G) (hI : pj_Inv G0) : pj_Inv (F_68_111_21x G0) ∧ pj_kpt kc_68_111_21x G0 (F_68_111_21x G0) ∧ ((pj_fi (F_68_111_21x G0) 111 0).toInt = (pj_fi G0 21 0).toInt ∧ (pj_fi (F_68_111_21x G0) 111 5).toInt = (pj_fi G0 21 5).toInt) := by
  obtain ⟨v, G', -, -, i, j, x, e⟩ := ct_68_111_21x G0 hI 
  rw [← e]
  exact ⟨i, j, x _ rfl⟩
def kc_68_117_21x : pj_KT := ([(117, 0), (117, 5), (117, 7), (117, 8)], [117, 118, 119, 120, 121, 122], [118, 119, 120, 121, 122])
noncomputable def F_68_117_21x (G0 : pj_G) : pj_G := pj_nm (pj_fi G0 21 0) (fun y3 => pj_nm (pj_wv G0 117 0 (.int y3)) (fun G5 => pj_nm (pj_wc G5 22 118 6) (fun G6 => pj_nm (pj_wc G6 23 119 6) (fun G7 => pj_nm (pj_wc G7 24 120 6) (fun G8 => pj_nm (pj_wc G8 25 121 6) (fun G9 => pj_nm (pj_fi G0 21 5) (fun y4 => pj_nm (pj_wv G9 117 5 (.int y4)) (fun G10 => pj_nm (pj_wc G10 26 122 6) (fun G11 => pj_nm (pj_fi G11 21 7) (fun y12 => pj_nm (pj_wv G11 117 7 (.int y12)) (fun G13 => pj_nm (pj_fi G13 21 8) (fun y14 => pj_nm (pj_wv G13 117 8 (.int y14)) (fun G15 => G15)))))))))))))
theorem F_68_117_21x_e (G0 : pj_G) : F_68_117_21x G0 = pj_nm (pj_fi G0 21 0) (fun y3 => pj_nm (pj_wv G0 117 0 (.int y3)) (fun G5 => pj_nm (pj_wc G5 22 118 6) (fun G6 => pj_nm (pj_wc G6 23 119 6) (fun G7 => pj_nm (pj_wc G7 24 120 6) (fun G8 => pj_nm (pj_wc G8 25 121 6) (fun G9 => pj_nm (pj_fi G0 21 5) (fun y4 => pj_nm (pj_wv G9 117 5 (.int y4)) (fun G10 => pj_nm (pj_wc G10 26 122 6) (fun G11 => pj_nm (pj_fi G11 21 7) (fun y12 => pj_nm (pj_wv G11 117 7 (.int y12)) (fun G13 => pj_nm (pj_fi G13 21 8) (fun y14 => pj_nm (pj_wv G13 117 8 (.int y14)) (fun G15 => G15))))))))))))) := rfl
theorem ct_68_117_21x (G0 : pj_G) (hI : pj_Inv G0) : pj_Y 1 68 [.ref 117, .ref 21] G0 (fun v' G' => v' = none ∧ pj_Inv G' ∧ pj_kpt kc_68_117_21x G0 G' ∧ (∀ H, G0 = H → ((pj_fi G' 117 0).toInt = (pj_fi H 21 0).toInt ∧ (pj_fi G' 117 5).toInt = (pj_fi H 21 5).toInt)) ∧ (G' = F_68_117_21x G0)) := by
  have c0_ : ((Int8.ofInt 6).toInt32).toInt = 6 := by decide
  have c1_ : (Int32.ofInt 0).toInt = 0 := by decide
  refine pj_Y_X (M := pj_m68) rfl rfl (Nat.le_of_ble_eq_true rfl) ?_
  have hK : pj_kpt kc_68_117_21x G0 G0 := pj_kpt_r _ _
  show pj_X _ _ G0 0 [(0, .ref 117), (1, .ref 21)] [] _
  rw [F_68_117_21x_e]
  obtain ⟨y1, hy1⟩ : ∃ z : Int32, z = pj_fi G0 117 0 := ⟨_, rfl⟩
  have ey1 : (pj_fi G0 117 0).toInt = y1.toInt := by rw [hy1]
  have ry1 : (0 : Int) ≤ y1.toInt ∧ y1.toInt ≤ 6 := by rw [hy1]; exact hI.2.1 117 0 (0, 6) rfl
  obtain ⟨y2, hy2⟩ : ∃ z : Int32, z = pj_fi G0 117 5 := ⟨_, rfl⟩
  have ey2 : (pj_fi G0 117 5).toInt = y2.toInt := by rw [hy2]
  have ry2 : (0 : Int) ≤ y2.toInt ∧ y2.toInt ≤ 6 := by rw [hy2]; exact hI.2.1 117 5 (0, 6) rfl
  obtain ⟨y3, hy3⟩ : ∃ z : Int32, z = pj_fi G0 21 0 := ⟨_, rfl⟩
  have ey3 : (pj_fi G0 21 0).toInt = y3.toInt := by rw [hy3]
  have ry3 : (0 : Int) ≤ y3.toInt ∧ y3.toInt ≤ 6 := by rw [hy3]; exact hI.2.1 21 0 (0, 6) rfl
  obtain ⟨y4, hy4⟩ : ∃ z : Int32, z = pj_fi G0 21 5 := ⟨_, rfl⟩
  have ey4 : (pj_fi G0 21 5).toInt = y4.toInt := by rw [hy4]
  have ry4 : (0 : Int) ≤ y4.toInt ∧ y4.toInt ≤ 6 := by rw [hy4]; exact hI.2.1 21 5 (0, 6) rfl
  refine pj_X_of (fun r h => pj_R_to (G0, 2, [(0, .ref 117), (1, .ref 21)], [.ref 21, .ref 117], 0, 0) 2 3 (fun _ => rfl) h) ?_
  refine pj_X_of (fun r h => pj_T_gi hI rfl rfl h) ?_
  show pj_X _ _ G0 5 [(0, .ref 117), (1, .ref 21)] [.int (pj_fi G0 21 0), .ref 117] _
  rw [← hy3, pj_nm_e]
  refine pj_X_of (fun r h => pj_T_pf hI rfl rfl rfl h) ?_
  show pj_X _ _ (pj_wv G0 117 0 (.int y3)) 8 [(0, .ref 117), (1, .ref 21)] [] _
  obtain ⟨G5, hG5⟩ : ∃ H, H = pj_wv G0 117 0 (.int y3) := ⟨_, rfl⟩
  have iG5 : pj_Inv G5 := by rw [hG5]; exact pj_Inv_wi hI (ci := 8) rfl (fun q hq => by cases hq; exact ⟨by show (0 : Int) ≤ _; omega, by show _ ≤ (6 : Int); omega⟩)
  have kG5 : pj_kpt kc_68_117_21x G0 G5 := by rw [hG5]; exact pj_kpt_v hK rfl
  rw [← hG5]
  rw [pj_nm_e]
  refine pj_X_of (fun r h => pj_R_to (G5, 9, [(0, .ref 117), (1, .ref 21)], [.ref 21], 0, 0) 9 2 (fun _ => rfl) h) ?_
  refine pj_X_of (fun r h => pj_T_gr iG5 rfl rfl rfl h) ?_
  refine pj_X_of (fun r h => pj_R_to (G5, 14, [(0, .ref 117), (1, .ref 21)], [.ref 117, .int (Int32.ofInt 0), .ref 22], 0, 0) 14 3 (fun _ => rfl) h) ?_
  refine pj_X_of (fun r h => pj_T_gr iG5 rfl rfl rfl h) ?_
  refine pj_X_of (fun r h => pj_R_to (G5, 20, [(0, .ref 117), (1, .ref 21)], [.int ((Int8.ofInt 6).toInt32), .int (Int32.ofInt 0), .ref 118, .int (Int32.ofInt 0), .ref 22], 0, 0) 20 3 (fun _ => rfl) h) ?_
  refine pj_X_of (fun r h => pj_T_cp iG5 rfl rfl rfl rfl (by omega) (by omega) (by show _ = ((6 : Nat) : Int); omega) (Nat.le_of_ble_eq_true rfl) h) ?_
  show pj_X _ _ (pj_wc G5 22 118 6) 23 [(0, .ref 117), (1, .ref 21)] [] _
  obtain ⟨G6, hG6⟩ : ∃ H, H = pj_wc G5 22 118 6 := ⟨_, rfl⟩
  have iG6 : pj_Inv G6 := by rw [hG6]; exact pj_Inv_wc iG5 rfl rfl (fun q hq => by cases hq; exact ⟨rfl, by decide⟩) rfl
  have kG6 : pj_kpt kc_68_117_21x G0 G6 := by rw [hG6]; exact pj_kpt_c kG5 rfl
  rw [← hG6]
  rw [pj_nm_e]
  refine pj_X_of (fun r h => pj_R_to (G6, 24, [(0, .ref 117), (1, .ref 21)], [.ref 21], 0, 0) 24 2 (fun _ => rfl) h) ?_
  refine pj_X_of (fun r h => pj_T_gr iG6 rfl rfl rfl h) ?_
  refine pj_X_of (fun r h => pj_R_to (G6, 29, [(0, .ref 117), (1, .ref 21)], [.ref 117, .int (Int32.ofInt 0), .ref 23], 0, 0) 29 3 (fun _ => rfl) h) ?_
  refine pj_X_of (fun r h => pj_T_gr iG6 rfl rfl rfl h) ?_
  refine pj_X_of (fun r h => pj_R_to (G6, 35, [(0, .ref 117), (1, .ref 21)], [.int ((Int8.ofInt 6).toInt32), .int (Int32.ofInt 0), .ref 119, .int (Int32.ofInt 0), .ref 23], 0, 0) 35 3 (fun _ => rfl) h) ?_
  refine pj_X_of (fun r h => pj_T_cp iG6 rfl rfl rfl rfl (by omega) (by omega) (by show _ = ((6 : Nat) : Int); omega) (Nat.le_of_ble_eq_true rfl) h) ?_
  show pj_X _ _ (pj_wc G6 23 119 6) 38 [(0, .ref 117), (1, .ref 21)] [] _
  obtain ⟨G7, hG7⟩ : ∃ H, H = pj_wc G6 23 119 6 := ⟨_, rfl⟩
  have iG7 : pj_Inv G7 := by rw [hG7]; exact pj_Inv_wc iG6 rfl rfl (fun q hq => by cases hq) rfl
  have kG7 : pj_kpt kc_68_117_21x G0 G7 := by rw [hG7]; exact pj_kpt_c kG6 rfl
  rw [← hG7]
  rw [pj_nm_e]
  refine pj_X_of (fun r h => pj_R_to (G7, 39, [(0, .ref 117), (1, .ref 21)], [.ref 21], 0, 0) 39 2 (fun _ => rfl) h) ?_
  refine pj_X_of (fun r h => pj_T_gr iG7 rfl rfl rfl h) ?_
  refine pj_X_of (fun r h => pj_R_to (G7, 44, [(0, .ref 117), (1, .ref 21)], [.ref 117, .int (Int32.ofInt 0), .ref 24], 0, 0) 44 3 (fun _ => rfl) h) ?_
  refine pj_X_of (fun r h => pj_T_gr iG7 rfl rfl rfl h) ?_
  refine pj_X_of (fun r h => pj_R_to (G7, 50, [(0, .ref 117), (1, .ref 21)], [.int ((Int8.ofInt 6).toInt32), .int (Int32.ofInt 0), .ref 120, .int (Int32.ofInt 0), .ref 24], 0, 0) 50 3 (fun _ => rfl) h) ?_
  refine pj_X_of (fun r h => pj_T_cp iG7 rfl rfl rfl rfl (by omega) (by omega) (by show _ = ((6 : Nat) : Int); omega) (Nat.le_of_ble_eq_true rfl) h) ?_
  show pj_X _ _ (pj_wc G7 24 120 6) 53 [(0, .ref 117), (1, .ref 21)] [] _
  obtain ⟨G8, hG8⟩ : ∃ H, H = pj_wc G7 24 120 6 := ⟨_, rfl⟩
  have iG8 : pj_Inv G8 := by rw [hG8]; exact pj_Inv_wc iG7 rfl rfl (fun q hq => by cases hq) rfl
  have kG8 : pj_kpt kc_68_117_21x G0 G8 := by rw [hG8]; exact pj_kpt_c kG7 rfl
  rw [← hG8]
  rw [pj_nm_e]
  refine pj_X_of (fun r h => pj_R_to (G8, 54, [(0, .ref 117), (1, .ref 21)], [.ref 21], 0, 0) 54 2 (fun _ => rfl) h) ?_
  refine pj_X_of (fun r h => pj_T_gr iG8 rfl rfl rfl h) ?_
  refine pj_X_of (fun r h => pj_R_to (G8, 59, [(0, .ref 117), (1, .ref 21)], [.ref 117, .int (Int32.ofInt 0), .ref 25], 0, 0) 59 3 (fun _ => rfl) h) ?_
  refine pj_X_of (fun r h => pj_T_gr iG8 rfl rfl rfl h) ?_
  refine pj_X_of (fun r h => pj_R_to (G8, 65, [(0, .ref 117), (1, .ref 21)], [.int ((Int8.ofInt 6).toInt32), .int (Int32.ofInt 0), .ref 121, .int (Int32.ofInt 0), .ref 25], 0, 0) 65 3 (fun _ => rfl) h) ?_
  refine pj_X_of (fun r h => pj_T_cp iG8 rfl rfl rfl rfl (by omega) (by omega) (by show _ = ((6 : Nat) : Int); omega) (Nat.le_of_ble_eq_true rfl) h) ?_
  show pj_X _ _ (pj_wc G8 25 121 6) 68 [(0, .ref 117), (1, .ref 21)] [] _
  obtain ⟨G9, hG9⟩ : ∃ H, H = pj_wc G8 25 121 6 := ⟨_, rfl⟩
  have iG9 : pj_Inv G9 := by rw [hG9]; exact pj_Inv_wc iG8 rfl rfl (fun q hq => by cases hq) rfl
  have kG9 : pj_kpt kc_68_117_21x G0 G9 := by rw [hG9]; exact pj_kpt_c kG8 rfl
  rw [← hG9]
  rw [pj_nm_e]
  refine pj_X_of (fun r h => pj_R_to (G9, 70, [(0, .ref 117), (1, .ref 21)], [.ref 21, .ref 117], 0, 0) 70 3 (fun _ => rfl) h) ?_
  refine pj_X_of (fun r h => pj_T_gi iG9 rfl rfl h) ?_
  show pj_X _ _ G9 73 [(0, .ref 117), (1, .ref 21)] [.int (pj_fi G9 21 5), .ref 117] _
  rw [← hy4, pj_nm_e]
  rw [show pj_fi G9 21 5 = y4 from by rw [hG9, pj_fi_wc]; exact (by rw [hG8, pj_fi_wc]; exact (by rw [hG7, pj_fi_wc]; exact (by rw [hG6, pj_fi_wc]; exact (by rw [hG5, pj_fi_wv_ne _ _ _ _ _ _ (by decide)]; exact hy4.symm))))]
  refine pj_X_of (fun r h => pj_T_pf iG9 rfl rfl rfl h) ?_
  show pj_X _ _ (pj_wv G9 117 5 (.int y4)) 76 [(0, .ref 117), (1, .ref 21)] [] _
  obtain ⟨G10, hG10⟩ : ∃ H, H = pj_wv G9 117 5 (.int y4) := ⟨_, rfl⟩
  have iG10 : pj_Inv G10 := by rw [hG10]; exact pj_Inv_wi iG9 (ci := 8) rfl (fun q hq => by cases hq; exact ⟨by show (0 : Int) ≤ _; omega, by show _ ≤ (6 : Int); omega⟩)
  have kG10 : pj_kpt kc_68_117_21x G0 G10 := by rw [hG10]; exact pj_kpt_v kG9 rfl
  rw [← hG10]
  rw [pj_nm_e]
  refine pj_X_of (fun r h => pj_R_to (G10, 77, [(0, .ref 117), (1, .ref 21)], [.ref 21], 0, 0) 77 2 (fun _ => rfl) h) ?_
  refine pj_X_of (fun r h => pj_T_gr iG10 rfl rfl rfl h) ?_
  refine pj_X_of (fun r h => pj_R_to (G10, 82, [(0, .ref 117), (1, .ref 21)], [.ref 117, .int (Int32.ofInt 0), .ref 26], 0, 0) 82 3 (fun _ => rfl) h) ?_
  refine pj_X_of (fun r h => pj_T_gr iG10 rfl rfl rfl h) ?_
  refine pj_X_of (fun r h => pj_R_to (G10, 88, [(0, .ref 117), (1, .ref 21)], [.int ((Int8.ofInt 6).toInt32), .int (Int32.ofInt 0), .ref 122, .int (Int32.ofInt 0), .ref 26], 0, 0) 88 3 (fun _ => rfl) h) ?_
  refine pj_X_of (fun r h => pj_T_cp iG10 rfl rfl rfl rfl (by omega) (by omega) (by show _ = ((6 : Nat) : Int); omega) (Nat.le_of_ble_eq_true rfl) h) ?_
  show pj_X _ _ (pj_wc G10 26 122 6) 91 [(0, .ref 117), (1, .ref 21)] [] _
  obtain ⟨G11, hG11⟩ : ∃ H, H = pj_wc G10 26 122 6 := ⟨_, rfl⟩
  have iG11 : pj_Inv G11 := by rw [hG11]; exact pj_Inv_wc iG10 rfl rfl (fun q hq => by cases hq; exact ⟨rfl, by decide⟩) rfl
  have kG11 : pj_kpt kc_68_117_21x G0 G11 := by rw [hG11]; exact pj_kpt_c kG10 rfl
  rw [← hG11]
  rw [pj_nm_e]
  refine pj_X_of (fun r h => pj_R_to (G11, 93, [(0, .ref 117), (1, .ref 21)], [.ref 21, .ref 117], 0, 0) 93 3 (fun _ => rfl) h) ?_
  refine pj_X_of (fun r h => pj_T_gi iG11 rfl rfl h) ?_
  show pj_X _ _ G11 96 [(0, .ref 117), (1, .ref 21)] [.int (pj_fi G11 21 7), .ref 117] _
  obtain ⟨y12, hy12⟩ : ∃ z : Int32, z = pj_fi G11 21 7 := ⟨_, rfl⟩
  rw [← hy12]
  rw [pj_nm_e]
  have ey12 : (pj_fi G11 21 7).toInt = y12.toInt := by rw [hy12]
  refine pj_X_of (fun r h => pj_T_pf iG11 rfl rfl rfl h) ?_
  show pj_X _ _ (pj_wv G11 117 7 (.int y12)) 99 [(0, .ref 117), (1, .ref 21)] [] _
  obtain ⟨G13, hG13⟩ : ∃ H, H = pj_wv G11 117 7 (.int y12) := ⟨_, rfl⟩
  have iG13 : pj_Inv G13 := by rw [hG13]; exact pj_Inv_wi iG11 (ci := 8) rfl (fun q hq => by cases hq)
  have kG13 : pj_kpt kc_68_117_21x G0 G13 := by rw [hG13]; exact pj_kpt_v kG11 rfl
  rw [← hG13]
  rw [pj_nm_e]
  refine pj_X_of (fun r h => pj_R_to (G13, 101, [(0, .ref 117), (1, .ref 21)], [.ref 21, .ref 117], 0, 0) 101 3 (fun _ => rfl) h) ?_
  refine pj_X_of (fun r h => pj_T_gi iG13 rfl rfl h) ?_
  show pj_X _ _ G13 104 [(0, .ref 117), (1, .ref 21)] [.int (pj_fi G13 21 8), .ref 117] _
  obtain ⟨y14, hy14⟩ : ∃ z : Int32, z = pj_fi G13 21 8 := ⟨_, rfl⟩
  rw [← hy14]
  rw [pj_nm_e]
  have ey14 : (pj_fi G13 21 8).toInt = y14.toInt := by rw [hy14]
  refine pj_X_of (fun r h => pj_T_pf iG13 rfl rfl rfl h) ?_
  show pj_X _ _ (pj_wv G13 117 8 (.int y14)) 107 [(0, .ref 117), (1, .ref 21)] [] _
  obtain ⟨G15, hG15⟩ : ∃ H, H = pj_wv G13 117 8 (.int y14) := ⟨_, rfl⟩
  have iG15 : pj_Inv G15 := by rw [hG15]; exact pj_Inv_wi iG13 (ci := 8) rfl (fun q hq => by cases hq)
  have kG15 : pj_kpt kc_68_117_21x G0 G15 := by rw [hG15]; exact pj_kpt_v kG13 rfl
  rw [← hG15]
  rw [pj_nm_e]
  have q16 : (pj_fi G15 117 0).toInt = y3.toInt := by rw [show pj_fi G15 117 0 = y3 from by rw [hG15, pj_fi_wv_ne _ _ _ _ _ _ (by decide)]; exact (by rw [hG13, pj_fi_wv_ne _ _ _ _ _ _ (by decide)]; exact (by rw [hG11, pj_fi_wc]; exact (by rw [hG10, pj_fi_wv_ne _ _ _ _ _ _ (by decide)]; exact (by rw [hG9, pj_fi_wc]; exact (by rw [hG8, pj_fi_wc]; exact (by rw [hG7, pj_fi_wc]; exact (by rw [hG6, pj_fi_wc]; exact (by rw [hG5]; exact pj_fi_wi hI.1 (ci := 8) rfl _))))))))]
  have q17 : (pj_fi G15 117 5).toInt = y4.toInt := by rw [show pj_fi G15 117 5 = y4 from by rw [hG15, pj_fi_wv_ne _ _ _ _ _ _ (by decide)]; exact (by rw [hG13, pj_fi_wv_ne _ _ _ _ _ _ (by decide)]; exact (by rw [hG11, pj_fi_wc]; exact (by rw [hG10]; exact pj_fi_wi iG9.1 (ci := 8) rfl _)))]
  have q18 : (pj_fi G15 21 0).toInt = y3.toInt := by rw [show pj_fi G15 21 0 = y3 from by rw [hG15, pj_fi_wv_ne _ _ _ _ _ _ (by decide)]; exact (by rw [hG13, pj_fi_wv_ne _ _ _ _ _ _ (by decide)]; exact (by rw [hG11, pj_fi_wc]; exact (by rw [hG10, pj_fi_wv_ne _ _ _ _ _ _ (by decide)]; exact (by rw [hG9, pj_fi_wc]; exact (by rw [hG8, pj_fi_wc]; exact (by rw [hG7, pj_fi_wc]; exact (by rw [hG6, pj_fi_wc]; exact (by rw [hG5, pj_fi_wv_ne _ _ _ _ _ _ (by decide)]; exact hy3.symm))))))))]
  have q19 : (pj_fi G15 21 5).toInt = y4.toInt := by rw [show pj_fi G15 21 5 = y4 from by rw [hG15, pj_fi_wv_ne _ _ _ _ _ _ (by decide)]; exact (by rw [hG13, pj_fi_wv_ne _ _ _ _ _ _ (by decide)]; exact (by rw [hG11, pj_fi_wc]; exact (by rw [hG10, pj_fi_wv_ne _ _ _ _ _ _ (by decide)]; exact (by rw [hG9, pj_fi_wc]; exact (by rw [hG8, pj_fi_wc]; exact (by rw [hG7, pj_fi_wc]; exact (by rw [hG6, pj_fi_wc]; exact (by rw [hG5, pj_fi_wv_ne _ _ _ _ _ _ (by decide)]; exact hy4.symm))))))))]
  exact pj_X_rt rfl rfl ⟨rfl, iG15, kG15, (fun H hH => by subst hH; exact (by omega)), rfl⟩
theorem fr_68_117_21x (G0 : pj_G) (hI : pj_Inv G0) : pj_Inv (F_68_117_21x G0) ∧ pj_kpt kc_68_117_21x G0 (F_68_117_21x G0) ∧ ((pj_fi (F_68_117_21x G0) 117 0).toInt = (pj_fi G0 21 0).toInt ∧ (pj_fi (F_68_117_21x G0) 117 5).toInt = (pj_fi G0 21 5).toInt) := by
  obtain ⟨v, G', -, -, i, j, x, e⟩ := ct_68_117_21x G0 hI 
  rw [← e]
  exact ⟨i, j, x _ rfl⟩
def kc_68_123_21x : pj_KT := ([(123, 0), (123, 5), (123, 7), (123, 8)], [123, 124, 125, 126, 127, 128], [124, 125, 126, 127, 128])
noncomputable def F_68_123_21x (G0 : pj_G) : pj_G := pj_nm (pj_fi G0 21 0) (fun y3 => pj_nm (pj_wv G0 123 0 (.int y3)) (fun G5 => pj_nm (pj_wc G5 22 124 6) (fun G6 => pj_nm (pj_wc G6 23 125 6) (fun G7 => pj_nm (pj_wc G7 24 126 6) (fun G8 => pj_nm (pj_wc G8 25 127 6) (fun G9 => pj_nm (pj_fi G0 21 5) (fun y4 => pj_nm (pj_wv G9 123 5 (.int y4)) (fun G10 => pj_nm (pj_wc G10 26 128 6) (fun G11 => pj_nm (pj_fi G11 21 7) (fun y12 => pj_nm (pj_wv G11 123 7 (.int y12)) (fun G13 => pj_nm (pj_fi G13 21 8) (fun y14 => pj_nm (pj_wv G13 123 8 (.int y14)) (fun G15 => G15)))))))))))))
theorem F_68_123_21x_e (G0 : pj_G) : F_68_123_21x G0 = pj_nm (pj_fi G0 21 0) (fun y3 => pj_nm (pj_wv G0 123 0 (.int y3)) (fun G5 => pj_nm (pj_wc G5 22 124 6) (fun G6 => pj_nm (pj_wc G6 23 125 6) (fun G7 => pj_nm (pj_wc G7 24 126 6) (fun G8 => pj_nm (pj_wc G8 25 127 6) (fun G9 => pj_nm (pj_fi G0 21 5) (fun y4 => pj_nm (pj_wv G9 123 5 (.int y4)) (fun G10 => pj_nm (pj_wc G10 26 128 6) (fun G11 => pj_nm (pj_fi G11 21 7) (fun y12 => pj_nm (pj_wv G11 123 7 (.int y12)) (fun G13 => pj_nm (pj_fi G13 21 8) (fun y14 => pj_nm (pj_wv G13 123 8 (.int y14)) (fun G15 => G15))))))))))))) := rfl
theorem ct_68_123_21x (G0 : pj_G) (hI : pj_Inv G0) : pj_Y 1 68 [.ref 123, .ref 21] G0 (fun v' G' => v' = none ∧ pj_Inv G' ∧ pj_kpt kc_68_123_21x G0 G' ∧ (∀ H, G0 = H → ((pj_fi G' 123 0).toInt = (pj_fi H 21 0).toInt ∧ (pj_fi G' 123 5).toInt = (pj_fi H 21 5).toInt)) ∧ (G' = F_68_123_21x G0)) := by
  have c0_ : ((Int8.ofInt 6).toInt32).toInt = 6 := by decide
  have c1_ : (Int32.ofInt 0).toInt = 0 := by decide
  refine pj_Y_X (M := pj_m68) rfl rfl (Nat.le_of_ble_eq_true rfl) ?_
  have hK : pj_kpt kc_68_123_21x G0 G0 := pj_kpt_r _ _
  show pj_X _ _ G0 0 [(0, .ref 123), (1, .ref 21)] [] _
  rw [F_68_123_21x_e]
  obtain ⟨y1, hy1⟩ : ∃ z : Int32, z = pj_fi G0 123 0 := ⟨_, rfl⟩
  have ey1 : (pj_fi G0 123 0).toInt = y1.toInt := by rw [hy1]
  have ry1 : (0 : Int) ≤ y1.toInt ∧ y1.toInt ≤ 6 := by rw [hy1]; exact hI.2.1 123 0 (0, 6) rfl
  obtain ⟨y2, hy2⟩ : ∃ z : Int32, z = pj_fi G0 123 5 := ⟨_, rfl⟩
  have ey2 : (pj_fi G0 123 5).toInt = y2.toInt := by rw [hy2]
  have ry2 : (0 : Int) ≤ y2.toInt ∧ y2.toInt ≤ 6 := by rw [hy2]; exact hI.2.1 123 5 (0, 6) rfl
  obtain ⟨y3, hy3⟩ : ∃ z : Int32, z = pj_fi G0 21 0 := ⟨_, rfl⟩
  have ey3 : (pj_fi G0 21 0).toInt = y3.toInt := by rw [hy3]
  have ry3 : (0 : Int) ≤ y3.toInt ∧ y3.toInt ≤ 6 := by rw [hy3]; exact hI.2.1 21 0 (0, 6) rfl
  obtain ⟨y4, hy4⟩ : ∃ z : Int32, z = pj_fi G0 21 5 := ⟨_, rfl⟩
  have ey4 : (pj_fi G0 21 5).toInt = y4.toInt := by rw [hy4]
  have ry4 : (0 : Int) ≤ y4.toInt ∧ y4.toInt ≤ 6 := by rw [hy4]; exact hI.2.1 21 5 (0, 6) rfl
  refine pj_X_of (fun r h => pj_R_to (G0, 2, [(0, .ref 123), (1, .ref 21)], [.ref 21, .ref 123], 0, 0) 2 3 (fun _ => rfl) h) ?_
  refine pj_X_of (fun r h => pj_T_gi hI rfl rfl h) ?_
  show pj_X _ _ G0 5 [(0, .ref 123), (1, .ref 21)] [.int (pj_fi G0 21 0), .ref 123] _
  rw [← hy3, pj_nm_e]
  refine pj_X_of (fun r h => pj_T_pf hI rfl rfl rfl h) ?_
  show pj_X _ _ (pj_wv G0 123 0 (.int y3)) 8 [(0, .ref 123), (1, .ref 21)] [] _
  obtain ⟨G5, hG5⟩ : ∃ H, H = pj_wv G0 123 0 (.int y3) := ⟨_, rfl⟩
  have iG5 : pj_Inv G5 := by rw [hG5]; exact pj_Inv_wi hI (ci := 8) rfl (fun q hq => by cases hq; exact ⟨by show (0 : Int) ≤ _; omega, by show _ ≤ (6 : Int); omega⟩)
  have kG5 : pj_kpt kc_68_123_21x G0 G5 := by rw [hG5]; exact pj_kpt_v hK rfl
  rw [← hG5]
  rw [pj_nm_e]
  refine pj_X_of (fun r h => pj_R_to (G5, 9, [(0, .ref 123), (1, .ref 21)], [.ref 21], 0, 0) 9 2 (fun _ => rfl) h) ?_
  refine pj_X_of (fun r h => pj_T_gr iG5 rfl rfl rfl h) ?_
  refine pj_X_of (fun r h => pj_R_to (G5, 14, [(0, .ref 123), (1, .ref 21)], [.ref 123, .int (Int32.ofInt 0), .ref 22], 0, 0) 14 3 (fun _ => rfl) h) ?_
  refine pj_X_of (fun r h => pj_T_gr iG5 rfl rfl rfl h) ?_
  refine pj_X_of (fun r h => pj_R_to (G5, 20, [(0, .ref 123), (1, .ref 21)], [.int ((Int8.ofInt 6).toInt32), .int (Int32.ofInt 0), .ref 124, .int (Int32.ofInt 0), .ref 22], 0, 0) 20 3 (fun _ => rfl) h) ?_
  refine pj_X_of (fun r h => pj_T_cp iG5 rfl rfl rfl rfl (by omega) (by omega) (by show _ = ((6 : Nat) : Int); omega) (Nat.le_of_ble_eq_true rfl) h) ?_
  show pj_X _ _ (pj_wc G5 22 124 6) 23 [(0, .ref 123), (1, .ref 21)] [] _
  obtain ⟨G6, hG6⟩ : ∃ H, H = pj_wc G5 22 124 6 := ⟨_, rfl⟩
  have iG6 : pj_Inv G6 := by rw [hG6]; exact pj_Inv_wc iG5 rfl rfl (fun q hq => by cases hq; exact ⟨rfl, by decide⟩) rfl
  have kG6 : pj_kpt kc_68_123_21x G0 G6 := by rw [hG6]; exact pj_kpt_c kG5 rfl
  rw [← hG6]
  rw [pj_nm_e]
  refine pj_X_of (fun r h => pj_R_to (G6, 24, [(0, .ref 123), (1, .ref 21)], [.ref 21], 0, 0) 24 2 (fun _ => rfl) h) ?_
  refine pj_X_of (fun r h => pj_T_gr iG6 rfl rfl rfl h) ?_
  refine pj_X_of (fun r h => pj_R_to (G6, 29, [(0, .ref 123), (1, .ref 21)], [.ref 123, .int (Int32.ofInt 0), .ref 23], 0, 0) 29 3 (fun _ => rfl) h) ?_
  refine pj_X_of (fun r h => pj_T_gr iG6 rfl rfl rfl h) ?_
  refine pj_X_of (fun r h => pj_R_to (G6, 35, [(0, .ref 123), (1, .ref 21)], [.int ((Int8.ofInt 6).toInt32), .int (Int32.ofInt 0), .ref 125, .int (Int32.ofInt 0), .ref 23], 0, 0) 35 3 (fun _ => rfl) h) ?_
  refine pj_X_of (fun r h => pj_T_cp iG6 rfl rfl rfl rfl (by omega) (by omega) (by show _ = ((6 : Nat) : Int); omega) (Nat.le_of_ble_eq_true rfl) h) ?_
  show pj_X _ _ (pj_wc G6 23 125 6) 38 [(0, .ref 123), (1, .ref 21)] [] _
  obtain ⟨G7, hG7⟩ : ∃ H, H = pj_wc G6 23 125 6 := ⟨_, rfl⟩
  have iG7 : pj_Inv G7 := by rw [hG7]; exact pj_Inv_wc iG6 rfl rfl (fun q hq => by cases hq) rfl
  have kG7 : pj_kpt kc_68_123_21x G0 G7 := by rw [hG7]; exact pj_kpt_c kG6 rfl
  rw [← hG7]
  rw [pj_nm_e]
  refine pj_X_of (fun r h => pj_R_to (G7, 39, [(0, .ref 123), (1, .ref 21)], [.ref 21], 0, 0) 39 2 (fun _ => rfl) h) ?_
  refine pj_X_of (fun r h => pj_T_gr iG7 rfl rfl rfl h) ?_
  refine pj_X_of (fun r h => pj_R_to (G7, 44, [(0, .ref 123), (1, .ref 21)], [.ref 123, .int (Int32.ofInt 0), .ref 24], 0, 0) 44 3 (fun _ => rfl) h) ?_
  refine pj_X_of (fun r h => pj_T_gr iG7 rfl rfl rfl h) ?_
  refine pj_X_of (fun r h => pj_R_to (G7, 50, [(0, .ref 123), (1, .ref 21)], [.int ((Int8.ofInt 6).toInt32), .int (Int32.ofInt 0), .ref 126, .int (Int32.ofInt 0), .ref 24], 0, 0) 50 3 (fun _ => rfl) h) ?_
  refine pj_X_of (fun r h => pj_T_cp iG7 rfl rfl rfl rfl (by omega) (by omega) (by show _ = ((6 : Nat) : Int); omega) (Nat.le_of_ble_eq_true rfl) h) ?_
  show pj_X _ _ (pj_wc G7 24 126 6) 53 [(0, .ref 123), (1, .ref 21)] [] _
  obtain ⟨G8, hG8⟩ : ∃ H, H = pj_wc G7 24 126 6 := ⟨_, rfl⟩
  have iG8 : pj_Inv G8 := by rw [hG8]; exact pj_Inv_wc iG7 rfl rfl (fun q hq => by cases hq) rfl
  have kG8 : pj_kpt kc_68_123_21x G0 G8 := by rw [hG8]; exact pj_kpt_c kG7 rfl
  rw [← hG8]
  rw [pj_nm_e]
  refine pj_X_of (fun r h => pj_R_to (G8, 54, [(0, .ref 123), (1, .ref 21)], [.ref 21], 0, 0) 54 2 (fun _ => rfl) h) ?_
  refine pj_X_of (fun r h => pj_T_gr iG8 rfl rfl rfl h) ?_
  refine pj_X_of (fun r h => pj_R_to (G8, 59, [(0, .ref 123), (1, .ref 21)], [.ref 123, .int (Int32.ofInt 0), .ref 25], 0, 0) 59 3 (fun _ => rfl) h) ?_
  refine pj_X_of (fun r h => pj_T_gr iG8 rfl rfl rfl h) ?_
  refine pj_X_of (fun r h => pj_R_to (G8, 65, [(0, .ref 123), (1, .ref 21)], [.int ((Int8.ofInt 6).toInt32), .int (Int32.ofInt 0), .ref 127, .int (Int32.ofInt 0), .ref 25], 0, 0) 65 3 (fun _ => rfl) h) ?_
  refine pj_X_of (fun r h => pj_T_cp iG8 rfl rfl rfl rfl (by omega) (by omega) (by show _ = ((6 : Nat) : Int); omega) (Nat.le_of_ble_eq_true rfl) h) ?_
  show pj_X _ _ (pj_wc G8 25 127 6) 68 [(0, .ref 123), (1, .ref 21)] [] _
  obtain ⟨G9, hG9⟩ : ∃ H, H = pj_wc G8 25 127 6 := ⟨_, rfl⟩
  have iG9 : pj_Inv G9 := by rw [hG9]; exact pj_Inv_wc iG8 rfl rfl (fun q hq => by cases hq) rfl
  have kG9 : pj_kpt kc_68_123_21x G0 G9 := by rw [hG9]; exact pj_kpt_c kG8 rfl
  rw [← hG9]
  rw [pj_nm_e]
  refine pj_X_of (fun r h => pj_R_to (G9, 70, [(0, .ref 123), (1, .ref 21)], [.ref 21, .ref 123], 0, 0) 70 3 (fun _ => rfl) h) ?_
  refine pj_X_of (fun r h => pj_T_gi iG9 rfl rfl h) ?_
  show pj_X _ _ G9 73 [(0, .ref 123), (1, .ref 21)] [.int (pj_fi G9 21 5), .ref 123] _
  rw [← hy4, pj_nm_e]
  rw [show pj_fi G9 21 5 = y4 from by rw [hG9, pj_fi_wc]; exact (by rw [hG8, pj_fi_wc]; exact (by rw [hG7, pj_fi_wc]; exact (by rw [hG6, pj_fi_wc]; exact (by rw [hG5, pj_fi_wv_ne _ _ _ _ _ _ (by decide)]; exact hy4.symm))))]
  refine pj_X_of (fun r h => pj_T_pf iG9 rfl rfl rfl h) ?_
  show pj_X _ _ (pj_wv G9 123 5 (.int y4)) 76 [(0, .ref 123), (1, .ref 21)] [] _
  obtain ⟨G10, hG10⟩ : ∃ H, H = pj_wv G9 123 5 (.int y4) := ⟨_, rfl⟩
  have iG10 : pj_Inv G10 := by rw [hG10]; exact pj_Inv_wi iG9 (ci := 8) rfl (fun q hq => by cases hq; exact ⟨by show (0 : Int) ≤ _; omega, by show _ ≤ (6 : Int); omega⟩)
  have kG10 : pj_kpt kc_68_123_21x G0 G10 := by rw [hG10]; exact pj_kpt_v kG9 rfl
  rw [← hG10]
  rw [pj_nm_e]
  refine pj_X_of (fun r h => pj_R_to (G10, 77, [(0, .ref 123), (1, .ref 21)], [.ref 21], 0, 0) 77 2 (fun _ => rfl) h) ?_
  refine pj_X_of (fun r h => pj_T_gr iG10 rfl rfl rfl h) ?_
  refine pj_X_of (fun r h => pj_R_to (G10, 82, [(0, .ref 123), (1, .ref 21)], [.ref 123, .int (Int32.ofInt 0), .ref 26], 0, 0) 82 3 (fun _ => rfl) h) ?_
  refine pj_X_of (fun r h => pj_T_gr iG10 rfl rfl rfl h) ?_
  refine pj_X_of (fun r h => pj_R_to (G10, 88, [(0, .ref 123), (1, .ref 21)], [.int ((Int8.ofInt 6).toInt32), .int (Int32.ofInt 0), .ref 128, .int (Int32.ofInt 0), .ref 26], 0, 0) 88 3 (fun _ => rfl) h) ?_
  refine pj_X_of (fun r h => pj_T_cp iG10 rfl rfl rfl rfl (by omega) (by omega) (by show _ = ((6 : Nat) : Int); omega) (Nat.le_of_ble_eq_true rfl) h) ?_
  show pj_X _ _ (pj_wc G10 26 128 6) 91 [(0, .ref 123), (1, .ref 21)] [] _
  obtain ⟨G11, hG11⟩ : ∃ H, H = pj_wc G10 26 128 6 := ⟨_, rfl⟩
  have iG11 : pj_Inv G11 := by rw [hG11]; exact pj_Inv_wc iG10 rfl rfl (fun q hq => by cases hq; exact ⟨rfl, by decide⟩) rfl
  have kG11 : pj_kpt kc_68_123_21x G0 G11 := by rw [hG11]; exact pj_kpt_c kG10 rfl
  rw [← hG11]
  rw [pj_nm_e]
  refine pj_X_of (fun r h => pj_R_to (G11, 93, [(0, .ref 123), (1, .ref 21)], [.ref 21, .ref 123], 0, 0) 93 3 (fun _ => rfl) h) ?_
  refine pj_X_of (fun r h => pj_T_gi iG11 rfl rfl h) ?_
  show pj_X _ _ G11 96 [(0, .ref 123), (1, .ref 21)] [.int (pj_fi G11 21 7), .ref 123] _
  obtain ⟨y12, hy12⟩ : ∃ z : Int32, z = pj_fi G11 21 7 := ⟨_, rfl⟩
  rw [← hy12]
  rw [pj_nm_e]
  have ey12 : (pj_fi G11 21 7).toInt = y12.toInt := by rw [hy12]
  refine pj_X_of (fun r h => pj_T_pf iG11 rfl rfl rfl h) ?_
  show pj_X _ _ (pj_wv G11 123 7 (.int y12)) 99 [(0, .ref 123), (1, .ref 21)] [] _
  obtain ⟨G13, hG13⟩ : ∃ H, H = pj_wv G11 123 7 (.int y12) := ⟨_, rfl⟩
  have iG13 : pj_Inv G13 := by rw [hG13]; exact pj_Inv_wi iG11 (ci := 8) rfl (fun q hq => by cases hq)
  have kG13 : pj_kpt kc_68_123_21x G0 G13 := by rw [hG13]; exact pj_kpt_v kG11 rfl
  rw [← hG13]
  rw [pj_nm_e]
  refine pj_X_of (fun r h => pj_R_to (G13, 101, [(0, .ref 123), (1, .ref 21)], [.ref 21, .ref 123], 0, 0) 101 3 (fun _ => rfl) h) ?_
  refine pj_X_of (fun r h => pj_T_gi iG13 rfl rfl h) ?_
  show pj_X _ _ G13 104 [(0, .ref 123), (1, .ref 21)] [.int (pj_fi G13 21 8), .ref 123] _
  obtain ⟨y14, hy14⟩ : ∃ z : Int32, z = pj_fi G13 21 8 := ⟨_, rfl⟩
  rw [← hy14]
  rw [pj_nm_e]
  have ey14 : (pj_fi G13 21 8).toInt = y14.toInt := by rw [hy14]
  refine pj_X_of (fun r h => pj_T_pf iG13 rfl rfl rfl h) ?_
  show pj_X _ _ (pj_wv G13 123 8 (.int y14)) 107 [(0, .ref 123), (1, .ref 21)] [] _
  obtain ⟨G15, hG15⟩ : ∃ H, H = pj_wv G13 123 8 (.int y14) := ⟨_, rfl⟩
  have iG15 : pj_Inv G15 := by rw [hG15]; exact pj_Inv_wi iG13 (ci := 8) rfl (fun q hq => by cases hq)
  have kG15 : pj_kpt kc_68_123_21x G0 G15 := by rw [hG15]; exact pj_kpt_v kG13 rfl
  rw [← hG15]
  rw [pj_nm_e]
  have q16 : (pj_fi G15 123 0).toInt = y3.toInt := by rw [show pj_fi G15 123 0 = y3 from by rw [hG15, pj_fi_wv_ne _ _ _ _ _ _ (by decide)]; exact (by rw [hG13, pj_fi_wv_ne _ _ _ _ _ _ (by decide)]; exact (by rw [hG11, pj_fi_wc]; exact (by rw [hG10, pj_fi_wv_ne _ _ _ _ _ _ (by decide)]; exact (by rw [hG9, pj_fi_wc]; exact (by rw [hG8, pj_fi_wc]; exact (by rw [hG7, pj_fi_wc]; exact (by rw [hG6, pj_fi_wc]; exact (by rw [hG5]; exact pj_fi_wi hI.1 (ci := 8) rfl _))))))))]
  have q17 : (pj_fi G15 123 5).toInt = y4.toInt := by rw [show pj_fi G15 123 5 = y4 from by rw [hG15, pj_fi_wv_ne _ _ _ _ _ _ (by decide)]; exact (by rw [hG13, pj_fi_wv_ne _ _ _ _ _ _ (by decide)]; exact (by rw [hG11, pj_fi_wc]; exact (by rw [hG10]; exact pj_fi_wi iG9.1 (ci := 8) rfl _)))]
  have q18 : (pj_fi G15 21 0).toInt = y3.toInt := by rw [show pj_fi G15 21 0 = y3 from by rw [hG15, pj_fi_wv_ne _ _ _ _ _ _ (by decide)]; exact (by rw [hG13, pj_fi_wv_ne _ _ _ _ _ _ (by decide)]; exact (by rw [hG11, pj_fi_wc]; exact (by rw [hG10, pj_fi_wv_ne _ _ _ _ _ _ (by decide)]; exact (by rw [hG9, pj_fi_wc]; exact (by rw [hG8, pj_fi_wc]; exact (by rw [hG7, pj_fi_wc]; exact (by rw [hG6, pj_fi_wc]; exact (by rw [hG5, pj_fi_wv_ne _ _ _ _ _ _ (by decide)]; exact hy3.symm))))))))]
  have q19 : (pj_fi G15 21 5).toInt = y4.toInt := by rw [show pj_fi G15 21 5 = y4 from by rw [hG15, pj_fi_wv_ne _ _ _ _ _ _ (by decide)]; exact (by rw [hG13, pj_fi_wv_ne _ _ _ _ _ _ (by decide)]; exact (by rw [hG11, pj_fi_wc]; exact (by rw [hG10, pj_fi_wv_ne _ _ _ _ _ _ (by decide)]; exact (by rw [hG9, pj_fi_wc]; exact (by rw [hG8, pj_fi_wc]; exact (by rw [hG7, pj_fi_wc]; exact (by rw [hG6, pj_fi_wc]; exact (by rw [hG5, pj_fi_wv_ne _ _ _ _ _ _ (by decide)]; exact hy4.symm))))))))]
  exact pj_X_rt rfl rfl ⟨rfl, iG15, kG15, (fun H hH => by subst hH; exact (by omega)), rfl⟩
theorem fr_68_123_21x (G0 : pj_G) (hI : pj_Inv G0) : pj_Inv (F_68_123_21x G0) ∧ pj_kpt kc_68_123_21x G0 (F_68_123_21x G0) ∧ ((pj_fi (F_68_123_21x G0) 123 0).toInt = (pj_fi G0 21 0).toInt ∧ (pj_fi (F_68_123_21x G0) 123 5).toInt = (pj_fi G0 21 5).toInt) := by
  obtain ⟨v, G', -, -, i, j, x, e⟩ := ct_68_123_21x G0 hI 
  rw [← e]
  exact ⟨i, j, x _ rfl⟩
def kc_68_129_21x : pj_KT := ([(129, 0), (129, 5), (129, 7), (129, 8)], [129, 130, 131, 132, 133, 134], [130, 131, 132, 133, 134])
noncomputable def F_68_129_21x (G0 : pj_G) : pj_G := pj_nm (pj_fi G0 21 0) (fun y3 => pj_nm (pj_wv G0 129 0 (.int y3)) (fun G5 => pj_nm (pj_wc G5 22 130 6) (fun G6 => pj_nm (pj_wc G6 23 131 6) (fun G7 => pj_nm (pj_wc G7 24 132 6) (fun G8 => pj_nm (pj_wc G8 25 133 6) (fun G9 => pj_nm (pj_fi G0 21 5) (fun y4 => pj_nm (pj_wv G9 129 5 (.int y4)) (fun G10 => pj_nm (pj_wc G10 26 134 6) (fun G11 => pj_nm (pj_fi G11 21 7) (fun y12 => pj_nm (pj_wv G11 129 7 (.int y12)) (fun G13 => pj_nm (pj_fi G13 21 8) (fun y14 => pj_nm (pj_wv G13 129 8 (.int y14)) (fun G15 => G15)))))))))))))
theorem F_68_129_21x_e (G0 : pj_G) : F_68_129_21x G0 = pj_nm (pj_fi G0 21 0) (fun y3 => pj_nm (pj_wv G0 129 0 (.int y3)) (fun G5 => pj_nm (pj_wc G5 22 130 6) (fun G6 => pj_nm (pj_wc G6 23 131 6) (fun G7 => pj_nm (pj_wc G7 24 132 6) (fun G8 => pj_nm (pj_wc G8 25 133 6) (fun G9 => pj_nm (pj_fi G0 21 5) (fun y4 => pj_nm (pj_wv G9 129 5 (.int y4)) (fun G10 => pj_nm (pj_wc G10 26 134 6) (fun G11 => pj_nm (pj_fi G11 21 7) (fun y12 => pj_nm (pj_wv G11 129 7 (.int y12)) (fun G13 => pj_nm (pj_fi G13 21 8) (fun y14 => pj_nm (pj_wv G13 129 8 (.int y14)) (fun G15 => G15))))))))))))) := rfl
theorem ct_68_129_21x (G0 : pj_G) (hI : pj_Inv G0) : pj_Y 1 68 [.ref 129, .ref 21] G0 (fun v' G' => v' = none ∧ pj_Inv G' ∧ pj_kpt kc_68_129_21x G0 G' ∧ (∀ H, G0 = H → ((pj_fi G' 129 0).toInt = (pj_fi H 21 0).toInt ∧ (pj_fi G' 129 5).toInt = (pj_fi H 21 5).toInt)) ∧ (G' = F_68_129_21x G0)) := by
  have c0_ : ((Int8.ofInt 6).toInt32).toInt = 6 := by decide
  have c1_ : (Int32.ofInt 0).toInt = 0 := by decide
  refine pj_Y_X (M := pj_m68) rfl rfl (Nat.le_of_ble_eq_true rfl) ?_
  have hK : pj_kpt kc_68_129_21x G0 G0 := pj_kpt_r _ _
  show pj_X _ _ G0 0 [(0, .ref 129), (1, .ref 21)] [] _
  rw [F_68_129_21x_e]
  obtain ⟨y1, hy1⟩ : ∃ z : Int32, z = pj_fi G0 129 0 := ⟨_, rfl⟩
  have ey1 : (pj_fi G0 129 0).toInt = y1.toInt := by rw [hy1]
  have ry1 : (0 : Int) ≤ y1.toInt ∧ y1.toInt ≤ 6 := by rw [hy1]; exact hI.2.1 129 0 (0, 6) rfl
  obtain ⟨y2, hy2⟩ : ∃ z : Int32, z = pj_fi G0 129 5 := ⟨_, rfl⟩
  have ey2 : (pj_fi G0 129 5).toInt = y2.toInt := by rw [hy2]
  have ry2 : (0 : Int) ≤ y2.toInt ∧ y2.toInt ≤ 6 := by rw [hy2]; exact hI.2.1 129 5 (0, 6) rfl
  obtain ⟨y3, hy3⟩ : ∃ z : Int32, z = pj_fi G0 21 0 := ⟨_, rfl⟩
  have ey3 : (pj_fi G0 21 0).toInt = y3.toInt := by rw [hy3]
  have ry3 : (0 : Int) ≤ y3.toInt ∧ y3.toInt ≤ 6 := by rw [hy3]; exact hI.2.1 21 0 (0, 6) rfl
  obtain ⟨y4, hy4⟩ : ∃ z : Int32, z = pj_fi G0 21 5 := ⟨_, rfl⟩
  have ey4 : (pj_fi G0 21 5).toInt = y4.toInt := by rw [hy4]
  have ry4 : (0 : Int) ≤ y4.toInt ∧ y4.toInt ≤ 6 := by rw [hy4]; exact hI.2.1 21 5 (0, 6) rfl
  refine pj_X_of (fun r h => pj_R_to (G0, 2, [(0, .ref 129), (1, .ref 21)], [.ref 21, .ref 129], 0, 0) 2 3 (fun _ => rfl) h) ?_
  refine pj_X_of (fun r h => pj_T_gi hI rfl rfl h) ?_
  show pj_X _ _ G0 5 [(0, .ref 129), (1, .ref 21)] [.int (pj_fi G0 21 0), .ref 129] _
  rw [← hy3, pj_nm_e]
  refine pj_X_of (fun r h => pj_T_pf hI rfl rfl rfl h) ?_
  show pj_X _ _ (pj_wv G0 129 0 (.int y3)) 8 [(0, .ref 129), (1, .ref 21)] [] _
  obtain ⟨G5, hG5⟩ : ∃ H, H = pj_wv G0 129 0 (.int y3) := ⟨_, rfl⟩
  have iG5 : pj_Inv G5 := by rw [hG5]; exact pj_Inv_wi hI (ci := 8) rfl (fun q hq => by cases hq; exact ⟨by show (0 : Int) ≤ _; omega, by show _ ≤ (6 : Int); omega⟩)
  have kG5 : pj_kpt kc_68_129_21x G0 G5 := by rw [hG5]; exact pj_kpt_v hK rfl
  rw [← hG5]
  rw [pj_nm_e]
  refine pj_X_of (fun r h => pj_R_to (G5, 9, [(0, .ref 129), (1, .ref 21)], [.ref 21], 0, 0) 9 2 (fun _ => rfl) h) ?_
  refine pj_X_of (fun r h => pj_T_gr iG5 rfl rfl rfl h) ?_
  refine pj_X_of (fun r h => pj_R_to (G5, 14, [(0, .ref 129), (1, .ref 21)], [.ref 129, .int (Int32.ofInt 0), .ref 22], 0, 0) 14 3 (fun _ => rfl) h) ?_
  refine pj_X_of (fun r h => pj_T_gr iG5 rfl rfl rfl h) ?_
  refine pj_X_of (fun r h => pj_R_to (G5, 20, [(0, .ref 129), (1, .ref 21)], [.int ((Int8.ofInt 6).toInt32), .int (Int32.ofInt 0), .ref 130, .int (Int32.ofInt 0), .ref 22], 0, 0) 20 3 (fun _ => rfl) h) ?_
  refine pj_X_of (fun r h => pj_T_cp iG5 rfl rfl rfl rfl (by omega) (by omega) (by show _ = ((6 : Nat) : Int); omega) (Nat.le_of_ble_eq_true rfl) h) ?_
  show pj_X _ _ (pj_wc G5 22 130 6) 23 [(0, .ref 129), (1, .ref 21)] [] _
  obtain ⟨G6, hG6⟩ : ∃ H, H = pj_wc G5 22 130 6 := ⟨_, rfl⟩
  have iG6 : pj_Inv G6 := by rw [hG6]; exact pj_Inv_wc iG5 rfl rfl (fun q hq => by cases hq; exact ⟨rfl, by decide⟩) rfl
  have kG6 : pj_kpt kc_68_129_21x G0 G6 := by rw [hG6]; exact pj_kpt_c kG5 rfl
  rw [← hG6]
  rw [pj_nm_e]
  refine pj_X_of (fun r h => pj_R_to (G6, 24, [(0, .ref 129), (1, .ref 21)], [.ref 21], 0, 0) 24 2 (fun _ => rfl) h) ?_
  refine pj_X_of (fun r h => pj_T_gr iG6 rfl rfl rfl h) ?_
  refine pj_X_of (fun r h => pj_R_to (G6, 29, [(0, .ref 129), (1, .ref 21)], [.ref 129, .int (Int32.ofInt 0), .ref 23], 0, 0) 29 3 (fun _ => rfl) h) ?_
  refine pj_X_of (fun r h => pj_T_gr iG6 rfl rfl rfl h) ?_
  refine pj_X_of (fun r h => pj_R_to (G6, 35, [(0, .ref 129), (1, .ref 21)], [.int ((Int8.ofInt 6).toInt32), .int (Int32.ofInt 0), .ref 131, .int (Int32.ofInt 0), .ref 23], 0, 0) 35 3 (fun _ => rfl) h) ?_
  refine pj_X_of (fun r h => pj_T_cp iG6 rfl rfl rfl rfl (by omega) (by omega) (by show _ = ((6 : Nat) : Int); omega) (Nat.le_of_ble_eq_true rfl) h) ?_
  show pj_X _ _ (pj_wc G6 23 131 6) 38 [(0, .ref 129), (1, .ref 21)] [] _
  obtain ⟨G7, hG7⟩ : ∃ H, H = pj_wc G6 23 131 6 := ⟨_, rfl⟩
  have iG7 : pj_Inv G7 := by rw [hG7]; exact pj_Inv_wc iG6 rfl rfl (fun q hq => by cases hq) rfl
  have kG7 : pj_kpt kc_68_129_21x G0 G7 := by rw [hG7]; exact pj_kpt_c kG6 rfl
  rw [← hG7]
  rw [pj_nm_e]
  refine pj_X_of (fun r h => pj_R_to (G7, 39, [(0, .ref 129), (1, .ref 21)], [.ref 21], 0, 0) 39 2 (fun _ => rfl) h) ?_
  refine pj_X_of (fun r h => pj_T_gr iG7 rfl rfl rfl h) ?_
  refine pj_X_of (fun r h => pj_R_to (G7, 44, [(0, .ref 129), (1, .ref 21)], [.ref 129, .int (Int32.ofInt 0), .ref 24], 0, 0) 44 3 (fun _ => rfl) h) ?_
  refine pj_X_of (fun r h => pj_T_gr iG7 rfl rfl rfl h) ?_
  refine pj_X_of (fun r h => pj_R_to (G7, 50, [(0, .ref 129), (1, .ref 21)], [.int ((Int8.ofInt 6).toInt32), .int (Int32.ofInt 0), .ref 132, .int (Int32.ofInt 0), .ref 24], 0, 0) 50 3 (fun _ => rfl) h) ?_
  refine pj_X_of (fun r h => pj_T_cp iG7 rfl rfl rfl rfl (by omega) (by omega) (by show _ = ((6 : Nat) : Int); omega) (Nat.le_of_ble_eq_true rfl) h) ?_
  show pj_X _ _ (pj_wc G7 24 132 6) 53 [(0, .ref 129), (1, .ref 21)] [] _
  obtain ⟨G8, hG8⟩ : ∃ H, H = pj_wc G7 24 132 6 := ⟨_, rfl⟩
  have iG8 : pj_Inv G8 := by rw [hG8]; exact pj_Inv_wc iG7 rfl rfl (fun q hq => by cases hq) rfl
  have kG8 : pj_kpt kc_68_129_21x G0 G8 := by rw [hG8]; exact pj_kpt_c kG7 rfl
  rw [← hG8]
  rw [pj_nm_e]
  refine pj_X_of (fun r h => pj_R_to (G8, 54, [(0, .ref 129), (1, .ref 21)], [.ref 21], 0, 0) 54 2 (fun _ => rfl) h) ?_
  refine pj_X_of (fun r h => pj_T_gr iG8 rfl rfl rfl h) ?_
  refine pj_X_of (fun r h => pj_R_to (G8, 59, [(0, .ref 129), (1, .ref 21)], [.ref 129, .int (Int32.ofInt 0), .ref 25], 0, 0) 59 3 (fun _ => rfl) h) ?_
  refine pj_X_of (fun r h => pj_T_gr iG8 rfl rfl rfl h) ?_
  refine pj_X_of (fun r h => pj_R_to (G8, 65, [(0, .ref 129), (1, .ref 21)], [.int ((Int8.ofInt 6).toInt32), .int (Int32.ofInt 0), .ref 133, .int (Int32.ofInt 0), .ref 25], 0, 0) 65 3 (fun _ => rfl) h) ?_
  refine pj_X_of (fun r h => pj_T_cp iG8 rfl rfl rfl rfl (by omega) (by omega) (by show _ = ((6 : Nat) : Int); omega) (Nat.le_of_ble_eq_true rfl) h) ?_
  show pj_X _ _ (pj_wc G8 25 133 6) 68 [(0, .ref 129), (1, .ref 21)] [] _
  obtain ⟨G9, hG9⟩ : ∃ H, H = pj_wc G8 25 133 6 := ⟨_, rfl⟩
  have iG9 : pj_Inv G9 := by rw [hG9]; exact pj_Inv_wc iG8 rfl rfl (fun q hq => by cases hq) rfl
  have kG9 : pj_kpt kc_68_129_21x G0 G9 := by rw [hG9]; exact pj_kpt_c kG8 rfl
  rw [← hG9]
  rw [pj_nm_e]
  refine pj_X_of (fun r h => pj_R_to (G9, 70, [(0, .ref 129), (1, .ref 21)], [.ref 21, .ref 129], 0, 0) 70 3 (fun _ => rfl) h) ?_
  refine pj_X_of (fun r h => pj_T_gi iG9 rfl rfl h) ?_
  show pj_X _ _ G9 73 [(0, .ref 129), (1, .ref 21)] [.int (pj_fi G9 21 5), .ref 129] _
  rw [← hy4, pj_nm_e]
  rw [show pj_fi G9 21 5 = y4 from by rw [hG9, pj_fi_wc]; exact (by rw [hG8, pj_fi_wc]; exact (by rw [hG7, pj_fi_wc]; exact (by rw [hG6, pj_fi_wc]; exact (by rw [hG5, pj_fi_wv_ne _ _ _ _ _ _ (by decide)]; exact hy4.symm))))]
  refine pj_X_of (fun r h => pj_T_pf iG9 rfl rfl rfl h) ?_
  show pj_X _ _ (pj_wv G9 129 5 (.int y4)) 76 [(0, .ref 129), (1, .ref 21)] [] _
  obtain ⟨G10, hG10⟩ : ∃ H, H = pj_wv G9 129 5 (.int y4) := ⟨_, rfl⟩
  have iG10 : pj_Inv G10 := by rw [hG10]; exact pj_Inv_wi iG9 (ci := 8) rfl (fun q hq => by cases hq; exact ⟨by show (0 : Int) ≤ _; omega, by show _ ≤ (6 : Int); omega⟩)
  have kG10 : pj_kpt kc_68_129_21x G0 G10 := by rw [hG10]; exact pj_kpt_v kG9 rfl
  rw [← hG10]
  rw [pj_nm_e]
  refine pj_X_of (fun r h => pj_R_to (G10, 77, [(0, .ref 129), (1, .ref 21)], [.ref 21], 0, 0) 77 2 (fun _ => rfl) h) ?_
  refine pj_X_of (fun r h => pj_T_gr iG10 rfl rfl rfl h) ?_
  refine pj_X_of (fun r h => pj_R_to (G10, 82, [(0, .ref 129), (1, .ref 21)], [.ref 129, .int (Int32.ofInt 0), .ref 26], 0, 0) 82 3 (fun _ => rfl) h) ?_
  refine pj_X_of (fun r h => pj_T_gr iG10 rfl rfl rfl h) ?_
  refine pj_X_of (fun r h => pj_R_to (G10, 88, [(0, .ref 129), (1, .ref 21)], [.int ((Int8.ofInt 6).toInt32), .int (Int32.ofInt 0), .ref 134, .int (Int32.ofInt 0), .ref 26], 0, 0) 88 3 (fun _ => rfl) h) ?_
  refine pj_X_of (fun r h => pj_T_cp iG10 rfl rfl rfl rfl (by omega) (by omega) (by show _ = ((6 : Nat) : Int); omega) (Nat.le_of_ble_eq_true rfl) h) ?_
  show pj_X _ _ (pj_wc G10 26 134 6) 91 [(0, .ref 129), (1, .ref 21)] [] _
  obtain ⟨G11, hG11⟩ : ∃ H, H = pj_wc G10 26 134 6 := ⟨_, rfl⟩
  have iG11 : pj_Inv G11 := by rw [hG11]; exact pj_Inv_wc iG10 rfl rfl (fun q hq => by cases hq; exact ⟨rfl, by decide⟩) rfl
  have kG11 : pj_kpt kc_68_129_21x G0 G11 := by rw [hG11]; exact pj_kpt_c kG10 rfl
  rw [← hG11]
  rw [pj_nm_e]
  refine pj_X_of (fun r h => pj_R_to (G11, 93, [(0, .ref 129), (1, .ref 21)], [.ref 21, .ref 129], 0, 0) 93 3 (fun _ => rfl) h) ?_
  refine pj_X_of (fun r h => pj_T_gi iG11 rfl rfl h) ?_
  show pj_X _ _ G11 96 [(0, .ref 129), (1, .ref 21)] [.int (pj_fi G11 21 7), .ref 129] _
  obtain ⟨y12, hy12⟩ : ∃ z : Int32, z = pj_fi G11 21 7 := ⟨_, rfl⟩
  rw [← hy12]
  rw [pj_nm_e]
  have ey12 : (pj_fi G11 21 7).toInt = y12.toInt := by rw [hy12]
  refine pj_X_of (fun r h => pj_T_pf iG11 rfl rfl rfl h) ?_
  show pj_X _ _ (pj_wv G11 129 7 (.int y12)) 99 [(0, .ref 129), (1, .ref 21)] [] _
  obtain ⟨G13, hG13⟩ : ∃ H, H = pj_wv G11 129 7 (.int y12) := ⟨_, rfl⟩
  have iG13 : pj_Inv G13 := by rw [hG13]; exact pj_Inv_wi iG11 (ci := 8) rfl (fun q hq => by cases hq)
  have kG13 : pj_kpt kc_68_129_21x G0 G13 := by rw [hG13]; exact pj_kpt_v kG11 rfl
  rw [← hG13]
  rw [pj_nm_e]
  refine pj_X_of (fun r h => pj_R_to (G13, 101, [(0, .ref 129), (1, .ref 21)], [.ref 21, .ref 129], 0, 0) 101 3 (fun _ => rfl) h) ?_
  refine pj_X_of (fun r h => pj_T_gi iG13 rfl rfl h) ?_
  show pj_X _ _ G13 104 [(0, .ref 129), (1, .ref 21)] [.int (pj_fi G13 21 8), .ref 129] _
  obtain ⟨y14, hy14⟩ : ∃ z : Int32, z = pj_fi G13 21 8 := ⟨_, rfl⟩
  rw [← hy14]
  rw [pj_nm_e]
  have ey14 : (pj_fi G13 21 8).toInt = y14.toInt := by rw [hy14]
  refine pj_X_of (fun r h => pj_T_pf iG13 rfl rfl rfl h) ?_
  show pj_X _ _ (pj_wv G13 129 8 (.int y14)) 107 [(0, .ref 129), (1, .ref 21)] [] _
  obtain ⟨G15, hG15⟩ : ∃ H, H = pj_wv G13 129 8 (.int y14) := ⟨_, rfl⟩
  have iG15 : pj_Inv G15 := by rw [hG15]; exact pj_Inv_wi iG13 (ci := 8) rfl (fun q hq => by cases hq)
  have kG15 : pj_kpt kc_68_129_21x G0 G15 := by rw [hG15]; exact pj_kpt_v kG13 rfl
  rw [← hG15]
  rw [pj_nm_e]
  have q16 : (pj_fi G15 129 0).toInt = y3.toInt := by rw [show pj_fi G15 129 0 = y3 from by rw [hG15, pj_fi_wv_ne _ _ _ _ _ _ (by decide)]; exact (by rw [hG13, pj_fi_wv_ne _ _ _ _ _ _ (by decide)]; exact (by rw [hG11, pj_fi_wc]; exact (by rw [hG10, pj_fi_wv_ne _ _ _ _ _ _ (by decide)]; exact (by rw [hG9, pj_fi_wc]; exact (by rw [hG8, pj_fi_wc]; exact (by rw [hG7, pj_fi_wc]; exact (by rw [hG6, pj_fi_wc]; exact (by rw [hG5]; exact pj_fi_wi hI.1 (ci := 8) rfl _))))))))]
  have q17 : (pj_fi G15 129 5).toInt = y4.toInt := by rw [show pj_fi G15 129 5 = y4 from by rw [hG15, pj_fi_wv_ne _ _ _ _ _ _ (by decide)]; exact (by rw [hG13, pj_fi_wv_ne _ _ _ _ _ _ (by decide)]; exact (by rw [hG11, pj_fi_wc]; exact (by rw [hG10]; exact pj_fi_wi iG9.1 (ci := 8) rfl _)))]
  have q18 : (pj_fi G15 21 0).toInt = y3.toInt := by rw [show pj_fi G15 21 0 = y3 from by rw [hG15, pj_fi_wv_ne _ _ _ _ _ _ (by decide)]; exact (by rw [hG13, pj_fi_wv_ne _ _ _ _ _ _ (by decide)]; exact (by rw [hG11, pj_fi_wc]; exact (by rw [hG10, pj_fi_wv_ne _ _ _ _ _ _ (by decide)]; exact (by rw [hG9, pj_fi_wc]; exact (by rw [hG8, pj_fi_wc]; exact (by rw [hG7, pj_fi_wc]; exact (by rw [hG6, pj_fi_wc]; exact (by rw [hG5, pj_fi_wv_ne _ _ _ _ _ _ (by decide)]; exact hy3.symm))))))))]
  have q19 : (pj_fi G15 21 5).toInt = y4.toInt := by rw [show pj_fi G15 21 5 = y4 from by rw [hG15, pj_fi_wv_ne _ _ _ _ _ _ (by decide)]; exact (by rw [hG13, pj_fi_wv_ne _ _ _ _ _ _ (by decide)]; exact (by rw [hG11, pj_fi_wc]; exact (by rw [hG10, pj_fi_wv_ne _ _ _ _ _ _ (by decide)]; exact (by rw [hG9, pj_fi_wc]; exact (by rw [hG8, pj_fi_wc]; exact (by rw [hG7, pj_fi_wc]; exact (by rw [hG6, pj_fi_wc]; exact (by rw [hG5, pj_fi_wv_ne _ _ _ _ _ _ (by decide)]; exact hy4.symm))))))))]
  exact pj_X_rt rfl rfl ⟨rfl, iG15, kG15, (fun H hH => by subst hH; exact (by omega)), rfl⟩
theorem fr_68_129_21x (G0 : pj_G) (hI : pj_Inv G0) : pj_Inv (F_68_129_21x G0) ∧ pj_kpt kc_68_129_21x G0 (F_68_129_21x G0) ∧ ((pj_fi (F_68_129_21x G0) 129 0).toInt = (pj_fi G0 21 0).toInt ∧ (pj_fi (F_68_129_21x G0) 129 5).toInt = (pj_fi G0 21 5).toInt) := by
  obtain ⟨v, G', -, -, i, j, x, e⟩ := ct_68_129_21x G0 hI 
  rw [← e]
  exact ⟨i, j, x _ rfl⟩
def kc_68_135_21x : pj_KT := ([(135, 0), (135, 5), (135, 7), (135, 8)], [135, 136, 137, 138, 139, 140], [136, 137, 138, 139, 140])
noncomputable def F_68_135_21x (G0 : pj_G) : pj_G := pj_nm (pj_fi G0 21 0) (fun y3 => pj_nm (pj_wv G0 135 0 (.int y3)) (fun G5 => pj_nm (pj_wc G5 22 136 6) (fun G6 => pj_nm (pj_wc G6 23 137 6) (fun G7 => pj_nm (pj_wc G7 24 138 6) (fun G8 => pj_nm (pj_wc G8 25 139 6) (fun G9 => pj_nm (pj_fi G0 21 5) (fun y4 => pj_nm (pj_wv G9 135 5 (.int y4)) (fun G10 => pj_nm (pj_wc G10 26 140 6) (fun G11 => pj_nm (pj_fi G11 21 7) (fun y12 => pj_nm (pj_wv G11 135 7 (.int y12)) (fun G13 => pj_nm (pj_fi G13 21 8) (fun y14 => pj_nm (pj_wv G13 135 8 (.int y14)) (fun G15 => G15)))))))))))))
theorem F_68_135_21x_e (G0 : pj_G) : F_68_135_21x G0 = pj_nm (pj_fi G0 21 0) (fun y3 => pj_nm (pj_wv G0 135 0 (.int y3)) (fun G5 => pj_nm (pj_wc G5 22 136 6) (fun G6 => pj_nm (pj_wc G6 23 137 6) (fun G7 => pj_nm (pj_wc G7 24 138 6) (fun G8 => pj_nm (pj_wc G8 25 139 6) (fun G9 => pj_nm (pj_fi G0 21 5) (fun y4 => pj_nm (pj_wv G9 135 5 (.int y4)) (fun G10 => pj_nm (pj_wc G10 26 140 6) (fun G11 => pj_nm (pj_fi G11 21 7) (fun y12 => pj_nm (pj_wv G11 135 7 (.int y12)) (fun G13 => pj_nm (pj_fi G13 21 8) (fun y14 => pj_nm (pj_wv G13 135 8 (.int y14)) (fun G15 => G15))))))))))))) := rfl
theorem ct_68_135_21x (G0 : pj_G) (hI : pj_Inv G0) : pj_Y 1 68 [.ref 135, .ref 21] G0 (fun v' G' => v' = none ∧ pj_Inv G' ∧ pj_kpt kc_68_135_21x G0 G' ∧ (∀ H, G0 = H → ((pj_fi G' 135 0).toInt = (pj_fi H 21 0).toInt ∧ (pj_fi G' 135 5).toInt = (pj_fi H 21 5).toInt)) ∧ (G' = F_68_135_21x G0)) := by
  have c0_ : ((Int8.ofInt 6).toInt32).toInt = 6 := by decide
  have c1_ : (Int32.ofInt 0).toInt = 0 := by decide
  refine pj_Y_X (M := pj_m68) rfl rfl (Nat.le_of_ble_eq_true rfl) ?_
  have hK : pj_kpt kc_68_135_21x G0 G0 := pj_kpt_r _ _
  show pj_X _ _ G0 0 [(0, .ref 135), (1, .ref 21)] [] _
  rw [F_68_135_21x_e]
  obtain ⟨y1, hy1⟩ : ∃ z : Int32, z = pj_fi G0 135 0 := ⟨_, rfl⟩
  have ey1 : (pj_fi G0 135 0).toInt = y1.toInt := by rw [hy1]
  have ry1 : (0 : Int) ≤ y1.toInt ∧ y1.toInt ≤ 6 := by rw [hy1]; exact hI.2.1 135 0 (0, 6) rfl
  obtain ⟨y2, hy2⟩ : ∃ z : Int32, z = pj_fi G0 135 5 := ⟨_, rfl⟩
  have ey2 : (pj_fi G0 135 5).toInt = y2.toInt := by rw [hy2]
  have ry2 : (0 : Int) ≤ y2.toInt ∧ y2.toInt ≤ 6 := by rw [hy2]; exact hI.2.1 135 5 (0, 6) rfl
  obtain ⟨y3, hy3⟩ : ∃ z : Int32, z = pj_fi G0 21 0 := ⟨_, rfl⟩
  have ey3 : (pj_fi G0 21 0).toInt = y3.toInt := by rw [hy3]
  have ry3 : (0 : Int) ≤ y3.toInt ∧ y3.toInt ≤ 6 := by rw [hy3]; exact hI.2.1 21 0 (0, 6) rfl
  obtain ⟨y4, hy4⟩ : ∃ z : Int32, z = pj_fi G0 21 5 := ⟨_, rfl⟩
  have ey4 : (pj_fi G0 21 5).toInt = y4.toInt := by rw [hy4]
  have ry4 : (0 : Int) ≤ y4.toInt ∧ y4.toInt ≤ 6 := by rw [hy4]; exact hI.2.1 21 5 (0, 6) rfl
  refine pj_X_of (fun r h => pj_R_to (G0, 2, [(0, .ref 135), (1, .ref 21)], [.ref 21, .ref 135], 0, 0) 2 3 (fun _ => rfl) h) ?_
  refine pj_X_of (fun r h => pj_T_gi hI rfl rfl h) ?_
  show pj_X _ _ G0 5 [(0, .ref 135), (1, .ref 21)] [.int (pj_fi G0 21 0), .ref 135] _
  rw [← hy3, pj_nm_e]
  refine pj_X_of (fun r h => pj_T_pf hI rfl rfl rfl h) ?_
  show pj_X _ _ (pj_wv G0 135 0 (.int y3)) 8 [(0, .ref 135), (1, .ref 21)] [] _
  obtain ⟨G5, hG5⟩ : ∃ H, H = pj_wv G0 135 0 (.int y3) := ⟨_, rfl⟩
  have iG5 : pj_Inv G5 := by rw [hG5]; exact pj_Inv_wi hI (ci := 8) rfl (fun q hq => by cases hq; exact ⟨by show (0 : Int) ≤ _; omega, by show _ ≤ (6 : Int); omega⟩)
  have kG5 : pj_kpt kc_68_135_21x G0 G5 := by rw [hG5]; exact pj_kpt_v hK rfl
  rw [← hG5]
  rw [pj_nm_e]
  refine pj_X_of (fun r h => pj_R_to (G5, 9, [(0, .ref 135), (1, .ref 21)], [.ref 21], 0, 0) 9 2 (fun _ => rfl) h) ?_
  refine pj_X_of (fun r h => pj_T_gr iG5 rfl rfl rfl h) ?_
  refine pj_X_of (fun r h => pj_R_to (G5, 14, [(0, .ref 135), (1, .ref 21)], [.ref 135, .int (Int32.ofInt 0), .ref 22], 0, 0) 14 3 (fun _ => rfl) h) ?_
  refine pj_X_of (fun r h => pj_T_gr iG5 rfl rfl rfl h) ?_
  refine pj_X_of (fun r h => pj_R_to (G5, 20, [(0, .ref 135), (1, .ref 21)], [.int ((Int8.ofInt 6).toInt32), .int (Int32.ofInt 0), .ref 136, .int (Int32.ofInt 0), .ref 22], 0, 0) 20 3 (fun _ => rfl) h) ?_
  refine pj_X_of (fun r h => pj_T_cp iG5 rfl rfl rfl rfl (by omega) (by omega) (by show _ = ((6 : Nat) : Int); omega) (Nat.le_of_ble_eq_true rfl) h) ?_
  show pj_X _ _ (pj_wc G5 22 136 6) 23 [(0, .ref 135), (1, .ref 21)] [] _
  obtain ⟨G6, hG6⟩ : ∃ H, H = pj_wc G5 22 136 6 := ⟨_, rfl⟩
  have iG6 : pj_Inv G6 := by rw [hG6]; exact pj_Inv_wc iG5 rfl rfl (fun q hq => by cases hq; exact ⟨rfl, by decide⟩) rfl
  have kG6 : pj_kpt kc_68_135_21x G0 G6 := by rw [hG6]; exact pj_kpt_c kG5 rfl
  rw [← hG6]
  rw [pj_nm_e]
  refine pj_X_of (fun r h => pj_R_to (G6, 24, [(0, .ref 135), (1, .ref 21)], [.ref 21], 0, 0) 24 2 (fun _ => rfl) h) ?_
  refine pj_X_of (fun r h => pj_T_gr iG6 rfl rfl rfl h) ?_
  refine pj_X_of (fun r h => pj_R_to (G6, 29, [(0, .ref 135), (1, .ref 21)], [.ref 135, .int (Int32.ofInt 0), .ref 23], 0, 0) 29 3 (fun _ => rfl) h) ?_
  refine pj_X_of (fun r h => pj_T_gr iG6 rfl rfl rfl h) ?_
  refine pj_X_of (fun r h => pj_R_to (G6, 35, [(0, .ref 135), (1, .ref 21)], [.int ((Int8.ofInt 6).toInt32), .int (Int32.ofInt 0), .ref 137, .int (Int32.ofInt 0), .ref 23], 0, 0) 35 3 (fun _ => rfl) h) ?_
  refine pj_X_of (fun r h => pj_T_cp iG6 rfl rfl rfl rfl (by omega) (by omega) (by show _ = ((6 : Nat) : Int); omega) (Nat.le_of_ble_eq_true rfl) h) ?_
  show pj_X _ _ (pj_wc G6 23 137 6) 38 [(0, .ref 135), (1, .ref 21)] [] _
  obtain ⟨G7, hG7⟩ : ∃ H, H = pj_wc G6 23 137 6 := ⟨_, rfl⟩
  have iG7 : pj_Inv G7 := by rw [hG7]; exact pj_Inv_wc iG6 rfl rfl (fun q hq => by cases hq) rfl
  have kG7 : pj_kpt kc_68_135_21x G0 G7 := by rw [hG7]; exact pj_kpt_c kG6 rfl
  rw [← hG7]
  rw [pj_nm_e]
  refine pj_X_of (fun r h => pj_R_to (G7, 39, [(0, .ref 135), (1, .ref 21)], [.ref 21], 0, 0) 39 2 (fun _ => rfl) h) ?_
  refine pj_X_of (fun r h => pj_T_gr iG7 rfl rfl rfl h) ?_
  refine pj_X_of (fun r h => pj_R_to (G7, 44, [(0, .ref 135), (1, .ref 21)], [.ref 135, .int (Int32.ofInt 0), .ref 24], 0, 0) 44 3 (fun _ => rfl) h) ?_
  refine pj_X_of (fun r h => pj_T_gr iG7 rfl rfl rfl h) ?_
  refine pj_X_of (fun r h => pj_R_to (G7, 50, [(0, .ref 135), (1, .ref 21)], [.int ((Int8.ofInt 6).toInt32), .int (Int32.ofInt 0), .ref 138, .int (Int32.ofInt 0), .ref 24], 0, 0) 50 3 (fun _ => rfl) h) ?_
  refine pj_X_of (fun r h => pj_T_cp iG7 rfl rfl rfl rfl (by omega) (by omega) (by show _ = ((6 : Nat) : Int); omega) (Nat.le_of_ble_eq_true rfl) h) ?_
  show pj_X _ _ (pj_wc G7 24 138 6) 53 [(0, .ref 135), (1, .ref 21)] [] _
  obtain ⟨G8, hG8⟩ : ∃ H, H = pj_wc G7 24 138 6 := ⟨_, rfl⟩
  have iG8 : pj_Inv G8 := by rw [hG8]; exact pj_Inv_wc iG7 rfl rfl (fun q hq => by cases hq) rfl
  have kG8 : pj_kpt kc_68_135_21x G0 G8 := by rw [hG8]; exact pj_kpt_c kG7 rfl
  rw [← hG8]
  rw [pj_nm_e]
  refine pj_X_of (fun r h => pj_R_to (G8, 54, [(0, .ref 135), (1, .ref 21)], [.ref 21], 0, 0) 54 2 (fun _ => rfl) h) ?_
  refine pj_X_of (fun r h => pj_T_gr iG8 rfl rfl rfl h) ?_
  refine pj_X_of (fun r h => pj_R_to (G8, 59, [(0, .ref 135), (1, .ref 21)], [.ref 135, .int (Int32.ofInt 0), .ref 25], 0, 0) 59 3 (fun _ => rfl) h) ?_
  refine pj_X_of (fun r h => pj_T_gr iG8 rfl rfl rfl h) ?_
  refine pj_X_of (fun r h => pj_R_to (G8, 65, [(0, .ref 135), (1, .ref 21)], [.int ((Int8.ofInt 6).toInt32), .int (Int32.ofInt 0), .ref 139, .int (Int32.ofInt 0), .ref 25], 0, 0) 65 3 (fun _ => rfl) h) ?_
  refine pj_X_of (fun r h => pj_T_cp iG8 rfl rfl rfl rfl (by omega) (by omega) (by show _ = ((6 : Nat) : Int); omega) (Nat.le_of_ble_eq_true rfl) h) ?_
  show pj_X _ _ (pj_wc G8 25 139 6) 68 [(0, .ref 135), (1, .ref 21)] [] _
  obtain ⟨G9, hG9⟩ : ∃ H, H = pj_wc G8 25 139 6 := ⟨_, rfl⟩
  have iG9 : pj_Inv G9 := by rw [hG9]; exact pj_Inv_wc iG8 rfl rfl (fun q hq => by cases hq) rfl
  have kG9 : pj_kpt kc_68_135_21x G0 G9 := by rw [hG9]; exact pj_kpt_c kG8 rfl
  rw [← hG9]
  rw [pj_nm_e]
  refine pj_X_of (fun r h => pj_R_to (G9, 70, [(0, .ref 135), (1, .ref 21)], [.ref 21, .ref 135], 0, 0) 70 3 (fun _ => rfl) h) ?_
  refine pj_X_of (fun r h => pj_T_gi iG9 rfl rfl h) ?_
  show pj_X _ _ G9 73 [(0, .ref 135), (1, .ref 21)] [.int (pj_fi G9 21 5), .ref 135] _
  rw [← hy4, pj_nm_e]
  rw [show pj_fi G9 21 5 = y4 from by rw [hG9, pj_fi_wc]; exact (by rw [hG8, pj_fi_wc]; exact (by rw [hG7, pj_fi_wc]; exact (by rw [hG6, pj_fi_wc]; exact (by rw [hG5, pj_fi_wv_ne _ _ _ _ _ _ (by decide)]; exact hy4.symm))))]
  refine pj_X_of (fun r h => pj_T_pf iG9 rfl rfl rfl h) ?_
  show pj_X _ _ (pj_wv G9 135 5 (.int y4)) 76 [(0, .ref 135), (1, .ref 21)] [] _
  obtain ⟨G10, hG10⟩ : ∃ H, H = pj_wv G9 135 5 (.int y4) := ⟨_, rfl⟩
  have iG10 : pj_Inv G10 := by rw [hG10]; exact pj_Inv_wi iG9 (ci := 8) rfl (fun q hq => by cases hq; exact ⟨by show (0 : Int) ≤ _; omega, by show _ ≤ (6 : Int); omega⟩)
  have kG10 : pj_kpt kc_68_135_21x G0 G10 := by rw [hG10]; exact pj_kpt_v kG9 rfl
  rw [← hG10]
  rw [pj_nm_e]
  refine pj_X_of (fun r h => pj_R_to (G10, 77, [(0, .ref 135), (1, .ref 21)], [.ref 21], 0, 0) 77 2 (fun _ => rfl) h) ?_
  refine pj_X_of (fun r h => pj_T_gr iG10 rfl rfl rfl h) ?_
  refine pj_X_of (fun r h => pj_R_to (G10, 82, [(0, .ref 135), (1, .ref 21)], [.ref 135, .int (Int32.ofInt 0), .ref 26], 0, 0) 82 3 (fun _ => rfl) h) ?_
  refine pj_X_of (fun r h => pj_T_gr iG10 rfl rfl rfl h) ?_
  refine pj_X_of (fun r h => pj_R_to (G10, 88, [(0, .ref 135), (1, .ref 21)], [.int ((Int8.ofInt 6).toInt32), .int (Int32.ofInt 0), .ref 140, .int (Int32.ofInt 0), .ref 26], 0, 0) 88 3 (fun _ => rfl) h) ?_
  refine pj_X_of (fun r h => pj_T_cp iG10 rfl rfl rfl rfl (by omega) (by omega) (by show _ = ((6 : Nat) : Int); omega) (Nat.le_of_ble_eq_true rfl) h) ?_
  show pj_X _ _ (pj_wc G10 26 140 6) 91 [(0, .ref 135), (1, .ref 21)] [] _
  obtain ⟨G11, hG11⟩ : ∃ H, H = pj_wc G10 26 140 6 := ⟨_, rfl⟩
  have iG11 : pj_Inv G11 := by rw [hG11]; exact pj_Inv_wc iG10 rfl rfl (fun q hq => by cases hq; exact ⟨rfl, by decide⟩) rfl
  have kG11 : pj_kpt kc_68_135_21x G0 G11 := by rw [hG11]; exact pj_kpt_c kG10 rfl
  rw [← hG11]
  rw [pj_nm_e]
  refine pj_X_of (fun r h => pj_R_to (G11, 93, [(0, .ref 135), (1, .ref 21)], [.ref 21, .ref 135], 0, 0) 93 3 (fun _ => rfl) h) ?_
  refine pj_X_of (fun r h => pj_T_gi iG11 rfl rfl h) ?_
  show pj_X _ _ G11 96 [(0, .ref 135), (1, .ref 21)] [.int (pj_fi G11 21 7), .ref 135] _
  obtain ⟨y12, hy12⟩ : ∃ z : Int32, z = pj_fi G11 21 7 := ⟨_, rfl⟩
  rw [← hy12]
  rw [pj_nm_e]
  have ey12 : (pj_fi G11 21 7).toInt = y12.toInt := by rw [hy12]
  refine pj_X_of (fun r h => pj_T_pf iG11 rfl rfl rfl h) ?_
  show pj_X _ _ (pj_wv G11 135 7 (.int y12)) 99 [(0, .ref 135), (1, .ref 21)] [] _
  obtain ⟨G13, hG13⟩ : ∃ H, H = pj_wv G11 135 7 (.int y12) := ⟨_, rfl⟩
  have iG13 : pj_Inv G13 := by rw [hG13]; exact pj_Inv_wi iG11 (ci := 8) rfl (fun q hq => by cases hq)
  have kG13 : pj_kpt kc_68_135_21x G0 G13 := by rw [hG13]; exact pj_kpt_v kG11 rfl
  rw [← hG13]
  rw [pj_nm_e]
  refine pj_X_of (fun r h => pj_R_to (G13, 101, [(0, .ref 135), (1, .ref 21)], [.ref 21, .ref 135], 0, 0) 101 3 (fun _ => rfl) h) ?_
  refine pj_X_of (fun r h => pj_T_gi iG13 rfl rfl h) ?_
  show pj_X _ _ G13 104 [(0, .ref 135), (1, .ref 21)] [.int (pj_fi G13 21 8), .ref 135] _
  obtain ⟨y14, hy14⟩ : ∃ z : Int32, z = pj_fi G13 21 8 := ⟨_, rfl⟩
  rw [← hy14]
  rw [pj_nm_e]
  have ey14 : (pj_fi G13 21 8).toInt = y14.toInt := by rw [hy14]
  refine pj_X_of (fun r h => pj_T_pf iG13 rfl rfl rfl h) ?_
  show pj_X _ _ (pj_wv G13 135 8 (.int y14)) 107 [(0, .ref 135), (1, .ref 21)] [] _
  obtain ⟨G15, hG15⟩ : ∃ H, H = pj_wv G13 135 8 (.int y14) := ⟨_, rfl⟩
  have iG15 : pj_Inv G15 := by rw [hG15]; exact pj_Inv_wi iG13 (ci := 8) rfl (fun q hq => by cases hq)
  have kG15 : pj_kpt kc_68_135_21x G0 G15 := by rw [hG15]; exact pj_kpt_v kG13 rfl
  rw [← hG15]
  rw [pj_nm_e]
  have q16 : (pj_fi G15 135 0).toInt = y3.toInt := by rw [show pj_fi G15 135 0 = y3 from by rw [hG15, pj_fi_wv_ne _ _ _ _ _ _ (by decide)]; exact (by rw [hG13, pj_fi_wv_ne _ _ _ _ _ _ (by decide)]; exact (by rw [hG11, pj_fi_wc]; exact (by rw [hG10, pj_fi_wv_ne _ _ _ _ _ _ (by decide)]; exact (by rw [hG9, pj_fi_wc]; exact (by rw [hG8, pj_fi_wc]; exact (by rw [hG7, pj_fi_wc]; exact (by rw [hG6, pj_fi_wc]; exact (by rw [hG5]; exact pj_fi_wi hI.1 (ci := 8) rfl _))))))))]
  have q17 : (pj_fi G15 135 5).toInt = y4.toInt := by rw [show pj_fi G15 135 5 = y4 from by rw [hG15, pj_fi_wv_ne _ _ _ _ _ _ (by decide)]; exact (by rw [hG13, pj_fi_wv_ne _ _ _ _ _ _ (by decide)]; exact (by rw [hG11, pj_fi_wc]; exact (by rw [hG10]; exact pj_fi_wi iG9.1 (ci := 8) rfl _)))]
  have q18 : (pj_fi G15 21 0).toInt = y3.toInt := by rw [show pj_fi G15 21 0 = y3 from by rw [hG15, pj_fi_wv_ne _ _ _ _ _ _ (by decide)]; exact (by rw [hG13, pj_fi_wv_ne _ _ _ _ _ _ (by decide)]; exact (by rw [hG11, pj_fi_wc]; exact (by rw [hG10, pj_fi_wv_ne _ _ _ _ _ _ (by decide)]; exact (by rw [hG9, pj_fi_wc]; exact (by rw [hG8, pj_fi_wc]; exact (by rw [hG7, pj_fi_wc]; exact (by rw [hG6, pj_fi_wc]; exact (by rw [hG5, pj_fi_wv_ne _ _ _ _ _ _ (by decide)]; exact hy3.symm))))))))]
  have q19 : (pj_fi G15 21 5).toInt = y4.toInt := by rw [show pj_fi G15 21 5 = y4 from by rw [hG15, pj_fi_wv_ne _ _ _ _ _ _ (by decide)]; exact (by rw [hG13, pj_fi_wv_ne _ _ _ _ _ _ (by decide)]; exact (by rw [hG11, pj_fi_wc]; exact (by rw [hG10, pj_fi_wv_ne _ _ _ _ _ _ (by decide)]; exact (by rw [hG9, pj_fi_wc]; exact (by rw [hG8, pj_fi_wc]; exact (by rw [hG7, pj_fi_wc]; exact (by rw [hG6, pj_fi_wc]; exact (by rw [hG5, pj_fi_wv_ne _ _ _ _ _ _ (by decide)]; exact hy4.symm))))))))]
  exact pj_X_rt rfl rfl ⟨rfl, iG15, kG15, (fun H hH => by subst hH; exact (by omega)), rfl⟩
theorem fr_68_135_21x (G0 : pj_G) (hI : pj_Inv G0) : pj_Inv (F_68_135_21x G0) ∧ pj_kpt kc_68_135_21x G0 (F_68_135_21x G0) ∧ ((pj_fi (F_68_135_21x G0) 135 0).toInt = (pj_fi G0 21 0).toInt ∧ (pj_fi (F_68_135_21x G0) 135 5).toInt = (pj_fi G0 21 5).toInt) := by
  obtain ⟨v, G', -, -, i, j, x, e⟩ := ct_68_135_21x G0 hI 
  rw [← e]
  exact ⟨i, j, x _ rfl⟩
def kc_68_141_21x : pj_KT := ([(141, 0), (141, 5), (141, 7), (141, 8)], [141, 142, 143, 144, 145, 146], [142, 143, 144, 145, 146])
noncomputable def F_68_141_21x (G0 : pj_G) : pj_G := pj_nm (pj_fi G0 21 0) (fun y3 => pj_nm (pj_wv G0 141 0 (.int y3)) (fun G5 => pj_nm (pj_wc G5 22 142 6) (fun G6 => pj_nm (pj_wc G6 23 143 6) (fun G7 => pj_nm (pj_wc G7 24 144 6) (fun G8 => pj_nm (pj_wc G8 25 145 6) (fun G9 => pj_nm (pj_fi G0 21 5) (fun y4 => pj_nm (pj_wv G9 141 5 (.int y4)) (fun G10 => pj_nm (pj_wc G10 26 146 6) (fun G11 => pj_nm (pj_fi G11 21 7) (fun y12 => pj_nm (pj_wv G11 141 7 (.int y12)) (fun G13 => pj_nm (pj_fi G13 21 8) (fun y14 => pj_nm (pj_wv G13 141 8 (.int y14)) (fun G15 => G15)))))))))))))
theorem F_68_141_21x_e (G0 : pj_G) : F_68_141_21x G0 = pj_nm (pj_fi G0 21 0) (fun y3 => pj_nm (pj_wv G0 141 0 (.int y3)) (fun G5 => pj_nm (pj_wc G5 22 142 6) (fun G6 => pj_nm (pj_wc G6 23 143 6) (fun G7 => pj_nm (pj_wc G7 24 144 6) (fun G8 => pj_nm (pj_wc G8 25 145 6) (fun G9 => pj_nm (pj_fi G0 21 5) (fun y4 => pj_nm (pj_wv G9 141 5 (.int y4)) (fun G10 => pj_nm (pj_wc G10 26 146 6) (fun G11 => pj_nm (pj_fi G11 21 7) (fun y12 => pj_nm (pj_wv G11 141 7 (.int y12)) (fun G13 => pj_nm (pj_fi G13 21 8) (fun y14 => pj_nm (pj_wv G13 141 8 (.int y14)) (fun G15 => G15))))))))))))) := rfl
theorem ct_68_141_21x (G0 : pj_G) (hI : pj_Inv G0) : pj_Y 1 68 [.ref 141, .ref 21] G0 (fun v' G' => v' = none ∧ pj_Inv G' ∧ pj_kpt kc_68_141_21x G0 G' ∧ (∀ H, G0 = H → ((pj_fi G' 141 0).toInt = (pj_fi H 21 0).toInt ∧ (pj_fi G' 141 5).toInt = (pj_fi H 21 5).toInt)) ∧ (G' = F_68_141_21x G0)) := by
  have c0_ : ((Int8.ofInt 6).toInt32).toInt = 6 := by decide
  have c1_ : (Int32.ofInt 0).toInt = 0 := by decide
  refine pj_Y_X (M := pj_m68) rfl rfl (Nat.le_of_ble_eq_true rfl) ?_
  have hK : pj_kpt kc_68_141_21x G0 G0 := pj_kpt_r _ _
  show pj_X _ _ G0 0 [(0, .ref 141), (1, .ref 21)] [] _
  rw [F_68_141_21x_e]
  obtain ⟨y1, hy1⟩ : ∃ z : Int32, z = pj_fi G0 141 0 := ⟨_, rfl⟩
  have ey1 : (pj_fi G0 141 0).toInt = y1.toInt := by rw [hy1]
  have ry1 : (0 : Int) ≤ y1.toInt ∧ y1.toInt ≤ 6 := by rw [hy1]; exact hI.2.1 141 0 (0, 6) rfl
  obtain ⟨y2, hy2⟩ : ∃ z : Int32, z = pj_fi G0 141 5 := ⟨_, rfl⟩
  have ey2 : (pj_fi G0 141 5).toInt = y2.toInt := by rw [hy2]
  have ry2 : (0 : Int) ≤ y2.toInt ∧ y2.toInt ≤ 6 := by rw [hy2]; exact hI.2.1 141 5 (0, 6) rfl
  obtain ⟨y3, hy3⟩ : ∃ z : Int32, z = pj_fi G0 21 0 := ⟨_, rfl⟩
  have ey3 : (pj_fi G0 21 0).toInt = y3.toInt := by rw [hy3]
  have ry3 : (0 : Int) ≤ y3.toInt ∧ y3.toInt ≤ 6 := by rw [hy3]; exact hI.2.1 21 0 (0, 6) rfl
  obtain ⟨y4, hy4⟩ : ∃ z : Int32, z = pj_fi G0 21 5 := ⟨_, rfl⟩
  have ey4 : (pj_fi G0 21 5).toInt = y4.toInt := by rw [hy4]
  have ry4 : (0 : Int) ≤ y4.toInt ∧ y4.toInt ≤ 6 := by rw [hy4]; exact hI.2.1 21 5 (0, 6) rfl
  refine pj_X_of (fun r h => pj_R_to (G0, 2, [(0, .ref 141), (1, .ref 21)], [.ref 21, .ref 141], 0, 0) 2 3 (fun _ => rfl) h) ?_
  refine pj_X_of (fun r h => pj_T_gi hI rfl rfl h) ?_
  show pj_X _ _ G0 5 [(0, .ref 141), (1, .ref 21)] [.int (pj_fi G0 21 0), .ref 141] _
  rw [← hy3, pj_nm_e]
  refine pj_X_of (fun r h => pj_T_pf hI rfl rfl rfl h) ?_
  show pj_X _ _ (pj_wv G0 141 0 (.int y3)) 8 [(0, .ref 141), (1, .ref 21)] [] _
  obtain ⟨G5, hG5⟩ : ∃ H, H = pj_wv G0 141 0 (.int y3) := ⟨_, rfl⟩
  have iG5 : pj_Inv G5 := by rw [hG5]; exact pj_Inv_wi hI (ci := 8) rfl (fun q hq => by cases hq; exact ⟨by show (0 : Int) ≤ _; omega, by show _ ≤ (6 : Int); omega⟩)
  have kG5 : pj_kpt kc_68_141_21x G0 G5 := by rw [hG5]; exact pj_kpt_v hK rfl
  rw [← hG5]
  rw [pj_nm_e]
  refine pj_X_of (fun r h => pj_R_to (G5, 9, [(0, .ref 141), (1, .ref 21)], [.ref 21], 0, 0) 9 2 (fun _ => rfl) h) ?_
  refine pj_X_of (fun r h => pj_T_gr iG5 rfl rfl rfl h) ?_
  refine pj_X_of (fun r h => pj_R_to (G5, 14, [(0, .ref 141), (1, .ref 21)], [.ref 141, .int (Int32.ofInt 0), .ref 22], 0, 0) 14 3 (fun _ => rfl) h) ?_
  refine pj_X_of (fun r h => pj_T_gr iG5 rfl rfl rfl h) ?_
  refine pj_X_of (fun r h => pj_R_to (G5, 20, [(0, .ref 141), (1, .ref 21)], [.int ((Int8.ofInt 6).toInt32), .int (Int32.ofInt 0), .ref 142, .int (Int32.ofInt 0), .ref 22], 0, 0) 20 3 (fun _ => rfl) h) ?_
  refine pj_X_of (fun r h => pj_T_cp iG5 rfl rfl rfl rfl (by omega) (by omega) (by show _ = ((6 : Nat) : Int); omega) (Nat.le_of_ble_eq_true rfl) h) ?_
  show pj_X _ _ (pj_wc G5 22 142 6) 23 [(0, .ref 141), (1, .ref 21)] [] _
  obtain ⟨G6, hG6⟩ : ∃ H, H = pj_wc G5 22 142 6 := ⟨_, rfl⟩
  have iG6 : pj_Inv G6 := by rw [hG6]; exact pj_Inv_wc iG5 rfl rfl (fun q hq => by cases hq; exact ⟨rfl, by decide⟩) rfl
  have kG6 : pj_kpt kc_68_141_21x G0 G6 := by rw [hG6]; exact pj_kpt_c kG5 rfl
  rw [← hG6]
  rw [pj_nm_e]
  refine pj_X_of (fun r h => pj_R_to (G6, 24, [(0, .ref 141), (1, .ref 21)], [.ref 21], 0, 0) 24 2 (fun _ => rfl) h) ?_
  refine pj_X_of (fun r h => pj_T_gr iG6 rfl rfl rfl h) ?_
  refine pj_X_of (fun r h => pj_R_to (G6, 29, [(0, .ref 141), (1, .ref 21)], [.ref 141, .int (Int32.ofInt 0), .ref 23], 0, 0) 29 3 (fun _ => rfl) h) ?_
  refine pj_X_of (fun r h => pj_T_gr iG6 rfl rfl rfl h) ?_
  refine pj_X_of (fun r h => pj_R_to (G6, 35, [(0, .ref 141), (1, .ref 21)], [.int ((Int8.ofInt 6).toInt32), .int (Int32.ofInt 0), .ref 143, .int (Int32.ofInt 0), .ref 23], 0, 0) 35 3 (fun _ => rfl) h) ?_
  refine pj_X_of (fun r h => pj_T_cp iG6 rfl rfl rfl rfl (by omega) (by omega) (by show _ = ((6 : Nat) : Int); omega) (Nat.le_of_ble_eq_true rfl) h) ?_
  show pj_X _ _ (pj_wc G6 23 143 6) 38 [(0, .ref 141), (1, .ref 21)] [] _
  obtain ⟨G7, hG7⟩ : ∃ H, H = pj_wc G6 23 143 6 := ⟨_, rfl⟩
  have iG7 : pj_Inv G7 := by rw [hG7]; exact pj_Inv_wc iG6 rfl rfl (fun q hq => by cases hq) rfl
  have kG7 : pj_kpt kc_68_141_21x G0 G7 := by rw [hG7]; exact pj_kpt_c kG6 rfl
  rw [← hG7]
  rw [pj_nm_e]
  refine pj_X_of (fun r h => pj_R_to (G7, 39, [(0, .ref 141), (1, .ref 21)], [.ref 21], 0, 0) 39 2 (fun _ => rfl) h) ?_
  refine pj_X_of (fun r h => pj_T_gr iG7 rfl rfl rfl h) ?_
  refine pj_X_of (fun r h => pj_R_to (G7, 44, [(0, .ref 141), (1, .ref 21)], [.ref 141, .int (Int32.ofInt 0), .ref 24], 0, 0) 44 3 (fun _ => rfl) h) ?_
  refine pj_X_of (fun r h => pj_T_gr iG7 rfl rfl rfl h) ?_
  refine pj_X_of (fun r h => pj_R_to (G7, 50, [(0, .ref 141), (1, .ref 21)], [.int ((Int8.ofInt 6).toInt32), .int (Int32.ofInt 0), .ref 144, .int (Int32.ofInt 0), .ref 24], 0, 0) 50 3 (fun _ => rfl) h) ?_
  refine pj_X_of (fun r h => pj_T_cp iG7 rfl rfl rfl rfl (by omega) (by omega) (by show _ = ((6 : Nat) : Int); omega) (Nat.le_of_ble_eq_true rfl) h) ?_
  show pj_X _ _ (pj_wc G7 24 144 6) 53 [(0, .ref 141), (1, .ref 21)] [] _
  obtain ⟨G8, hG8⟩ : ∃ H, H = pj_wc G7 24 144 6 := ⟨_, rfl⟩
  have iG8 : pj_Inv G8 := by rw [hG8]; exact pj_Inv_wc iG7 rfl rfl (fun q hq => by cases hq) rfl
  have kG8 : pj_kpt kc_68_141_21x G0 G8 := by rw [hG8]; exact pj_kpt_c kG7 rfl
  rw [← hG8]
  rw [pj_nm_e]
  refine pj_X_of (fun r h => pj_R_to (G8, 54, [(0, .ref 141), (1, .ref 21)], [.ref 21], 0, 0) 54 2 (fun _ => rfl) h) ?_
  refine pj_X_of (fun r h => pj_T_gr iG8 rfl rfl rfl h) ?_
  refine pj_X_of (fun r h => pj_R_to (G8, 59, [(0, .ref 141), (1, .ref 21)], [.ref 141, .int (Int32.ofInt 0), .ref 25], 0, 0) 59 3 (fun _ => rfl) h) ?_
  refine pj_X_of (fun r h => pj_T_gr iG8 rfl rfl rfl h) ?_
  refine pj_X_of (fun r h => pj_R_to (G8, 65, [(0, .ref 141), (1, .ref 21)], [.int ((Int8.ofInt 6).toInt32), .int (Int32.ofInt 0), .ref 145, .int (Int32.ofInt 0), .ref 25], 0, 0) 65 3 (fun _ => rfl) h) ?_
  refine pj_X_of (fun r h => pj_T_cp iG8 rfl rfl rfl rfl (by omega) (by omega) (by show _ = ((6 : Nat) : Int); omega) (Nat.le_of_ble_eq_true rfl) h) ?_
  show pj_X _ _ (pj_wc G8 25 145 6) 68 [(0, .ref 141), (1, .ref 21)] [] _
  obtain ⟨G9, hG9⟩ : ∃ H, H = pj_wc G8 25 145 6 := ⟨_, rfl⟩
  have iG9 : pj_Inv G9 := by rw [hG9]; exact pj_Inv_wc iG8 rfl rfl (fun q hq => by cases hq) rfl
  have kG9 : pj_kpt kc_68_141_21x G0 G9 := by rw [hG9]; exact pj_kpt_c kG8 rfl
  rw [← hG9]
  rw [pj_nm_e]
  refine pj_X_of (fun r h => pj_R_to (G9, 70, [(0, .ref 141), (1, .ref 21)], [.ref 21, .ref 141], 0, 0) 70 3 (fun _ => rfl) h) ?_
  refine pj_X_of (fun r h => pj_T_gi iG9 rfl rfl h) ?_
  show pj_X _ _ G9 73 [(0, .ref 141), (1, .ref 21)] [.int (pj_fi G9 21 5), .ref 141] _
  rw [← hy4, pj_nm_e]
  rw [show pj_fi G9 21 5 = y4 from by rw [hG9, pj_fi_wc]; exact (by rw [hG8, pj_fi_wc]; exact (by rw [hG7, pj_fi_wc]; exact (by rw [hG6, pj_fi_wc]; exact (by rw [hG5, pj_fi_wv_ne _ _ _ _ _ _ (by decide)]; exact hy4.symm))))]
  refine pj_X_of (fun r h => pj_T_pf iG9 rfl rfl rfl h) ?_
  show pj_X _ _ (pj_wv G9 141 5 (.int y4)) 76 [(0, .ref 141), (1, .ref 21)] [] _
  obtain ⟨G10, hG10⟩ : ∃ H, H = pj_wv G9 141 5 (.int y4) := ⟨_, rfl⟩
  have iG10 : pj_Inv G10 := by rw [hG10]; exact pj_Inv_wi iG9 (ci := 8) rfl (fun q hq => by cases hq; exact ⟨by show (0 : Int) ≤ _; omega, by show _ ≤ (6 : Int); omega⟩)
  have kG10 : pj_kpt kc_68_141_21x G0 G10 := by rw [hG10]; exact pj_kpt_v kG9 rfl
  rw [← hG10]
  rw [pj_nm_e]
  refine pj_X_of (fun r h => pj_R_to (G10, 77, [(0, .ref 141), (1, .ref 21)], [.ref 21], 0, 0) 77 2 (fun _ => rfl) h) ?_
  refine pj_X_of (fun r h => pj_T_gr iG10 rfl rfl rfl h) ?_
  refine pj_X_of (fun r h => pj_R_to (G10, 82, [(0, .ref 141), (1, .ref 21)], [.ref 141, .int (Int32.ofInt 0), .ref 26], 0, 0) 82 3 (fun _ => rfl) h) ?_
  refine pj_X_of (fun r h => pj_T_gr iG10 rfl rfl rfl h) ?_
  refine pj_X_of (fun r h => pj_R_to (G10, 88, [(0, .ref 141), (1, .ref 21)], [.int ((Int8.ofInt 6).toInt32), .int (Int32.ofInt 0), .ref 146, .int (Int32.ofInt 0), .ref 26], 0, 0) 88 3 (fun _ => rfl) h) ?_
  refine pj_X_of (fun r h => pj_T_cp iG10 rfl rfl rfl rfl (by omega) (by omega) (by show _ = ((6 : Nat) : Int); omega) (Nat.le_of_ble_eq_true rfl) h) ?_
  show pj_X _ _ (pj_wc G10 26 146 6) 91 [(0, .ref 141), (1, .ref 21)] [] _
  obtain ⟨G11, hG11⟩ : ∃ H, H = pj_wc G10 26 146 6 := ⟨_, rfl⟩
  have iG11 : pj_Inv G11 := by rw [hG11]; exact pj_Inv_wc iG10 rfl rfl (fun q hq => by cases hq; exact ⟨rfl, by decide⟩) rfl
  have kG11 : pj_kpt kc_68_141_21x G0 G11 := by rw [hG11]; exact pj_kpt_c kG10 rfl
  rw [← hG11]
  rw [pj_nm_e]
  refine pj_X_of (fun r h => pj_R_to (G11, 93, [(0, .ref 141), (1, .ref 21)], [.ref 21, .ref 141], 0, 0) 93 3 (fun _ => rfl) h) ?_
  refine pj_X_of (fun r h => pj_T_gi iG11 rfl rfl h) ?_
  show pj_X _ _ G11 96 [(0, .ref 141), (1, .ref 21)] [.int (pj_fi G11 21 7), .ref 141] _
  obtain ⟨y12, hy12⟩ : ∃ z : Int32, z = pj_fi G11 21 7 := ⟨_, rfl⟩
  rw [← hy12]
  rw [pj_nm_e]
  have ey12 : (pj_fi G11 21 7).toInt = y12.toInt := by rw [hy12]
  refine pj_X_of (fun r h => pj_T_pf iG11 rfl rfl rfl h) ?_
  show pj_X _ _ (pj_wv G11 141 7 (.int y12)) 99 [(0, .ref 141), (1, .ref 21)] [] _
  obtain ⟨G13, hG13⟩ : ∃ H, H = pj_wv G11 141 7 (.int y12) := ⟨_, rfl⟩
  have iG13 : pj_Inv G13 := by rw [hG13]; exact pj_Inv_wi iG11 (ci := 8) rfl (fun q hq => by cases hq)
  have kG13 : pj_kpt kc_68_141_21x G0 G13 := by rw [hG13]; exact pj_kpt_v kG11 rfl
  rw [← hG13]
  rw [pj_nm_e]
  refine pj_X_of (fun r h => pj_R_to (G13, 101, [(0, .ref 141), (1, .ref 21)], [.ref 21, .ref 141], 0, 0) 101 3 (fun _ => rfl) h) ?_
  refine pj_X_of (fun r h => pj_T_gi iG13 rfl rfl h) ?_
  show pj_X _ _ G13 104 [(0, .ref 141), (1, .ref 21)] [.int (pj_fi G13 21 8), .ref 141] _
  obtain ⟨y14, hy14⟩ : ∃ z : Int32, z = pj_fi G13 21 8 := ⟨_, rfl⟩
  rw [← hy14]
  rw [pj_nm_e]
  have ey14 : (pj_fi G13 21 8).toInt = y14.toInt := by rw [hy14]
  refine pj_X_of (fun r h => pj_T_pf iG13 rfl rfl rfl h) ?_
  show pj_X _ _ (pj_wv G13 141 8 (.int y14)) 107 [(0, .ref 141), (1, .ref 21)] [] _
  obtain ⟨G15, hG15⟩ : ∃ H, H = pj_wv G13 141 8 (.int y14) := ⟨_, rfl⟩
  have iG15 : pj_Inv G15 := by rw [hG15]; exact pj_Inv_wi iG13 (ci := 8) rfl (fun q hq => by cases hq)
  have kG15 : pj_kpt kc_68_141_21x G0 G15 := by rw [hG15]; exact pj_kpt_v kG13 rfl
  rw [← hG15]
  rw [pj_nm_e]
  have q16 : (pj_fi G15 141 0).toInt = y3.toInt := by rw [show pj_fi G15 141 0 = y3 from by rw [hG15, pj_fi_wv_ne _ _ _ _ _ _ (by decide)]; exact (by rw [hG13, pj_fi_wv_ne _ _ _ _ _ _ (by decide)]; exact (by rw [hG11, pj_fi_wc]; exact (by rw [hG10, pj_fi_wv_ne _ _ _ _ _ _ (by decide)]; exact (by rw [hG9, pj_fi_wc]; exact (by rw [hG8, pj_fi_wc]; exact (by rw [hG7, pj_fi_wc]; exact (by rw [hG6, pj_fi_wc]; exact (by rw [hG5]; exact pj_fi_wi hI.1 (ci := 8) rfl _))))))))]
  have q17 : (pj_fi G15 141 5).toInt = y4.toInt := by rw [show pj_fi G15 141 5 = y4 from by rw [hG15, pj_fi_wv_ne _ _ _ _ _ _ (by decide)]; exact (by rw [hG13, pj_fi_wv_ne _ _ _ _ _ _ (by decide)]; exact (by rw [hG11, pj_fi_wc]; exact (by rw [hG10]; exact pj_fi_wi iG9.1 (ci := 8) rfl _)))]
  have q18 : (pj_fi G15 21 0).toInt = y3.toInt := by rw [show pj_fi G15 21 0 = y3 from by rw [hG15, pj_fi_wv_ne _ _ _ _ _ _ (by decide)]; exact (by rw [hG13, pj_fi_wv_ne _ _ _ _ _ _ (by decide)]; exact (by rw [hG11, pj_fi_wc]; exact (by rw [hG10, pj_fi_wv_ne _ _ _ _ _ _ (by decide)]; exact (by rw [hG9, pj_fi_wc]; exact (by rw [hG8, pj_fi_wc]; exact (by rw [hG7, pj_fi_wc]; exact (by rw [hG6, pj_fi_wc]; exact (by rw [hG5, pj_fi_wv_ne _ _ _ _ _ _ (by decide)]; exact hy3.symm))))))))]
  have q19 : (pj_fi G15 21 5).toInt = y4.toInt := by rw [show pj_fi G15 21 5 = y4 from by rw [hG15, pj_fi_wv_ne _ _ _ _ _ _ (by decide)]; exact (by rw [hG13, pj_fi_wv_ne _ _ _ _ _ _ (by decide)]; exact (by rw [hG11, pj_fi_wc]; exact (by rw [hG10, pj_fi_wv_ne _ _ _ _ _ _ (by decide)]; exact (by rw [hG9, pj_fi_wc]; exact (by rw [hG8, pj_fi_wc]; exact (by rw [hG7, pj_fi_wc]; exact (by rw [hG6, pj_fi_wc]; exact (by rw [hG5, pj_fi_wv_ne _ _ _ _ _ _ (by decide)]; exact hy4.symm))))))))]
  exact pj_X_rt rfl rfl ⟨rfl, iG15, kG15, (fun H hH => by subst hH; exact (by omega)), rfl⟩
theorem fr_68_141_21x (G0 : pj_G) (hI : pj_Inv G0) : pj_Inv (F_68_141_21x G0) ∧ pj_kpt kc_68_141_21x G0 (F_68_141_21x G0) ∧ ((pj_fi (F_68_141_21x G0) 141 0).toInt = (pj_fi G0 21 0).toInt ∧ (pj_fi (F_68_141_21x G0) 141 5).toInt = (pj_fi G0 21 5).toInt) := by
  obtain ⟨v, G', -, -, i, j, x, e⟩ := ct_68_141_21x G0 hI 
  rw [← e]
  exact ⟨i, j, x _ rfl⟩
def kc_68_147_21x : pj_KT := ([(147, 0), (147, 5), (147, 7), (147, 8)], [147, 148, 149, 150, 151, 152], [148, 149, 150, 151, 152])
noncomputable def F_68_147_21x (G0 : pj_G) : pj_G := pj_nm (pj_fi G0 21 0) (fun y3 => pj_nm (pj_wv G0 147 0 (.int y3)) (fun G5 => pj_nm (pj_wc G5 22 148 6) (fun G6 => pj_nm (pj_wc G6 23 149 6) (fun G7 => pj_nm (pj_wc G7 24 150 6) (fun G8 => pj_nm (pj_wc G8 25 151 6) (fun G9 => pj_nm (pj_fi G0 21 5) (fun y4 => pj_nm (pj_wv G9 147 5 (.int y4)) (fun G10 => pj_nm (pj_wc G10 26 152 6) (fun G11 => pj_nm (pj_fi G11 21 7) (fun y12 => pj_nm (pj_wv G11 147 7 (.int y12)) (fun G13 => pj_nm (pj_fi G13 21 8) (fun y14 => pj_nm (pj_wv G13 147 8 (.int y14)) (fun G15 => G15)))))))))))))
theorem F_68_147_21x_e (G0 : pj_G) : F_68_147_21x G0 = pj_nm (pj_fi G0 21 0) (fun y3 => pj_nm (pj_wv G0 147 0 (.int y3)) (fun G5 => pj_nm (pj_wc G5 22 148 6) (fun G6 => pj_nm (pj_wc G6 23 149 6) (fun G7 => pj_nm (pj_wc G7 24 150 6) (fun G8 => pj_nm (pj_wc G8 25 151 6) (fun G9 => pj_nm (pj_fi G0 21 5) (fun y4 => pj_nm (pj_wv G9 147 5 (.int y4)) (fun G10 => pj_nm (pj_wc G10 26 152 6) (fun G11 => pj_nm (pj_fi G11 21 7) (fun y12 => pj_nm (pj_wv G11 147 7 (.int y12)) (fun G13 => pj_nm (pj_fi G13 21 8) (fun y14 => pj_nm (pj_wv G13 147 8 (.int y14)) (fun G15 => G15))))))))))))) := rfl
theorem ct_68_147_21x (G0 : pj_G) (hI : pj_Inv G0) : pj_Y 1 68 [.ref 147, .ref 21] G0 (fun v' G' => v' = none ∧ pj_Inv G' ∧ pj_kpt kc_68_147_21x G0 G' ∧ (∀ H, G0 = H → ((pj_fi G' 147 0).toInt = (pj_fi H 21 0).toInt ∧ (pj_fi G' 147 5).toInt = (pj_fi H 21 5).toInt)) ∧ (G' = F_68_147_21x G0)) := by
  have c0_ : ((Int8.ofInt 6).toInt32).toInt = 6 := by decide
  have c1_ : (Int32.ofInt 0).toInt = 0 := by decide
  refine pj_Y_X (M := pj_m68) rfl rfl (Nat.le_of_ble_eq_true rfl) ?_
  have hK : pj_kpt kc_68_147_21x G0 G0 := pj_kpt_r _ _
  show pj_X _ _ G0 0 [(0, .ref 147), (1, .ref 21)] [] _
  rw [F_68_147_21x_e]
  obtain ⟨y1, hy1⟩ : ∃ z : Int32, z = pj_fi G0 147 0 := ⟨_, rfl⟩
  have ey1 : (pj_fi G0 147 0).toInt = y1.toInt := by rw [hy1]
  have ry1 : (0 : Int) ≤ y1.toInt ∧ y1.toInt ≤ 6 := by rw [hy1]; exact hI.2.1 147 0 (0, 6) rfl
  obtain ⟨y2, hy2⟩ : ∃ z : Int32, z = pj_fi G0 147 5 := ⟨_, rfl⟩
  have ey2 : (pj_fi G0 147 5).toInt = y2.toInt := by rw [hy2]
  have ry2 : (0 : Int) ≤ y2.toInt ∧ y2.toInt ≤ 6 := by rw [hy2]; exact hI.2.1 147 5 (0, 6) rfl
  obtain ⟨y3, hy3⟩ : ∃ z : Int32, z = pj_fi G0 21 0 := ⟨_, rfl⟩
  have ey3 : (pj_fi G0 21 0).toInt = y3.toInt := by rw [hy3]
  have ry3 : (0 : Int) ≤ y3.toInt ∧ y3.toInt ≤ 6 := by rw [hy3]; exact hI.2.1 21 0 (0, 6) rfl
  obtain ⟨y4, hy4⟩ : ∃ z : Int32, z = pj_fi G0 21 5 := ⟨_, rfl⟩
  have ey4 : (pj_fi G0 21 5).toInt = y4.toInt := by rw [hy4]
  have ry4 : (0 : Int) ≤ y4.toInt ∧ y4.toInt ≤ 6 := by rw [hy4]; exact hI.2.1 21 5 (0, 6) rfl
  refine pj_X_of (fun r h => pj_R_to (G0, 2, [(0, .ref 147), (1, .ref 21)], [.ref 21, .ref 147], 0, 0) 2 3 (fun _ => rfl) h) ?_
  refine pj_X_of (fun r h => pj_T_gi hI rfl rfl h) ?_
  show pj_X _ _ G0 5 [(0, .ref 147), (1, .ref 21)] [.int (pj_fi G0 21 0), .ref 147] _
  rw [← hy3, pj_nm_e]
  refine pj_X_of (fun r h => pj_T_pf hI rfl rfl rfl h) ?_
  show pj_X _ _ (pj_wv G0 147 0 (.int y3)) 8 [(0, .ref 147), (1, .ref 21)] [] _
  obtain ⟨G5, hG5⟩ : ∃ H, H = pj_wv G0 147 0 (.int y3) := ⟨_, rfl⟩
  have iG5 : pj_Inv G5 := by rw [hG5]; exact pj_Inv_wi hI (ci := 8) rfl (fun q hq => by cases hq; exact ⟨by show (0 : Int) ≤ _; omega, by show _ ≤ (6 : Int); omega⟩)
  have kG5 : pj_kpt kc_68_147_21x G0 G5 := by rw [hG5]; exact pj_kpt_v hK rfl
  rw [← hG5]
  rw [pj_nm_e]
  refine pj_X_of (fun r h => pj_R_to (G5, 9, [(0, .ref 147), (1, .ref 21)], [.ref 21], 0, 0) 9 2 (fun _ => rfl) h) ?_
  refine pj_X_of (fun r h => pj_T_gr iG5 rfl rfl rfl h) ?_
  refine pj_X_of (fun r h => pj_R_to (G5, 14, [(0, .ref 147), (1, .ref 21)], [.ref 147, .int (Int32.ofInt 0), .ref 22], 0, 0) 14 3 (fun _ => rfl) h) ?_
  refine pj_X_of (fun r h => pj_T_gr iG5 rfl rfl rfl h) ?_
  refine pj_X_of (fun r h => pj_R_to (G5, 20, [(0, .ref 147), (1, .ref 21)], [.int ((Int8.ofInt 6).toInt32), .int (Int32.ofInt 0), .ref 148, .int (Int32.ofInt 0), .ref 22], 0, 0) 20 3 (fun _ => rfl) h) ?_
  refine pj_X_of (fun r h => pj_T_cp iG5 rfl rfl rfl rfl (by omega) (by omega) (by show _ = ((6 : Nat) : Int); omega) (Nat.le_of_ble_eq_true rfl) h) ?_
  show pj_X _ _ (pj_wc G5 22 148 6) 23 [(0, .ref 147), (1, .ref 21)] [] _
  obtain ⟨G6, hG6⟩ : ∃ H, H = pj_wc G5 22 148 6 := ⟨_, rfl⟩
  have iG6 : pj_Inv G6 := by rw [hG6]; exact pj_Inv_wc iG5 rfl rfl (fun q hq => by cases hq; exact ⟨rfl, by decide⟩) rfl
  have kG6 : pj_kpt kc_68_147_21x G0 G6 := by rw [hG6]; exact pj_kpt_c kG5 rfl
  rw [← hG6]
  rw [pj_nm_e]
  refine pj_X_of (fun r h => pj_R_to (G6, 24, [(0, .ref 147), (1, .ref 21)], [.ref 21], 0, 0) 24 2 (fun _ => rfl) h) ?_
  refine pj_X_of (fun r h => pj_T_gr iG6 rfl rfl rfl h) ?_
  refine pj_X_of (fun r h => pj_R_to (G6, 29, [(0, .ref 147), (1, .ref 21)], [.ref 147, .int (Int32.ofInt 0), .ref 23], 0, 0) 29 3 (fun _ => rfl) h) ?_
  refine pj_X_of (fun r h => pj_T_gr iG6 rfl rfl rfl h) ?_
  refine pj_X_of (fun r h => pj_R_to (G6, 35, [(0, .ref 147), (1, .ref 21)], [.int ((Int8.ofInt 6).toInt32), .int (Int32.ofInt 0), .ref 149, .int (Int32.ofInt 0), .ref 23], 0, 0) 35 3 (fun _ => rfl) h) ?_
  refine pj_X_of (fun r h => pj_T_cp iG6 rfl rfl rfl rfl (by omega) (by omega) (by show _ = ((6 : Nat) : Int); omega) (Nat.le_of_ble_eq_true rfl) h) ?_
  show pj_X _ _ (pj_wc G6 23 149 6) 38 [(0, .ref 147), (1, .ref 21)] [] _
  obtain ⟨G7, hG7⟩ : ∃ H, H = pj_wc G6 23 149 6 := ⟨_, rfl⟩
  have iG7 : pj_Inv G7 := by rw [hG7]; exact pj_Inv_wc iG6 rfl rfl (fun q hq => by cases hq) rfl
  have kG7 : pj_kpt kc_68_147_21x G0 G7 := by rw [hG7]; exact pj_kpt_c kG6 rfl
  rw [← hG7]
  rw [pj_nm_e]
  refine pj_X_of (fun r h => pj_R_to (G7, 39, [(0, .ref 147), (1, .ref 21)], [.ref 21], 0, 0) 39 2 (fun _ => rfl) h) ?_
  refine pj_X_of (fun r h => pj_T_gr iG7 rfl rfl rfl h) ?_
  refine pj_X_of (fun r h => pj_R_to (G7, 44, [(0, .ref 147), (1, .ref 21)], [.ref 147, .int (Int32.ofInt 0), .ref 24], 0, 0) 44 3 (fun _ => rfl) h) ?_
  refine pj_X_of (fun r h => pj_T_gr iG7 rfl rfl rfl h) ?_
  refine pj_X_of (fun r h => pj_R_to (G7, 50, [(0, .ref 147), (1, .ref 21)], [.int ((Int8.ofInt 6).toInt32), .int (Int32.ofInt 0), .ref 150, .int (Int32.ofInt 0), .ref 24], 0, 0) 50 3 (fun _ => rfl) h) ?_
  refine pj_X_of (fun r h => pj_T_cp iG7 rfl rfl rfl rfl (by omega) (by omega) (by show _ = ((6 : Nat) : Int); omega) (Nat.le_of_ble_eq_true rfl) h) ?_
  show pj_X _ _ (pj_wc G7 24 150 6) 53 [(0, .ref 147), (1, .ref 21)] [] _
  obtain ⟨G8, hG8⟩ : ∃ H, H = pj_wc G7 24 150 6 := ⟨_, rfl⟩
  have iG8 : pj_Inv G8 := by rw [hG8]; exact pj_Inv_wc iG7 rfl rfl (fun q hq => by cases hq) rfl
  have kG8 : pj_kpt kc_68_147_21x G0 G8 := by rw [hG8]; exact pj_kpt_c kG7 rfl
  rw [← hG8]
  rw [pj_nm_e]
  refine pj_X_of (fun r h => pj_R_to (G8, 54, [(0, .ref 147), (1, .ref 21)], [.ref 21], 0, 0) 54 2 (fun _ => rfl) h) ?_
  refine pj_X_of (fun r h => pj_T_gr iG8 rfl rfl rfl h) ?_
  refine pj_X_of (fun r h => pj_R_to (G8, 59, [(0, .ref 147), (1, .ref 21)], [.ref 147, .int (Int32.ofInt 0), .ref 25], 0, 0) 59 3 (fun _ => rfl) h) ?_
  refine pj_X_of (fun r h => pj_T_gr iG8 rfl rfl rfl h) ?_
  refine pj_X_of (fun r h => pj_R_to (G8, 65, [(0, .ref 147), (1, .ref 21)], [.int ((Int8.ofInt 6).toInt32), .int (Int32.ofInt 0), .ref 151, .int (Int32.ofInt 0), .ref 25], 0, 0) 65 3 (fun _ => rfl) h) ?_
  refine pj_X_of (fun r h => pj_T_cp iG8 rfl rfl rfl rfl (by omega) (by omega) (by show _ = ((6 : Nat) : Int); omega) (Nat.le_of_ble_eq_true rfl) h) ?_
  show pj_X _ _ (pj_wc G8 25 151 6) 68 [(0, .ref 147), (1, .ref 21)] [] _
  obtain ⟨G9, hG9⟩ : ∃ H, H = pj_wc G8 25 151 6 := ⟨_, rfl⟩
  have iG9 : pj_Inv G9 := by rw [hG9]; exact pj_Inv_wc iG8 rfl rfl (fun q hq => by cases hq) rfl
  have kG9 : pj_kpt kc_68_147_21x G0 G9 := by rw [hG9]; exact pj_kpt_c kG8 rfl
  rw [← hG9]
  rw [pj_nm_e]
  refine pj_X_of (fun r h => pj_R_to (G9, 70, [(0, .ref 147), (1, .ref 21)], [.ref 21, .ref 147], 0, 0) 70 3 (fun _ => rfl) h) ?_
  refine pj_X_of (fun r h => pj_T_gi iG9 rfl rfl h) ?_
  show pj_X _ _ G9 73 [(0, .ref 147), (1, .ref 21)] [.int (pj_fi G9 21 5), .ref 147] _
  rw [← hy4, pj_nm_e]
  rw [show pj_fi G9 21 5 = y4 from by rw [hG9, pj_fi_wc]; exact (by rw [hG8, pj_fi_wc]; exact (by rw [hG7, pj_fi_wc]; exact (by rw [hG6, pj_fi_wc]; exact (by rw [hG5, pj_fi_wv_ne _ _ _ _ _ _ (by decide)]; exact hy4.symm))))]
  refine pj_X_of (fun r h => pj_T_pf iG9 rfl rfl rfl h) ?_
  show pj_X _ _ (pj_wv G9 147 5 (.int y4)) 76 [(0, .ref 147), (1, .ref 21)] [] _
  obtain ⟨G10, hG10⟩ : ∃ H, H = pj_wv G9 147 5 (.int y4) := ⟨_, rfl⟩
  have iG10 : pj_Inv G10 := by rw [hG10]; exact pj_Inv_wi iG9 (ci := 8) rfl (fun q hq => by cases hq; exact ⟨by show (0 : Int) ≤ _; omega, by show _ ≤ (6 : Int); omega⟩)
  have kG10 : pj_kpt kc_68_147_21x G0 G10 := by rw [hG10]; exact pj_kpt_v kG9 rfl
  rw [← hG10]
  rw [pj_nm_e]
  refine pj_X_of (fun r h => pj_R_to (G10, 77, [(0, .ref 147), (1, .ref 21)], [.ref 21], 0, 0) 77 2 (fun _ => rfl) h) ?_
  refine pj_X_of (fun r h => pj_T_gr iG10 rfl rfl rfl h) ?_
  refine pj_X_of (fun r h => pj_R_to (G10, 82, [(0, .ref 147), (1, .ref 21)], [.ref 147, .int (Int32.ofInt 0), .ref 26], 0, 0) 82 3 (fun _ => rfl) h) ?_
  refine pj_X_of (fun r h => pj_T_gr iG10 rfl rfl rfl h) ?_
  refine pj_X_of (fun r h => pj_R_to (G10, 88, [(0, .ref 147), (1, .ref 21)], [.int ((Int8.ofInt 6).toInt32), .int (Int32.ofInt 0), .ref 152, .int (Int32.ofInt 0), .ref 26], 0, 0) 88 3 (fun _ => rfl) h) ?_
  refine pj_X_of (fun r h => pj_T_cp iG10 rfl rfl rfl rfl (by omega) (by omega) (by show _ = ((6 : Nat) : Int); omega) (Nat.le_of_ble_eq_true rfl) h) ?_
  show pj_X _ _ (pj_wc G10 26 152 6) 91 [(0, .ref 147), (1, .ref 21)] [] _
  obtain ⟨G11, hG11⟩ : ∃ H, H = pj_wc G10 26 152 6 := ⟨_, rfl⟩
  have iG11 : pj_Inv G11 := by rw [hG11]; exact pj_Inv_wc iG10 rfl rfl (fun q hq => by cases hq; exact ⟨rfl, by decide⟩) rfl
  have kG11 : pj_kpt kc_68_147_21x G0 G11 := by rw [hG11]; exact pj_kpt_c kG10 rfl
  rw [← hG11]
  rw [pj_nm_e]
  refine pj_X_of (fun r h => pj_R_to (G11, 93, [(0, .ref 147), (1, .ref 21)], [.ref 21, .ref 147], 0, 0) 93 3 (fun _ => rfl) h) ?_
  refine pj_X_of (fun r h => pj_T_gi iG11 rfl rfl h) ?_
  show pj_X _ _ G11 96 [(0, .ref 147), (1, .ref 21)] [.int (pj_fi G11 21 7), .ref 147] _
  obtain ⟨y12, hy12⟩ : ∃ z : Int32, z = pj_fi G11 21 7 := ⟨_, rfl⟩
  rw [← hy12]
  rw [pj_nm_e]
  have ey12 : (pj_fi G11 21 7).toInt = y12.toInt := by rw [hy12]
  refine pj_X_of (fun r h => pj_T_pf iG11 rfl rfl rfl h) ?_
  show pj_X _ _ (pj_wv G11 147 7 (.int y12)) 99 [(0, .ref 147), (1, .ref 21)] [] _
  obtain ⟨G13, hG13⟩ : ∃ H, H = pj_wv G11 147 7 (.int y12) := ⟨_, rfl⟩
  have iG13 : pj_Inv G13 := by rw [hG13]; exact pj_Inv_wi iG11 (ci := 8) rfl (fun q hq => by cases hq)
  have kG13 : pj_kpt kc_68_147_21x G0 G13 := by rw [hG13]; exact pj_kpt_v kG11 rfl
  rw [← hG13]
  rw [pj_nm_e]
  refine pj_X_of (fun r h => pj_R_to (G13, 101, [(0, .ref 147), (1, .ref 21)], [.ref 21, .ref 147], 0, 0) 101 3 (fun _ => rfl) h) ?_
  refine pj_X_of (fun r h => pj_T_gi iG13 rfl rfl h) ?_
  show pj_X _ _ G13 104 [(0, .ref 147), (1, .ref 21)] [.int (pj_fi G13 21 8), .ref 147] _
  obtain ⟨y14, hy14⟩ : ∃ z : Int32, z = pj_fi G13 21 8 := ⟨_, rfl⟩
  rw [← hy14]
  rw [pj_nm_e]
  have ey14 : (pj_fi G13 21 8).toInt = y14.toInt := by rw [hy14]
  refine pj_X_of (fun r h => pj_T_pf iG13 rfl rfl rfl h) ?_
  show pj_X _ _ (pj_wv G13 147 8 (.int y14)) 107 [(0, .ref 147), (1, .ref 21)] [] _
  obtain ⟨G15, hG15⟩ : ∃ H, H = pj_wv G13 147 8 (.int y14) := ⟨_, rfl⟩
  have iG15 : pj_Inv G15 := by rw [hG15]; exact pj_Inv_wi iG13 (ci := 8) rfl (fun q hq => by cases hq)
  have kG15 : pj_kpt kc_68_147_21x G0 G15 := by rw [hG15]; exact pj_kpt_v kG13 rfl
  rw [← hG15]
  rw [pj_nm_e]
  have q16 : (pj_fi G15 147 0).toInt = y3.toInt := by rw [show pj_fi G15 147 0 = y3 from by rw [hG15, pj_fi_wv_ne _ _ _ _ _ _ (by decide)]; exact (by rw [hG13, pj_fi_wv_ne _ _ _ _ _ _ (by decide)]; exact (by rw [hG11, pj_fi_wc]; exact (by rw [hG10, pj_fi_wv_ne _ _ _ _ _ _ (by decide)]; exact (by rw [hG9, pj_fi_wc]; exact (by rw [hG8, pj_fi_wc]; exact (by rw [hG7, pj_fi_wc]; exact (by rw [hG6, pj_fi_wc]; exact (by rw [hG5]; exact pj_fi_wi hI.1 (ci := 8) rfl _))))))))]
  have q17 : (pj_fi G15 147 5).toInt = y4.toInt := by rw [show pj_fi G15 147 5 = y4 from by rw [hG15, pj_fi_wv_ne _ _ _ _ _ _ (by decide)]; exact (by rw [hG13, pj_fi_wv_ne _ _ _ _ _ _ (by decide)]; exact (by rw [hG11, pj_fi_wc]; exact (by rw [hG10]; exact pj_fi_wi iG9.1 (ci := 8) rfl _)))]
  have q18 : (pj_fi G15 21 0).toInt = y3.toInt := by rw [show pj_fi G15 21 0 = y3 from by rw [hG15, pj_fi_wv_ne _ _ _ _ _ _ (by decide)]; exact (by rw [hG13, pj_fi_wv_ne _ _ _ _ _ _ (by decide)]; exact (by rw [hG11, pj_fi_wc]; exact (by rw [hG10, pj_fi_wv_ne _ _ _ _ _ _ (by decide)]; exact (by rw [hG9, pj_fi_wc]; exact (by rw [hG8, pj_fi_wc]; exact (by rw [hG7, pj_fi_wc]; exact (by rw [hG6, pj_fi_wc]; exact (by rw [hG5, pj_fi_wv_ne _ _ _ _ _ _ (by decide)]; exact hy3.symm))))))))]
  have q19 : (pj_fi G15 21 5).toInt = y4.toInt := by rw [show pj_fi G15 21 5 = y4 from by rw [hG15, pj_fi_wv_ne _ _ _ _ _ _ (by decide)]; exact (by rw [hG13, pj_fi_wv_ne _ _ _ _ _ _ (by decide)]; exact (by rw [hG11, pj_fi_wc]; exact (by rw [hG10, pj_fi_wv_ne _ _ _ _ _ _ (by decide)]; exact (by rw [hG9, pj_fi_wc]; exact (by rw [hG8, pj_fi_wc]; exact (by rw [hG7, pj_fi_wc]; exact (by rw [hG6, pj_fi_wc]; exact (by rw [hG5, pj_fi_wv_ne _ _ _ _ _ _ (by decide)]; exact hy4.symm))))))))]
  exact pj_X_rt rfl rfl ⟨rfl, iG15, kG15, (fun H hH => by subst hH; exact (by omega)), rfl⟩
theorem fr_68_147_21x (G0 : pj_G) (hI : pj_Inv G0) : pj_Inv (F_68_147_21x G0) ∧ pj_kpt kc_68_147_21x G0 (F_68_147_21x G0) ∧ ((pj_fi (F_68_147_21x G0) 147 0).toInt = (pj_fi G0 21 0).toInt ∧ (pj_fi (F_68_147_21x G0) 147 5).toInt = (pj_fi G0 21 5).toInt) := by
  obtain ⟨v, G', -, -, i, j, x, e⟩ := ct_68_147_21x G0 hI 
  rw [← e]
  exact ⟨i, j, x _ rfl⟩
def kc_68_153_21x : pj_KT := ([(153, 0), (153, 5), (153, 7), (153, 8)], [153, 154, 155, 156, 157, 158], [154, 155, 156, 157, 158])
noncomputable def F_68_153_21x (G0 : pj_G) : pj_G := pj_nm (pj_fi G0 21 0) (fun y3 => pj_nm (pj_wv G0 153 0 (.int y3)) (fun G5 => pj_nm (pj_wc G5 22 154 6) (fun G6 => pj_nm (pj_wc G6 23 155 6) (fun G7 => pj_nm (pj_wc G7 24 156 6) (fun G8 => pj_nm (pj_wc G8 25 157 6) (fun G9 => pj_nm (pj_fi G0 21 5) (fun y4 => pj_nm (pj_wv G9 153 5 (.int y4)) (fun G10 => pj_nm (pj_wc G10 26 158 6) (fun G11 => pj_nm (pj_fi G11 21 7) (fun y12 => pj_nm (pj_wv G11 153 7 (.int y12)) (fun G13 => pj_nm (pj_fi G13 21 8) (fun y14 => pj_nm (pj_wv G13 153 8 (.int y14)) (fun G15 => G15)))))))))))))
theorem F_68_153_21x_e (G0 : pj_G) : F_68_153_21x G0 = pj_nm (pj_fi G0 21 0) (fun y3 => pj_nm (pj_wv G0 153 0 (.int y3)) (fun G5 => pj_nm (pj_wc G5 22 154 6) (fun G6 => pj_nm (pj_wc G6 23 155 6) (fun G7 => pj_nm (pj_wc G7 24 156 6) (fun G8 => pj_nm (pj_wc G8 25 157 6) (fun G9 => pj_nm (pj_fi G0 21 5) (fun y4 => pj_nm (pj_wv G9 153 5 (.int y4)) (fun G10 => pj_nm (pj_wc G10 26 158 6) (fun G11 => pj_nm (pj_fi G11 21 7) (fun y12 => pj_nm (pj_wv G11 153 7 (.int y12)) (fun G13 => pj_nm (pj_fi G13 21 8) (fun y14 => pj_nm (pj_wv G13 153 8 (.int y14)) (fun G15 => G15))))))))))))) := rfl
theorem ct_68_153_21x (G0 : pj_G) (hI : pj_Inv G0) : pj_Y 1 68 [.ref 153, .ref 21] G0 (fun v' G' => v' = none ∧ pj_Inv G' ∧ pj_kpt kc_68_153_21x G0 G' ∧ (∀ H, G0 = H → ((pj_fi G' 153 0).toInt = (pj_fi H 21 0).toInt ∧ (pj_fi G' 153 5).toInt = (pj_fi H 21 5).toInt)) ∧ (G' = F_68_153_21x G0)) := by
  have c0_ : ((Int8.ofInt 6).toInt32).toInt = 6 := by decide
  have c1_ : (Int32.ofInt 0).toInt = 0 := by decide
  refine pj_Y_X (M := pj_m68) rfl rfl (Nat.le_of_ble_eq_true rfl) ?_
  have hK : pj_kpt kc_68_153_21x G0 G0 := pj_kpt_r _ _
  show pj_X _ _ G0 0 [(0, .ref 153), (1, .ref 21)] [] _
  rw [F_68_153_21x_e]
  obtain ⟨y1, hy1⟩ : ∃ z : Int32, z = pj_fi G0 153 0 := ⟨_, rfl⟩
  have ey1 : (pj_fi G0 153 0).toInt = y1.toInt := by rw [hy1]
  have ry1 : (0 : Int) ≤ y1.toInt ∧ y1.toInt ≤ 6 := by rw [hy1]; exact hI.2.1 153 0 (0, 6) rfl
  obtain ⟨y2, hy2⟩ : ∃ z : Int32, z = pj_fi G0 153 5 := ⟨_, rfl⟩
  have ey2 : (pj_fi G0 153 5).toInt = y2.toInt := by rw [hy2]
  have ry2 : (0 : Int) ≤ y2.toInt ∧ y2.toInt ≤ 6 := by rw [hy2]; exact hI.2.1 153 5 (0, 6) rfl
  obtain ⟨y3, hy3⟩ : ∃ z : Int32, z = pj_fi G0 21 0 := ⟨_, rfl⟩
  have ey3 : (pj_fi G0 21 0).toInt = y3.toInt := by rw [hy3]
  have ry3 : (0 : Int) ≤ y3.toInt ∧ y3.toInt ≤ 6 := by rw [hy3]; exact hI.2.1 21 0 (0, 6) rfl
  obtain ⟨y4, hy4⟩ : ∃ z : Int32, z = pj_fi G0 21 5 := ⟨_, rfl⟩
  have ey4 : (pj_fi G0 21 5).toInt = y4.toInt := by rw [hy4]
  have ry4 : (0 : Int) ≤ y4.toInt ∧ y4.toInt ≤ 6 := by rw [hy4]; exact hI.2.1 21 5 (0, 6) rfl
  refine pj_X_of (fun r h => pj_R_to (G0, 2, [(0, .ref 153), (1, .ref 21)], [.ref 21, .ref 153], 0, 0) 2 3 (fun _ => rfl) h) ?_
  refine pj_X_of (fun r h => pj_T_gi hI rfl rfl h) ?_
  show pj_X _ _ G0 5 [(0, .ref 153), (1, .ref 21)] [.int (pj_fi G0 21 0), .ref 153] _
  rw [← hy3, pj_nm_e]
  refine pj_X_of (fun r h => pj_T_pf hI rfl rfl rfl h) ?_
  show pj_X _ _ (pj_wv G0 153 0 (.int y3)) 8 [(0, .ref 153), (1, .ref 21)] [] _
  obtain ⟨G5, hG5⟩ : ∃ H, H = pj_wv G0 153 0 (.int y3) := ⟨_, rfl⟩
  have iG5 : pj_Inv G5 := by rw [hG5]; exact pj_Inv_wi hI (ci := 8) rfl (fun q hq => by cases hq; exact ⟨by show (0 : Int) ≤ _; omega, by show _ ≤ (6 : Int); omega⟩)
  have kG5 : pj_kpt kc_68_153_21x G0 G5 := by rw [hG5]; exact pj_kpt_v hK rfl
  rw [← hG5]
  rw [pj_nm_e]
  refine pj_X_of (fun r h => pj_R_to (G5, 9, [(0, .ref 153), (1, .ref 21)], [.ref 21], 0, 0) 9 2 (fun _ => rfl) h) ?_
  refine pj_X_of (fun r h => pj_T_gr iG5 rfl rfl rfl h) ?_
  refine pj_X_of (fun r h => pj_R_to (G5, 14, [(0, .ref 153), (1, .ref 21)], [.ref 153, .int (Int32.ofInt 0), .ref 22], 0, 0) 14 3 (fun _ => rfl) h) ?_
  refine pj_X_of (fun r h => pj_T_gr iG5 rfl rfl rfl h) ?_
  refine pj_X_of (fun r h => pj_R_to (G5, 20, [(0, .ref 153), (1, .ref 21)], [.int ((Int8.ofInt 6).toInt32), .int (Int32.ofInt 0), .ref 154, .int (Int32.ofInt 0), .ref 22], 0, 0) 20 3 (fun _ => rfl) h) ?_
  refine pj_X_of (fun r h => pj_T_cp iG5 rfl rfl rfl rfl (by omega) (by omega) (by show _ = ((6 : Nat) : Int); omega) (Nat.le_of_ble_eq_true rfl) h) ?_
  show pj_X _ _ (pj_wc G5 22 154 6) 23 [(0, .ref 153), (1, .ref 21)] [] _
  obtain ⟨G6, hG6⟩ : ∃ H, H = pj_wc G5 22 154 6 := ⟨_, rfl⟩
  have iG6 : pj_Inv G6 := by rw [hG6]; exact pj_Inv_wc iG5 rfl rfl (fun q hq => by cases hq; exact ⟨rfl, by decide⟩) rfl
  have kG6 : pj_kpt kc_68_153_21x G0 G6 := by rw [hG6]; exact pj_kpt_c kG5 rfl
  rw [← hG6]
  rw [pj_nm_e]
  refine pj_X_of (fun r h => pj_R_to (G6, 24, [(0, .ref 153), (1, .ref 21)], [.ref 21], 0, 0) 24 2 (fun _ => rfl) h) ?_
  refine pj_X_of (fun r h => pj_T_gr iG6 rfl rfl rfl h) ?_
  refine pj_X_of (fun r h => pj_R_to (G6, 29, [(0, .ref 153), (1, .ref 21)], [.ref 153, .int (Int32.ofInt 0), .ref 23], 0, 0) 29 3 (fun _ => rfl) h) ?_
  refine pj_X_of (fun r h => pj_T_gr iG6 rfl rfl rfl h) ?_
  refine pj_X_of (fun r h => pj_R_to (G6, 35, [(0, .ref 153), (1, .ref 21)], [.int ((Int8.ofInt 6).toInt32), .int (Int32.ofInt 0), .ref 155, .int (Int32.ofInt 0), .ref 23], 0, 0) 35 3 (fun _ => rfl) h) ?_
  refine pj_X_of (fun r h => pj_T_cp iG6 rfl rfl rfl rfl (by omega) (by omega) (by show _ = ((6 : Nat) : Int); omega) (Nat.le_of_ble_eq_true rfl) h) ?_
  show pj_X _ _ (pj_wc G6 23 155 6) 38 [(0, .ref 153), (1, .ref 21)] [] _
  obtain ⟨G7, hG7⟩ : ∃ H, H = pj_wc G6 23 155 6 := ⟨_, rfl⟩
  have iG7 : pj_Inv G7 := by rw [hG7]; exact pj_Inv_wc iG6 rfl rfl (fun q hq => by cases hq) rfl
  have kG7 : pj_kpt kc_68_153_21x G0 G7 := by rw [hG7]; exact pj_kpt_c kG6 rfl
  rw [← hG7]
  rw [pj_nm_e]
  refine pj_X_of (fun r h => pj_R_to (G7, 39, [(0, .ref 153), (1, .ref 21)], [.ref 21], 0, 0) 39 2 (fun _ => rfl) h) ?_
  refine pj_X_of (fun r h => pj_T_gr iG7 rfl rfl rfl h) ?_
  refine pj_X_of (fun r h => pj_R_to (G7, 44, [(0, .ref 153), (1, .ref 21)], [.ref 153, .int (Int32.ofInt 0), .ref 24], 0, 0) 44 3 (fun _ => rfl) h) ?_
  refine pj_X_of (fun r h => pj_T_gr iG7 rfl rfl rfl h) ?_
  refine pj_X_of (fun r h => pj_R_to (G7, 50, [(0, .ref 153), (1, .ref 21)], [.int ((Int8.ofInt 6).toInt32), .int (Int32.ofInt 0), .ref 156, .int (Int32.ofInt 0), .ref 24], 0, 0) 50 3 (fun _ => rfl) h) ?_
  refine pj_X_of (fun r h => pj_T_cp iG7 rfl rfl rfl rfl (by omega) (by omega) (by show _ = ((6 : Nat) : Int); omega) (Nat.le_of_ble_eq_true rfl) h) ?_
  show pj_X _ _ (pj_wc G7 24 156 6) 53 [(0, .ref 153), (1, .ref 21)] [] _
  obtain ⟨G8, hG8⟩ : ∃ H, H = pj_wc G7 24 156 6 := ⟨_, rfl⟩
  have iG8 : pj_Inv G8 := by rw [hG8]; exact pj_Inv_wc iG7 rfl rfl (fun q hq => by cases hq) rfl
  have kG8 : pj_kpt kc_68_153_21x G0 G8 := by rw [hG8]; exact pj_kpt_c kG7 rfl
  rw [← hG8]
  rw [pj_nm_e]
  refine pj_X_of (fun r h => pj_R_to (G8, 54, [(0, .ref 153), (1, .ref 21)], [.ref 21], 0, 0) 54 2 (fun _ => rfl) h) ?_
  refine pj_X_of (fun r h => pj_T_gr iG8 rfl rfl rfl h) ?_
  refine pj_X_of (fun r h => pj_R_to (G8, 59, [(0, .ref 153), (1, .ref 21)], [.ref 153, .int (Int32.ofInt 0), .ref 25], 0, 0) 59 3 (fun _ => rfl) h) ?_
  refine pj_X_of (fun r h => pj_T_gr iG8 rfl rfl rfl h) ?_
  refine pj_X_of (fun r h => pj_R_to (G8, 65, [(0, .ref 153), (1, .ref 21)], [.int ((Int8.ofInt 6).toInt32), .int (Int32.ofInt 0), .ref 157, .int (Int32.ofInt 0), .ref 25], 0, 0) 65 3 (fun _ => rfl) h) ?_
  refine pj_X_of (fun r h => pj_T_cp iG8 rfl rfl rfl rfl (by omega) (by omega) (by show _ = ((6 : Nat) : Int); omega) (Nat.le_of_ble_eq_true rfl) h) ?_
  show pj_X _ _ (pj_wc G8 25 157 6) 68 [(0, .ref 153), (1, .ref 21)] [] _
  obtain ⟨G9, hG9⟩ : ∃ H, H = pj_wc G8 25 157 6 := ⟨_, rfl⟩
  have iG9 : pj_Inv G9 := by rw [hG9]; exact pj_Inv_wc iG8 rfl rfl (fun q hq => by cases hq) rfl
  have kG9 : pj_kpt kc_68_153_21x G0 G9 := by rw [hG9]; exact pj_kpt_c kG8 rfl
  rw [← hG9]
  rw [pj_nm_e]
  refine pj_X_of (fun r h => pj_R_to (G9, 70, [(0, .ref 153), (1, .ref 21)], [.ref 21, .ref 153], 0, 0) 70 3 (fun _ => rfl) h) ?_
  refine pj_X_of (fun r h => pj_T_gi iG9 rfl rfl h) ?_
  show pj_X _ _ G9 73 [(0, .ref 153), (1, .ref 21)] [.int (pj_fi G9 21 5), .ref 153] _
  rw [← hy4, pj_nm_e]
  rw [show pj_fi G9 21 5 = y4 from by rw [hG9, pj_fi_wc]; exact (by rw [hG8, pj_fi_wc]; exact (by rw [hG7, pj_fi_wc]; exact (by rw [hG6, pj_fi_wc]; exact (by rw [hG5, pj_fi_wv_ne _ _ _ _ _ _ (by decide)]; exact hy4.symm))))]
  refine pj_X_of (fun r h => pj_T_pf iG9 rfl rfl rfl h) ?_
  show pj_X _ _ (pj_wv G9 153 5 (.int y4)) 76 [(0, .ref 153), (1, .ref 21)] [] _
  obtain ⟨G10, hG10⟩ : ∃ H, H = pj_wv G9 153 5 (.int y4) := ⟨_, rfl⟩
  have iG10 : pj_Inv G10 := by rw [hG10]; exact pj_Inv_wi iG9 (ci := 8) rfl (fun q hq => by cases hq; exact ⟨by show (0 : Int) ≤ _; omega, by show _ ≤ (6 : Int); omega⟩)
  have kG10 : pj_kpt kc_68_153_21x G0 G10 := by rw [hG10]; exact pj_kpt_v kG9 rfl
  rw [← hG10]
  rw [pj_nm_e]
  refine pj_X_of (fun r h => pj_R_to (G10, 77, [(0, .ref 153), (1, .ref 21)], [.ref 21], 0, 0) 77 2 (fun _ => rfl) h) ?_
  refine pj_X_of (fun r h => pj_T_gr iG10 rfl rfl rfl h) ?_
  refine pj_X_of (fun r h => pj_R_to (G10, 82, [(0, .ref 153), (1, .ref 21)], [.ref 153, .int (Int32.ofInt 0), .ref 26], 0, 0) 82 3 (fun _ => rfl) h) ?_
  refine pj_X_of (fun r h => pj_T_gr iG10 rfl rfl rfl h) ?_
  refine pj_X_of (fun r h => pj_R_to (G10, 88, [(0, .ref 153), (1, .ref 21)], [.int ((Int8.ofInt 6).toInt32), .int (Int32.ofInt 0), .ref 158, .int (Int32.ofInt 0), .ref 26], 0, 0) 88 3 (fun _ => rfl) h) ?_
  refine pj_X_of (fun r h => pj_T_cp iG10 rfl rfl rfl rfl (by omega) (by omega) (by show _ = ((6 : Nat) : Int); omega) (Nat.le_of_ble_eq_true rfl) h) ?_
  show pj_X _ _ (pj_wc G10 26 158 6) 91 [(0, .ref 153), (1, .ref 21)] [] _
  obtain ⟨G11, hG11⟩ : ∃ H, H = pj_wc G10 26 158 6 := ⟨_, rfl⟩
  have iG11 : pj_Inv G11 := by rw [hG11]; exact pj_Inv_wc iG10 rfl rfl (fun q hq => by cases hq; exact ⟨rfl, by decide⟩) rfl
  have kG11 : pj_kpt kc_68_153_21x G0 G11 := by rw [hG11]; exact pj_kpt_c kG10 rfl
  rw [← hG11]
  rw [pj_nm_e]
  refine pj_X_of (fun r h => pj_R_to (G11, 93, [(0, .ref 153), (1, .ref 21)], [.ref 21, .ref 153], 0, 0) 93 3 (fun _ => rfl) h) ?_
  refine pj_X_of (fun r h => pj_T_gi iG11 rfl rfl h) ?_
  show pj_X _ _ G11 96 [(0, .ref 153), (1, .ref 21)] [.int (pj_fi G11 21 7), .ref 153] _
  obtain ⟨y12, hy12⟩ : ∃ z : Int32, z = pj_fi G11 21 7 := ⟨_, rfl⟩
  rw [← hy12]
  rw [pj_nm_e]
  have ey12 : (pj_fi G11 21 7).toInt = y12.toInt := by rw [hy12]
  refine pj_X_of (fun r h => pj_T_pf iG11 rfl rfl rfl h) ?_
  show pj_X _ _ (pj_wv G11 153 7 (.int y12)) 99 [(0, .ref 153), (1, .ref 21)] [] _
  obtain ⟨G13, hG13⟩ : ∃ H, H = pj_wv G11 153 7 (.int y12) := ⟨_, rfl⟩
  have iG13 : pj_Inv G13 := by rw [hG13]; exact pj_Inv_wi iG11 (ci := 8) rfl (fun q hq => by cases hq)
  have kG13 : pj_kpt kc_68_153_21x G0 G13 := by rw [hG13]; exact pj_kpt_v kG11 rfl
  rw [← hG13]
  rw [pj_nm_e]
  refine pj_X_of (fun r h => pj_R_to (G13, 101, [(0, .ref 153), (1, .ref 21)], [.ref 21, .ref 153], 0, 0) 101 3 (fun _ => rfl) h) ?_
  refine pj_X_of (fun r h => pj_T_gi iG13 rfl rfl h) ?_
  show pj_X _ _ G13 104 [(0, .ref 153), (1, .ref 21)] [.int (pj_fi G13 21 8), .ref 153] _
  obtain ⟨y14, hy14⟩ : ∃ z : Int32, z = pj_fi G13 21 8 := ⟨_, rfl⟩
  rw [← hy14]
  rw [pj_nm_e]
  have ey14 : (pj_fi G13 21 8).toInt = y14.toInt := by rw [hy14]
  refine pj_X_of (fun r h => pj_T_pf iG13 rfl rfl rfl h) ?_
  show pj_X _ _ (pj_wv G13 153 8 (.int y14)) 107 [(0, .ref 153), (1, .ref 21)] [] _
  obtain ⟨G15, hG15⟩ : ∃ H, H = pj_wv G13 153 8 (.int y14) := ⟨_, rfl⟩
  have iG15 : pj_Inv G15 := by rw [hG15]; exact pj_Inv_wi iG13 (ci := 8) rfl (fun q hq => by cases hq)
  have kG15 : pj_kpt kc_68_153_21x G0 G15 := by rw [hG15]; exact pj_kpt_v kG13 rfl
  rw [← hG15]
  rw [pj_nm_e]
  have q16 : (pj_fi G15 153 0).toInt = y3.toInt := by rw [show pj_fi G15 153 0 = y3 from by rw [hG15, pj_fi_wv_ne _ _ _ _ _ _ (by decide)]; exact (by rw [hG13, pj_fi_wv_ne _ _ _ _ _ _ (by decide)]; exact (by rw [hG11, pj_fi_wc]; exact (by rw [hG10, pj_fi_wv_ne _ _ _ _ _ _ (by decide)]; exact (by rw [hG9, pj_fi_wc]; exact (by rw [hG8, pj_fi_wc]; exact (by rw [hG7, pj_fi_wc]; exact (by rw [hG6, pj_fi_wc]; exact (by rw [hG5]; exact pj_fi_wi hI.1 (ci := 8) rfl _))))))))]
  have q17 : (pj_fi G15 153 5).toInt = y4.toInt := by rw [show pj_fi G15 153 5 = y4 from by rw [hG15, pj_fi_wv_ne _ _ _ _ _ _ (by decide)]; exact (by rw [hG13, pj_fi_wv_ne _ _ _ _ _ _ (by decide)]; exact (by rw [hG11, pj_fi_wc]; exact (by rw [hG10]; exact pj_fi_wi iG9.1 (ci := 8) rfl _)))]
  have q18 : (pj_fi G15 21 0).toInt = y3.toInt := by rw [show pj_fi G15 21 0 = y3 from by rw [hG15, pj_fi_wv_ne _ _ _ _ _ _ (by decide)]; exact (by rw [hG13, pj_fi_wv_ne _ _ _ _ _ _ (by decide)]; exact (by rw [hG11, pj_fi_wc]; exact (by rw [hG10, pj_fi_wv_ne _ _ _ _ _ _ (by decide)]; exact (by rw [hG9, pj_fi_wc]; exact (by rw [hG8, pj_fi_wc]; exact (by rw [hG7, pj_fi_wc]; exact (by rw [hG6, pj_fi_wc]; exact (by rw [hG5, pj_fi_wv_ne _ _ _ _ _ _ (by decide)]; exact hy3.symm))))))))]
  have q19 : (pj_fi G15 21 5).toInt = y4.toInt := by rw [show pj_fi G15 21 5 = y4 from by rw [hG15, pj_fi_wv_ne _ _ _ _ _ _ (by decide)]; exact (by rw [hG13, pj_fi_wv_ne _ _ _ _ _ _ (by decide)]; exact (by rw [hG11, pj_fi_wc]; exact (by rw [hG10, pj_fi_wv_ne _ _ _ _ _ _ (by decide)]; exact (by rw [hG9, pj_fi_wc]; exact (by rw [hG8, pj_fi_wc]; exact (by rw [hG7, pj_fi_wc]; exact (by rw [hG6, pj_fi_wc]; exact (by rw [hG5, pj_fi_wv_ne _ _ _ _ _ _ (by decide)]; exact hy4.symm))))))))]
  exact pj_X_rt rfl rfl ⟨rfl, iG15, kG15, (fun H hH => by subst hH; exact (by omega)), rfl⟩
theorem fr_68_153_21x (G0 : pj_G) (hI : pj_Inv G0) : pj_Inv (F_68_153_21x G0) ∧ pj_kpt kc_68_153_21x G0 (F_68_153_21x G0) ∧ ((pj_fi (F_68_153_21x G0) 153 0).toInt = (pj_fi G0 21 0).toInt ∧ (pj_fi (F_68_153_21x G0) 153 5).toInt = (pj_fi G0 21 5).toInt) := by
  obtain ⟨v, G', -, -, i, j, x, e⟩ := ct_68_153_21x G0 hI 
  rw [← e]
  exact ⟨i, j, x _ rfl⟩
def kc_68_159_21x : pj_KT := ([(159, 0), (159, 5), (159, 7), (159, 8)], [159, 160, 161, 162, 163, 164], [160, 161, 162, 163, 164])
noncomputable def F_68_159_21x (G0 : pj_G) : pj_G := pj_nm (pj_fi G0 21 0) (fun y3 => pj_nm (pj_wv G0 159 0 (.int y3)) (fun G5 => pj_nm (pj_wc G5 22 160 6) (fun G6 => pj_nm (pj_wc G6 23 161 6) (fun G7 => pj_nm (pj_wc G7 24 162 6) (fun G8 => pj_nm (pj_wc G8 25 163 6) (fun G9 => pj_nm (pj_fi G0 21 5) (fun y4 => pj_nm (pj_wv G9 159 5 (.int y4)) (fun G10 => pj_nm (pj_wc G10 26 164 6) (fun G11 => pj_nm (pj_fi G11 21 7) (fun y12 => pj_nm (pj_wv G11 159 7 (.int y12)) (fun G13 => pj_nm (pj_fi G13 21 8) (fun y14 => pj_nm (pj_wv G13 159 8 (.int y14)) (fun G15 => G15)))))))))))))
theorem F_68_159_21x_e (G0 : pj_G) : F_68_159_21x G0 = pj_nm (pj_fi G0 21 0) (fun y3 => pj_nm (pj_wv G0 159 0 (.int y3)) (fun G5 => pj_nm (pj_wc G5 22 160 6) (fun G6 => pj_nm (pj_wc G6 23 161 6) (fun G7 => pj_nm (pj_wc G7 24 162 6) (fun G8 => pj_nm (pj_wc G8 25 163 6) (fun G9 => pj_nm (pj_fi G0 21 5) (fun y4 => pj_nm (pj_wv G9 159 5 (.int y4)) (fun G10 => pj_nm (pj_wc G10 26 164 6) (fun G11 => pj_nm (pj_fi G11 21 7) (fun y12 => pj_nm (pj_wv G11 159 7 (.int y12)) (fun G13 => pj_nm (pj_fi G13 21 8) (fun y14 => pj_nm (pj_wv G13 159 8 (.int y14)) (fun G15 => G15))))))))))))) := rfl
theorem ct_68_159_21x (G0 : pj_G) (hI : pj_Inv G0) : pj_Y 1 68 [.ref 159, .ref 21] G0 (fun v' G' => v' = none ∧ pj_Inv G' ∧ pj_kpt kc_68_159_21x G0 G' ∧ (∀ H, G0 = H → ((pj_fi G' 159 0).toInt = (pj_fi H 21 0).toInt ∧ (pj_fi G' 159 5).toInt = (pj_fi H 21 5).toInt)) ∧ (G' = F_68_159_21x G0)) := by
  have c0_ : ((Int8.ofInt 6).toInt32).toInt = 6 := by decide
  have c1_ : (Int32.ofInt 0).toInt = 0 := by decide
  refine pj_Y_X (M := pj_m68) rfl rfl (Nat.le_of_ble_eq_true rfl) ?_
  have hK : pj_kpt kc_68_159_21x G0 G0 := pj_kpt_r _ _
  show pj_X _ _ G0 0 [(0, .ref 159), (1, .ref 21)] [] _
  rw [F_68_159_21x_e]
  obtain ⟨y1, hy1⟩ : ∃ z : Int32, z = pj_fi G0 159 0 := ⟨_, rfl⟩
  have ey1 : (pj_fi G0 159 0).toInt = y1.toInt := by rw [hy1]
  have ry1 : (0 : Int) ≤ y1.toInt ∧ y1.toInt ≤ 6 := by rw [hy1]; exact hI.2.1 159 0 (0, 6) rfl
  obtain ⟨y2, hy2⟩ : ∃ z : Int32, z = pj_fi G0 159 5 := ⟨_, rfl⟩
  have ey2 : (pj_fi G0 159 5).toInt = y2.toInt := by rw [hy2]
  have ry2 : (0 : Int) ≤ y2.toInt ∧ y2.toInt ≤ 6 := by rw [hy2]; exact hI.2.1 159 5 (0, 6) rfl
  obtain ⟨y3, hy3⟩ : ∃ z : Int32, z = pj_fi G0 21 0 := ⟨_, rfl⟩
  have ey3 : (pj_fi G0 21 0).toInt = y3.toInt := by rw [hy3]
  have ry3 : (0 : Int) ≤ y3.toInt ∧ y3.toInt ≤ 6 := by rw [hy3]; exact hI.2.1 21 0 (0, 6) rfl
  obtain ⟨y4, hy4⟩ : ∃ z : Int32, z = pj_fi G0 21 5 := ⟨_, rfl⟩
  have ey4 : (pj_fi G0 21 5).toInt = y4.toInt := by rw [hy4]
  have ry4 : (0 : Int) ≤ y4.toInt ∧ y4.toInt ≤ 6 := by rw [hy4]; exact hI.2.1 21 5 (0, 6) rfl
  refine pj_X_of (fun r h => pj_R_to (G0, 2, [(0, .ref 159), (1, .ref 21)], [.ref 21, .ref 159], 0, 0) 2 3 (fun _ => rfl) h) ?_
  refine pj_X_of (fun r h => pj_T_gi hI rfl rfl h) ?_
  show pj_X _ _ G0 5 [(0, .ref 159), (1, .ref 21)] [.int (pj_fi G0 21 0), .ref 159] _
  rw [← hy3, pj_nm_e]
  refine pj_X_of (fun r h => pj_T_pf hI rfl rfl rfl h) ?_
  show pj_X _ _ (pj_wv G0 159 0 (.int y3)) 8 [(0, .ref 159), (1, .ref 21)] [] _
  obtain ⟨G5, hG5⟩ : ∃ H, H = pj_wv G0 159 0 (.int y3) := ⟨_, rfl⟩
  have iG5 : pj_Inv G5 := by rw [hG5]; exact pj_Inv_wi hI (ci := 8) rfl (fun q hq => by cases hq; exact ⟨by show (0 : Int) ≤ _; omega, by show _ ≤ (6 : Int); omega⟩)
  have kG5 : pj_kpt kc_68_159_21x G0 G5 := by rw [hG5]; exact pj_kpt_v hK rfl
  rw [← hG5]
  rw [pj_nm_e]
  refine pj_X_of (fun r h => pj_R_to (G5, 9, [(0, .ref 159), (1, .ref 21)], [.ref 21], 0, 0) 9 2 (fun _ => rfl) h) ?_
  refine pj_X_of (fun r h => pj_T_gr iG5 rfl rfl rfl h) ?_
  refine pj_X_of (fun r h => pj_R_to (G5, 14, [(0, .ref 159), (1, .ref 21)], [.ref 159, .int (Int32.ofInt 0), .ref 22], 0, 0) 14 3 (fun _ => rfl) h) ?_
  refine pj_X_of (fun r h => pj_T_gr iG5 rfl rfl rfl h) ?_
  refine pj_X_of (fun r h => pj_R_to (G5, 20, [(0, .ref 159), (1, .ref 21)], [.int ((Int8.ofInt 6).toInt32), .int (Int32.ofInt 0), .ref 160, .int (Int32.ofInt 0), .ref 22], 0, 0) 20 3 (fun _ => rfl) h) ?_
  refine pj_X_of (fun r h => pj_T_cp iG5 rfl rfl rfl rfl (by omega) (by omega) (by show _ = ((6 : Nat) : Int); omega) (Nat.le_of_ble_eq_true rfl) h) ?_
  show pj_X _ _ (pj_wc G5 22 160 6) 23 [(0, .ref 159), (1, .ref 21)] [] _
  obtain ⟨G6, hG6⟩ : ∃ H, H = pj_wc G5 22 160 6 := ⟨_, rfl⟩
  have iG6 : pj_Inv G6 := by rw [hG6]; exact pj_Inv_wc iG5 rfl rfl (fun q hq => by cases hq; exact ⟨rfl, by decide⟩) rfl
  have kG6 : pj_kpt kc_68_159_21x G0 G6 := by rw [hG6]; exact pj_kpt_c kG5 rfl
  rw [← hG6]
  rw [pj_nm_e]
  refine pj_X_of (fun r h => pj_R_to (G6, 24, [(0, .ref 159), (1, .ref 21)], [.ref 21], 0, 0) 24 2 (fun _ => rfl) h) ?_
  refine pj_X_of (fun r h => pj_T_gr iG6 rfl rfl rfl h) ?_
  refine pj_X_of (fun r h => pj_R_to (G6, 29, [(0, .ref 159), (1, .ref 21)], [.ref 159, .int (Int32.ofInt 0), .ref 23], 0, 0) 29 3 (fun _ => rfl) h) ?_
  refine pj_X_of (fun r h => pj_T_gr iG6 rfl rfl rfl h) ?_
  refine pj_X_of (fun r h => pj_R_to (G6, 35, [(0, .ref 159), (1, .ref 21)], [.int ((Int8.ofInt 6).toInt32), .int (Int32.ofInt 0), .ref 161, .int (Int32.ofInt 0), .ref 23], 0, 0) 35 3 (fun _ => rfl) h) ?_
  refine pj_X_of (fun r h => pj_T_cp iG6 rfl rfl rfl rfl (by omega) (by omega) (by show _ = ((6 : Nat) : Int); omega) (Nat.le_of_ble_eq_true rfl) h) ?_
  show pj_X _ _ (pj_wc G6 23 161 6) 38 [(0, .ref 159), (1, .ref 21)] [] _
  obtain ⟨G7, hG7⟩ : ∃ H, H = pj_wc G6 23 161 6 := ⟨_, rfl⟩
  have iG7 : pj_Inv G7 := by rw [hG7]; exact pj_Inv_wc iG6 rfl rfl (fun q hq => by cases hq) rfl
  have kG7 : pj_kpt kc_68_159_21x G0 G7 := by rw [hG7]; exact pj_kpt_c kG6 rfl
  rw [← hG7]
  rw [pj_nm_e]
  refine pj_X_of (fun r h => pj_R_to (G7, 39, [(0, .ref 159), (1, .ref 21)], [.ref 21], 0, 0) 39 2 (fun _ => rfl) h) ?_
  refine pj_X_of (fun r h => pj_T_gr iG7 rfl rfl rfl h) ?_
  refine pj_X_of (fun r h => pj_R_to (G7, 44, [(0, .ref 159), (1, .ref 21)], [.ref 159, .int (Int32.ofInt 0), .ref 24], 0, 0) 44 3 (fun _ => rfl) h) ?_
  refine pj_X_of (fun r h => pj_T_gr iG7 rfl rfl rfl h) ?_
  refine pj_X_of (fun r h => pj_R_to (G7, 50, [(0, .ref 159), (1, .ref 21)], [.int ((Int8.ofInt 6).toInt32), .int (Int32.ofInt 0), .ref 162, .int (Int32.ofInt 0), .ref 24], 0, 0) 50 3 (fun _ => rfl) h) ?_
  refine pj_X_of (fun r h => pj_T_cp iG7 rfl rfl rfl rfl (by omega) (by omega) (by show _ = ((6 : Nat) : Int); omega) (Nat.le_of_ble_eq_true rfl) h) ?_
  show pj_X _ _ (pj_wc G7 24 162 6) 53 [(0, .ref 159), (1, .ref 21)] [] _
  obtain ⟨G8, hG8⟩ : ∃ H, H = pj_wc G7 24 162 6 := ⟨_, rfl⟩
  have iG8 : pj_Inv G8 := by rw [hG8]; exact pj_Inv_wc iG7 rfl rfl (fun q hq => by cases hq) rfl
  have kG8 : pj_kpt kc_68_159_21x G0 G8 := by rw [hG8]; exact pj_kpt_c kG7 rfl
  rw [← hG8]
  rw [pj_nm_e]
  refine pj_X_of (fun r h => pj_R_to (G8, 54, [(0, .ref 159), (1, .ref 21)], [.ref 21], 0, 0) 54 2 (fun _ => rfl) h) ?_
  refine pj_X_of (fun r h => pj_T_gr iG8 rfl rfl rfl h) ?_
  refine pj_X_of (fun r h => pj_R_to (G8, 59, [(0, .ref 159), (1, .ref 21)], [.ref 159, .int (Int32.ofInt 0), .ref 25], 0, 0) 59 3 (fun _ => rfl) h) ?_
  refine pj_X_of (fun r h => pj_T_gr iG8 rfl rfl rfl h) ?_
  refine pj_X_of (fun r h => pj_R_to (G8, 65, [(0, .ref 159), (1, .ref 21)], [.int ((Int8.ofInt 6).toInt32), .int (Int32.ofInt 0), .ref 163, .int (Int32.ofInt 0), .ref 25], 0, 0) 65 3 (fun _ => rfl) h) ?_
  refine pj_X_of (fun r h => pj_T_cp iG8 rfl rfl rfl rfl (by omega) (by omega) (by show _ = ((6 : Nat) : Int); omega) (Nat.le_of_ble_eq_true rfl) h) ?_
  show pj_X _ _ (pj_wc G8 25 163 6) 68 [(0, .ref 159), (1, .ref 21)] [] _
  obtain ⟨G9, hG9⟩ : ∃ H, H = pj_wc G8 25 163 6 := ⟨_, rfl⟩
  have iG9 : pj_Inv G9 := by rw [hG9]; exact pj_Inv_wc iG8 rfl rfl (fun q hq => by cases hq) rfl
  have kG9 : pj_kpt kc_68_159_21x G0 G9 := by rw [hG9]; exact pj_kpt_c kG8 rfl
  rw [← hG9]
  rw [pj_nm_e]
  refine pj_X_of (fun r h => pj_R_to (G9, 70, [(0, .ref 159), (1, .ref 21)], [.ref 21, .ref 159], 0, 0) 70 3 (fun _ => rfl) h) ?_
  refine pj_X_of (fun r h => pj_T_gi iG9 rfl rfl h) ?_
  show pj_X _ _ G9 73 [(0, .ref 159), (1, .ref 21)] [.int (pj_fi G9 21 5), .ref 159] _
  rw [← hy4, pj_nm_e]
  rw [show pj_fi G9 21 5 = y4 from by rw [hG9, pj_fi_wc]; exact (by rw [hG8, pj_fi_wc]; exact (by rw [hG7, pj_fi_wc]; exact (by rw [hG6, pj_fi_wc]; exact (by rw [hG5, pj_fi_wv_ne _ _ _ _ _ _ (by decide)]; exact hy4.symm))))]
  refine pj_X_of (fun r h => pj_T_pf iG9 rfl rfl rfl h) ?_
  show pj_X _ _ (pj_wv G9 159 5 (.int y4)) 76 [(0, .ref 159), (1, .ref 21)] [] _
  obtain ⟨G10, hG10⟩ : ∃ H, H = pj_wv G9 159 5 (.int y4) := ⟨_, rfl⟩
  have iG10 : pj_Inv G10 := by rw [hG10]; exact pj_Inv_wi iG9 (ci := 8) rfl (fun q hq => by cases hq; exact ⟨by show (0 : Int) ≤ _; omega, by show _ ≤ (6 : Int); omega⟩)
  have kG10 : pj_kpt kc_68_159_21x G0 G10 := by rw [hG10]; exact pj_kpt_v kG9 rfl
  rw [← hG10]
  rw [pj_nm_e]
  refine pj_X_of (fun r h => pj_R_to (G10, 77, [(0, .ref 159), (1, .ref 21)], [.ref 21], 0, 0) 77 2 (fun _ => rfl) h) ?_
  refine pj_X_of (fun r h => pj_T_gr iG10 rfl rfl rfl h) ?_
  refine pj_X_of (fun r h => pj_R_to (G10, 82, [(0, .ref 159), (1, .ref 21)], [.ref 159, .int (Int32.ofInt 0), .ref 26], 0, 0) 82 3 (fun _ => rfl) h) ?_
  refine pj_X_of (fun r h => pj_T_gr iG10 rfl rfl rfl h) ?_
  refine pj_X_of (fun r h => pj_R_to (G10, 88, [(0, .ref 159), (1, .ref 21)], [.int ((Int8.ofInt 6).toInt32), .int (Int32.ofInt 0), .ref 164, .int (Int32.ofInt 0), .ref 26], 0, 0) 88 3 (fun _ => rfl) h) ?_
  refine pj_X_of (fun r h => pj_T_cp iG10 rfl rfl rfl rfl (by omega) (by omega) (by show _ = ((6 : Nat) : Int); omega) (Nat.le_of_ble_eq_true rfl) h) ?_
  show pj_X _ _ (pj_wc G10 26 164 6) 91 [(0, .ref 159), (1, .ref 21)] [] _
  obtain ⟨G11, hG11⟩ : ∃ H, H = pj_wc G10 26 164 6 := ⟨_, rfl⟩
  have iG11 : pj_Inv G11 := by rw [hG11]; exact pj_Inv_wc iG10 rfl rfl (fun q hq => by cases hq; exact ⟨rfl, by decide⟩) rfl
  have kG11 : pj_kpt kc_68_159_21x G0 G11 := by rw [hG11]; exact pj_kpt_c kG10 rfl
  rw [← hG11]
  rw [pj_nm_e]
  refine pj_X_of (fun r h => pj_R_to (G11, 93, [(0, .ref 159), (1, .ref 21)], [.ref 21, .ref 159], 0, 0) 93 3 (fun _ => rfl) h) ?_
  refine pj_X_of (fun r h => pj_T_gi iG11 rfl rfl h) ?_
  show pj_X _ _ G11 96 [(0, .ref 159), (1, .ref 21)] [.int (pj_fi G11 21 7), .ref 159] _
  obtain ⟨y12, hy12⟩ : ∃ z : Int32, z = pj_fi G11 21 7 := ⟨_, rfl⟩
  rw [← hy12]
  rw [pj_nm_e]
  have ey12 : (pj_fi G11 21 7).toInt = y12.toInt := by rw [hy12]
  refine pj_X_of (fun r h => pj_T_pf iG11 rfl rfl rfl h) ?_
  show pj_X _ _ (pj_wv G11 159 7 (.int y12)) 99 [(0, .ref 159), (1, .ref 21)] [] _
  obtain ⟨G13, hG13⟩ : ∃ H, H = pj_wv G11 159 7 (.int y12) := ⟨_, rfl⟩
  have iG13 : pj_Inv G13 := by rw [hG13]; exact pj_Inv_wi iG11 (ci := 8) rfl (fun q hq => by cases hq)
  have kG13 : pj_kpt kc_68_159_21x G0 G13 := by rw [hG13]; exact pj_kpt_v kG11 rfl
  rw [← hG13]
  rw [pj_nm_e]
  refine pj_X_of (fun r h => pj_R_to (G13, 101, [(0, .ref 159), (1, .ref 21)], [.ref 21, .ref 159], 0, 0) 101 3 (fun _ => rfl) h) ?_
  refine pj_X_of (fun r h => pj_T_gi iG13 rfl rfl h) ?_
  show pj_X _ _ G13 104 [(0, .ref 159), (1, .ref 21)] [.int (pj_fi G13 21 8), .ref 159] _
  obtain ⟨y14, hy14⟩ : ∃ z : Int32, z = pj_fi G13 21 8 := ⟨_, rfl⟩
  rw [← hy14]
  rw [pj_nm_e]
  have ey14 : (pj_fi G13 21 8).toInt = y14.toInt := by rw [hy14]
  refine pj_X_of (fun r h => pj_T_pf iG13 rfl rfl rfl h) ?_
  show pj_X _ _ (pj_wv G13 159 8 (.int y14)) 107 [(0, .ref 159), (1, .ref 21)] [] _
  obtain ⟨G15, hG15⟩ : ∃ H, H = pj_wv G13 159 8 (.int y14) := ⟨_, rfl⟩
  have iG15 : pj_Inv G15 := by rw [hG15]; exact pj_Inv_wi iG13 (ci := 8) rfl (fun q hq => by cases hq)
  have kG15 : pj_kpt kc_68_159_21x G0 G15 := by rw [hG15]; exact pj_kpt_v kG13 rfl
  rw [← hG15]
  rw [pj_nm_e]
  have q16 : (pj_fi G15 159 0).toInt = y3.toInt := by rw [show pj_fi G15 159 0 = y3 from by rw [hG15, pj_fi_wv_ne _ _ _ _ _ _ (by decide)]; exact (by rw [hG13, pj_fi_wv_ne _ _ _ _ _ _ (by decide)]; exact (by rw [hG11, pj_fi_wc]; exact (by rw [hG10, pj_fi_wv_ne _ _ _ _ _ _ (by decide)]; exact (by rw [hG9, pj_fi_wc]; exact (by rw [hG8, pj_fi_wc]; exact (by rw [hG7, pj_fi_wc]; exact (by rw [hG6, pj_fi_wc]; exact (by rw [hG5]; exact pj_fi_wi hI.1 (ci := 8) rfl _))))))))]
  have q17 : (pj_fi G15 159 5).toInt = y4.toInt := by rw [show pj_fi G15 159 5 = y4 from by rw [hG15, pj_fi_wv_ne _ _ _ _ _ _ (by decide)]; exact (by rw [hG13, pj_fi_wv_ne _ _ _ _ _ _ (by decide)]; exact (by rw [hG11, pj_fi_wc]; exact (by rw [hG10]; exact pj_fi_wi iG9.1 (ci := 8) rfl _)))]
  have q18 : (pj_fi G15 21 0).toInt = y3.toInt := by rw [show pj_fi G15 21 0 = y3 from by rw [hG15, pj_fi_wv_ne _ _ _ _ _ _ (by decide)]; exact (by rw [hG13, pj_fi_wv_ne _ _ _ _ _ _ (by decide)]; exact (by rw [hG11, pj_fi_wc]; exact (by rw [hG10, pj_fi_wv_ne _ _ _ _ _ _ (by decide)]; exact (by rw [hG9, pj_fi_wc]; exact (by rw [hG8, pj_fi_wc]; exact (by rw [hG7, pj_fi_wc]; exact (by rw [hG6, pj_fi_wc]; exact (by rw [hG5, pj_fi_wv_ne _ _ _ _ _ _ (by decide)]; exact hy3.symm))))))))]
  have q19 : (pj_fi G15 21 5).toInt = y4.toInt := by rw [show pj_fi G15 21 5 = y4 from by rw [hG15, pj_fi_wv_ne _ _ _ _ _ _ (by decide)]; exact (by rw [hG13, pj_fi_wv_ne _ _ _ _ _ _ (by decide)]; exact (by rw [hG11, pj_fi_wc]; exact (by rw [hG10, pj_fi_wv_ne _ _ _ _ _ _ (by decide)]; exact (by rw [hG9, pj_fi_wc]; exact (by rw [hG8, pj_fi_wc]; exact (by rw [hG7, pj_fi_wc]; exact (by rw [hG6, pj_fi_wc]; exact (by rw [hG5, pj_fi_wv_ne _ _ _ _ _ _ (by decide)]; exact hy4.symm))))))))]
  exact pj_X_rt rfl rfl ⟨rfl, iG15, kG15, (fun H hH => by subst hH; exact (by omega)), rfl⟩
theorem fr_68_159_21x (G0 : pj_G) (hI : pj_Inv G0) : pj_Inv (F_68_159_21x G0) ∧ pj_kpt kc_68_159_21x G0 (F_68_159_21x G0) ∧ ((pj_fi (F_68_159_21x G0) 159 0).toInt = (pj_fi G0 21 0).toInt ∧ (pj_fi (F_68_159_21x G0) 159 5).toInt = (pj_fi G0 21 5).toInt) := by
  obtain ⟨v, G', -, -, i, j, x, e⟩ := ct_68_159_21x G0 hI 
  rw [← e]
  exact ⟨i, j, x _ rfl⟩
def kc_68_165_21x : pj_KT := ([(165, 0), (165, 5), (165, 7), (165, 8)], [165, 166, 167, 168, 169, 170], [166, 167, 168, 169, 170])
noncomputable def F_68_165_21x (G0 : pj_G) : pj_G := pj_nm (pj_fi G0 21 0) (fun y3 => pj_nm (pj_wv G0 165 0 (.int y3)) (fun G5 => pj_nm (pj_wc G5 22 166 6) (fun G6 => pj_nm (pj_wc G6 23 167 6) (fun G7 => pj_nm (pj_wc G7 24 168 6) (fun G8 => pj_nm (pj_wc G8 25 169 6) (fun G9 => pj_nm (pj_fi G0 21 5) (fun y4 => pj_nm (pj_wv G9 165 5 (.int y4)) (fun G10 => pj_nm (pj_wc G10 26 170 6) (fun G11 => pj_nm (pj_fi G11 21 7) (fun y12 => pj_nm (pj_wv G11 165 7 (.int y12)) (fun G13 => pj_nm (pj_fi G13 21 8) (fun y14 => pj_nm (pj_wv G13 165 8 (.int y14)) (fun G15 => G15)))))))))))))
theorem F_68_165_21x_e (G0 : pj_G) : F_68_165_21x G0 = pj_nm (pj_fi G0 21 0) (fun y3 => pj_nm (pj_wv G0 165 0 (.int y3)) (fun G5 => pj_nm (pj_wc G5 22 166 6) (fun G6 => pj_nm (pj_wc G6 23 167 6) (fun G7 => pj_nm (pj_wc G7 24 168 6) (fun G8 => pj_nm (pj_wc G8 25 169 6) (fun G9 => pj_nm (pj_fi G0 21 5) (fun y4 => pj_nm (pj_wv G9 165 5 (.int y4)) (fun G10 => pj_nm (pj_wc G10 26 170 6) (fun G11 => pj_nm (pj_fi G11 21 7) (fun y12 => pj_nm (pj_wv G11 165 7 (.int y12)) (fun G13 => pj_nm (pj_fi G13 21 8) (fun y14 => pj_nm (pj_wv G13 165 8 (.int y14)) (fun G15 => G15))))))))))))) := rfl
theorem ct_68_165_21x (G0 : pj_G) (hI : pj_Inv G0) : pj_Y 1 68 [.ref 165, .ref 21] G0 (fun v' G' => v' = none ∧ pj_Inv G' ∧ pj_kpt kc_68_165_21x G0 G' ∧ (∀ H, G0 = H → ((pj_fi G' 165 0).toInt = (pj_fi H 21 0).toInt ∧ (pj_fi G' 165 5).toInt = (pj_fi H 21 5).toInt)) ∧ (G' = F_68_165_21x G0)) := by
  have c0_ : ((Int8.ofInt 6).toInt32).toInt = 6 := by decide
  have c1_ : (Int32.ofInt 0).toInt = 0 := by decide
  refine pj_Y_X (M := pj_m68) rfl rfl (Nat.le_of_ble_eq_true rfl) ?_
  have hK : pj_kpt kc_68_165_21x G0 G0 := pj_kpt_r _ _
  show pj_X _ _ G0 0 [(0, .ref 165), (1, .ref 21)] [] _
  rw [F_68_165_21x_e]
  obtain ⟨y1, hy1⟩ : ∃ z : Int32, z = pj_fi G0 165 0 := ⟨_, rfl⟩
  have ey1 : (pj_fi G0 165 0).toInt = y1.toInt := by rw [hy1]
  have ry1 : (0 : Int) ≤ y1.toInt ∧ y1.toInt ≤ 6 := by rw [hy1]; exact hI.2.1 165 0 (0, 6) rfl
  obtain ⟨y2, hy2⟩ : ∃ z : Int32, z = pj_fi G0 165 5 := ⟨_, rfl⟩
  have ey2 : (pj_fi G0 165 5).toInt = y2.toInt := by rw [hy2]
  have ry2 : (0 : Int) ≤ y2.toInt ∧ y2.toInt ≤ 6 := by rw [hy2]; exact hI.2.1 165 5 (0, 6) rfl
  obtain ⟨y3, hy3⟩ : ∃ z : Int32, z = pj_fi G0 21 0 := ⟨_, rfl⟩
  have ey3 : (pj_fi G0 21 0).toInt = y3.toInt := by rw [hy3]
  have ry3 : (0 : Int) ≤ y3.toInt ∧ y3.toInt ≤ 6 := by rw [hy3]; exact hI.2.1 21 0 (0, 6) rfl
  obtain ⟨y4, hy4⟩ : ∃ z : Int32, z = pj_fi G0 21 5 := ⟨_, rfl⟩
  have ey4 : (pj_fi G0 21 5).toInt = y4.toInt := by rw [hy4]
  have ry4 : (0 : Int) ≤ y4.toInt ∧ y4.toInt ≤ 6 := by rw [hy4]; exact hI.2.1 21 5 (0, 6) rfl
  refine pj_X_of (fun r h => pj_R_to (G0, 2, [(0, .ref 165), (1, .ref 21)], [.ref 21, .ref 165], 0, 0) 2 3 (fun _ => rfl) h) ?_
  refine pj_X_of (fun r h => pj_T_gi hI rfl rfl h) ?_
  show pj_X _ _ G0 5 [(0, .ref 165), (1, .ref 21)] [.int (pj_fi G0 21 0), .ref 165] _
  rw [← hy3, pj_nm_e]
  refine pj_X_of (fun r h => pj_T_pf hI rfl rfl rfl h) ?_
  show pj_X _ _ (pj_wv G0 165 0 (.int y3)) 8 [(0, .ref 165), (1, .ref 21)] [] _
  obtain ⟨G5, hG5⟩ : ∃ H, H = pj_wv G0 165 0 (.int y3) := ⟨_, rfl⟩
  have iG5 : pj_Inv G5 := by rw [hG5]; exact pj_Inv_wi hI (ci := 8) rfl (fun q hq => by cases hq; exact ⟨by show (0 : Int) ≤ _; omega, by show _ ≤ (6 : Int); omega⟩)
  have kG5 : pj_kpt kc_68_165_21x G0 G5 := by rw [hG5]; exact pj_kpt_v hK rfl
  rw [← hG5]
  rw [pj_nm_e]
  refine pj_X_of (fun r h => pj_R_to (G5, 9, [(0, .ref 165), (1, .ref 21)], [.ref 21], 0, 0) 9 2 (fun _ => rfl) h) ?_
  refine pj_X_of (fun r h => pj_T_gr iG5 rfl rfl rfl h) ?_
  refine pj_X_of (fun r h => pj_R_to (G5, 14, [(0, .ref 165), (1, .ref 21)], [.ref 165, .int (Int32.ofInt 0), .ref 22], 0, 0) 14 3 (fun _ => rfl) h) ?_
  refine pj_X_of (fun r h => pj_T_gr iG5 rfl rfl rfl h) ?_
  refine pj_X_of (fun r h => pj_R_to (G5, 20, [(0, .ref 165), (1, .ref 21)], [.int ((Int8.ofInt 6).toInt32), .int (Int32.ofInt 0), .ref 166, .int (Int32.ofInt 0), .ref 22], 0, 0) 20 3 (fun _ => rfl) h) ?_
  refine pj_X_of (fun r h => pj_T_cp iG5 rfl rfl rfl rfl (by omega) (by omega) (by show _ = ((6 : Nat) : Int); omega) (Nat.le_of_ble_eq_true rfl) h) ?_
  show pj_X _ _ (pj_wc G5 22 166 6) 23 [(0, .ref 165), (1, .ref 21)] [] _
  obtain ⟨G6, hG6⟩ : ∃ H, H = pj_wc G5 22 166 6 := ⟨_, rfl⟩
  have iG6 : pj_Inv G6 := by rw [hG6]; exact pj_Inv_wc iG5 rfl rfl (fun q hq => by cases hq; exact ⟨rfl, by decide⟩) rfl
  have kG6 : pj_kpt kc_68_165_21x G0 G6 := by rw [hG6]; exact pj_kpt_c kG5 rfl
  rw [← hG6]
  rw [pj_nm_e]
  refine pj_X_of (fun r h => pj_R_to (G6, 24, [(0, .ref 165), (1, .ref 21)], [.ref 21], 0, 0) 24 2 (fun _ => rfl) h) ?_
  refine pj_X_of (fun r h => pj_T_gr iG6 rfl rfl rfl h) ?_
  refine pj_X_of (fun r h => pj_R_to (G6, 29, [(0, .ref 165), (1, .ref 21)], [.ref 165, .int (Int32.ofInt 0), .ref 23], 0, 0) 29 3 (fun _ => rfl) h) ?_
  refine pj_X_of (fun r h => pj_T_gr iG6 rfl rfl rfl h) ?_
  refine pj_X_of (fun r h => pj_R_to (G6, 35, [(0, .ref 165), (1, .ref 21)], [.int ((Int8.ofInt 6).toInt32), .int (Int32.ofInt 0), .ref 167, .int (Int32.ofInt 0), .ref 23], 0, 0) 35 3 (fun _ => rfl) h) ?_
  refine pj_X_of (fun r h => pj_T_cp iG6 rfl rfl rfl rfl (by omega) (by omega) (by show _ = ((6 : Nat) : Int); omega) (Nat.le_of_ble_eq_true rfl) h) ?_
  show pj_X _ _ (pj_wc G6 23 167 6) 38 [(0, .ref 165), (1, .ref 21)] [] _
  obtain ⟨G7, hG7⟩ : ∃ H, H = pj_wc G6 23 167 6 := ⟨_, rfl⟩
  have iG7 : pj_Inv G7 := by rw [hG7]; exact pj_Inv_wc iG6 rfl rfl (fun q hq => by cases hq) rfl
  have kG7 : pj_kpt kc_68_165_21x G0 G7 := by rw [hG7]; exact pj_kpt_c kG6 rfl
  rw [← hG7]
  rw [pj_nm_e]
  refine pj_X_of (fun r h => pj_R_to (G7, 39, [(0, .ref 165), (1, .ref 21)], [.ref 21], 0, 0) 39 2 (fun _ => rfl) h) ?_
  refine pj_X_of (fun r h => pj_T_gr iG7 rfl rfl rfl h) ?_
  refine pj_X_of (fun r h => pj_R_to (G7, 44, [(0, .ref 165), (1, .ref 21)], [.ref 165, .int (Int32.ofInt 0), .ref 24], 0, 0) 44 3 (fun _ => rfl) h) ?_
  refine pj_X_of (fun r h => pj_T_gr iG7 rfl rfl rfl h) ?_
  refine pj_X_of (fun r h => pj_R_to (G7, 50, [(0, .ref 165), (1, .ref 21)], [.int ((Int8.ofInt 6).toInt32), .int (Int32.ofInt 0), .ref 168, .int (Int32.ofInt 0), .ref 24], 0, 0) 50 3 (fun _ => rfl) h) ?_
  refine pj_X_of (fun r h => pj_T_cp iG7 rfl rfl rfl rfl (by omega) (by omega) (by show _ = ((6 : Nat) : Int); omega) (Nat.le_of_ble_eq_true rfl) h) ?_
  show pj_X _ _ (pj_wc G7 24 168 6) 53 [(0, .ref 165), (1, .ref 21)] [] _
  obtain ⟨G8, hG8⟩ : ∃ H, H = pj_wc G7 24 168 6 := ⟨_, rfl⟩
  have iG8 : pj_Inv G8 := by rw [hG8]; exact pj_Inv_wc iG7 rfl rfl (fun q hq => by cases hq) rfl
  have kG8 : pj_kpt kc_68_165_21x G0 G8 := by rw [hG8]; exact pj_kpt_c kG7 rfl
  rw [← hG8]
  rw [pj_nm_e]
  refine pj_X_of (fun r h => pj_R_to (G8, 54, [(0, .ref 165), (1, .ref 21)], [.ref 21], 0, 0) 54 2 (fun _ => rfl) h) ?_
  refine pj_X_of (fun r h => pj_T_gr iG8 rfl rfl rfl h) ?_
  refine pj_X_of (fun r h => pj_R_to (G8, 59, [(0, .ref 165), (1, .ref 21)], [.ref 165, .int (Int32.ofInt 0), .ref 25], 0, 0) 59 3 (fun _ => rfl) h) ?_
  refine pj_X_of (fun r h => pj_T_gr iG8 rfl rfl rfl h) ?_
  refine pj_X_of (fun r h => pj_R_to (G8, 65, [(0, .ref 165), (1, .ref 21)], [.int ((Int8.ofInt 6).toInt32), .int (Int32.ofInt 0), .ref 169, .int (Int32.ofInt 0), .ref 25], 0, 0) 65 3 (fun _ => rfl) h) ?_
  refine pj_X_of (fun r h => pj_T_cp iG8 rfl rfl rfl rfl (by omega) (by omega) (by show _ = ((6 : Nat) : Int); omega) (Nat.le_of_ble_eq_true rfl) h) ?_
  show pj_X _ _ (pj_wc G8 25 169 6) 68 [(0, .ref 165), (1, .ref 21)] [] _
  obtain ⟨G9, hG9⟩ : ∃ H, H = pj_wc G8 25 169 6 := ⟨_, rfl⟩
  have iG9 : pj_Inv G9 := by rw [hG9]; exact pj_Inv_wc iG8 rfl rfl (fun q hq => by cases hq) rfl
  have kG9 : pj_kpt kc_68_165_21x G0 G9 := by rw [hG9]; exact pj_kpt_c kG8 rfl
  rw [← hG9]
  rw [pj_nm_e]
  refine pj_X_of (fun r h => pj_R_to (G9, 70, [(0, .ref 165), (1, .ref 21)], [.ref 21, .ref 165], 0, 0) 70 3 (fun _ => rfl) h) ?_
  refine pj_X_of (fun r h => pj_T_gi iG9 rfl rfl h) ?_
  show pj_X _ _ G9 73 [(0, .ref 165), (1, .ref 21)] [.int (pj_fi G9 21 5), .ref 165] _
  rw [← hy4, pj_nm_e]
  rw [show pj_fi G9 21 5 = y4 from by rw [hG9, pj_fi_wc]; exact (by rw [hG8, pj_fi_wc]; exact (by rw [hG7, pj_fi_wc]; exact (by rw [hG6, pj_fi_wc]; exact (by rw [hG5, pj_fi_wv_ne _ _ _ _ _ _ (by decide)]; exact hy4.symm))))]
  refine pj_X_of (fun r h => pj_T_pf iG9 rfl rfl rfl h) ?_
  show pj_X _ _ (pj_wv G9 165 5 (.int y4)) 76 [(0, .ref 165), (1, .ref 21)] [] _
  obtain ⟨G10, hG10⟩ : ∃ H, H = pj_wv G9 165 5 (.int y4) := ⟨_, rfl⟩
  have iG10 : pj_Inv G10 := by rw [hG10]; exact pj_Inv_wi iG9 (ci := 8) rfl (fun q hq => by cases hq; exact ⟨by show (0 : Int) ≤ _; omega, by show _ ≤ (6 : Int); omega⟩)
  have kG10 : pj_kpt kc_68_165_21x G0 G10 := by rw [hG10]; exact pj_kpt_v kG9 rfl
  rw [← hG10]
  rw [pj_nm_e]
  refine pj_X_of (fun r h => pj_R_to (G10, 77, [(0, .ref 165), (1, .ref 21)], [.ref 21], 0, 0) 77 2 (fun _ => rfl) h) ?_
  refine pj_X_of (fun r h => pj_T_gr iG10 rfl rfl rfl h) ?_
  refine pj_X_of (fun r h => pj_R_to (G10, 82, [(0, .ref 165), (1, .ref 21)], [.ref 165, .int (Int32.ofInt 0), .ref 26], 0, 0) 82 3 (fun _ => rfl) h) ?_
  refine pj_X_of (fun r h => pj_T_gr iG10 rfl rfl rfl h) ?_
  refine pj_X_of (fun r h => pj_R_to (G10, 88, [(0, .ref 165), (1, .ref 21)], [.int ((Int8.ofInt 6).toInt32), .int (Int32.ofInt 0), .ref 170, .int (Int32.ofInt 0), .ref 26], 0, 0) 88 3 (fun _ => rfl) h) ?_
  refine pj_X_of (fun r h => pj_T_cp iG10 rfl rfl rfl rfl (by omega) (by omega) (by show _ = ((6 : Nat) : Int); omega) (Nat.le_of_ble_eq_true rfl) h) ?_
  show pj_X _ _ (pj_wc G10 26 170 6) 91 [(0, .ref 165), (1, .ref 21)] [] _
  obtain ⟨G11, hG11⟩ : ∃ H, H = pj_wc G10 26 170 6 := ⟨_, rfl⟩
  have iG11 : pj_Inv G11 := by rw [hG11]; exact pj_Inv_wc iG10 rfl rfl (fun q hq => by cases hq; exact ⟨rfl, by decide⟩) rfl
  have kG11 : pj_kpt kc_68_165_21x G0 G11 := by rw [hG11]; exact pj_kpt_c kG10 rfl
  rw [← hG11]
  rw [pj_nm_e]
  refine pj_X_of (fun r h => pj_R_to (G11, 93, [(0, .ref 165), (1, .ref 21)], [.ref 21, .ref 165], 0, 0) 93 3 (fun _ => rfl) h) ?_
  refine pj_X_of (fun r h => pj_T_gi iG11 rfl rfl h) ?_
  show pj_X _ _ G11 96 [(0, .ref 165), (1, .ref 21)] [.int (pj_fi G11 21 7), .ref 165] _
  obtain ⟨y12, hy12⟩ : ∃ z : Int32, z = pj_fi G11 21 7 := ⟨_, rfl⟩
  rw [← hy12]
  rw [pj_nm_e]
  have ey12 : (pj_fi G11 21 7).toInt = y12.toInt := by rw [hy12]
  refine pj_X_of (fun r h => pj_T_pf iG11 rfl rfl rfl h) ?_
  show pj_X _ _ (pj_wv G11 165 7 (.int y12)) 99 [(0, .ref 165), (1, .ref 21)] [] _
  obtain ⟨G13, hG13⟩ : ∃ H, H = pj_wv G11 165 7 (.int y12) := ⟨_, rfl⟩
  have iG13 : pj_Inv G13 := by rw [hG13]; exact pj_Inv_wi iG11 (ci := 8) rfl (fun q hq => by cases hq)
  have kG13 : pj_kpt kc_68_165_21x G0 G13 := by rw [hG13]; exact pj_kpt_v kG11 rfl
  rw [← hG13]
  rw [pj_nm_e]
  refine pj_X_of (fun r h => pj_R_to (G13, 101, [(0, .ref 165), (1, .ref 21)], [.ref 21, .ref 165], 0, 0) 101 3 (fun _ => rfl) h) ?_
  refine pj_X_of (fun r h => pj_T_gi iG13 rfl rfl h) ?_
  show pj_X _ _ G13 104 [(0, .ref 165), (1, .ref 21)] [.int (pj_fi G13 21 8), .ref 165] _
  obtain ⟨y14, hy14⟩ : ∃ z : Int32, z = pj_fi G13 21 8 := ⟨_, rfl⟩
  rw [← hy14]
  rw [pj_nm_e]
  have ey14 : (pj_fi G13 21 8).toInt = y14.toInt := by rw [hy14]
  refine pj_X_of (fun r h => pj_T_pf iG13 rfl rfl rfl h) ?_
  show pj_X _ _ (pj_wv G13 165 8 (.int y14)) 107 [(0, .ref 165), (1, .ref 21)] [] _
  obtain ⟨G15, hG15⟩ : ∃ H, H = pj_wv G13 165 8 (.int y14) := ⟨_, rfl⟩
  have iG15 : pj_Inv G15 := by rw [hG15]; exact pj_Inv_wi iG13 (ci := 8) rfl (fun q hq => by cases hq)
  have kG15 : pj_kpt kc_68_165_21x G0 G15 := by rw [hG15]; exact pj_kpt_v kG13 rfl
  rw [← hG15]
  rw [pj_nm_e]
  have q16 : (pj_fi G15 165 0).toInt = y3.toInt := by rw [show pj_fi G15 165 0 = y3 from by rw [hG15, pj_fi_wv_ne _ _ _ _ _ _ (by decide)]; exact (by rw [hG13, pj_fi_wv_ne _ _ _ _ _ _ (by decide)]; exact (by rw [hG11, pj_fi_wc]; exact (by rw [hG10, pj_fi_wv_ne _ _ _ _ _ _ (by decide)]; exact (by rw [hG9, pj_fi_wc]; exact (by rw [hG8, pj_fi_wc]; exact (by rw [hG7, pj_fi_wc]; exact (by rw [hG6, pj_fi_wc]; exact (by rw [hG5]; exact pj_fi_wi hI.1 (ci := 8) rfl _))))))))]
  have q17 : (pj_fi G15 165 5).toInt = y4.toInt := by rw [show pj_fi G15 165 5 = y4 from by rw [hG15, pj_fi_wv_ne _ _ _ _ _ _ (by decide)]; exact (by rw [hG13, pj_fi_wv_ne _ _ _ _ _ _ (by decide)]; exact (by rw [hG11, pj_fi_wc]; exact (by rw [hG10]; exact pj_fi_wi iG9.1 (ci := 8) rfl _)))]
  have q18 : (pj_fi G15 21 0).toInt = y3.toInt := by rw [show pj_fi G15 21 0 = y3 from by rw [hG15, pj_fi_wv_ne _ _ _ _ _ _ (by decide)]; exact (by rw [hG13, pj_fi_wv_ne _ _ _ _ _ _ (by decide)]; exact (by rw [hG11, pj_fi_wc]; exact (by rw [hG10, pj_fi_wv_ne _ _ _ _ _ _ (by decide)]; exact (by rw [hG9, pj_fi_wc]; exact (by rw [hG8, pj_fi_wc]; exact (by rw [hG7, pj_fi_wc]; exact (by rw [hG6, pj_fi_wc]; exact (by rw [hG5, pj_fi_wv_ne _ _ _ _ _ _ (by decide)]; exact hy3.symm))))))))]
  have q19 : (pj_fi G15 21 5).toInt = y4.toInt := by rw [show pj_fi G15 21 5 = y4 from by rw [hG15, pj_fi_wv_ne _ _ _ _ _ _ (by decide)]; exact (by rw [hG13, pj_fi_wv_ne _ _ _ _ _ _ (by decide)]; exact (by rw [hG11, pj_fi_wc]; exact (by rw [hG10, pj_fi_wv_ne _ _ _ _ _ _ (by decide)]; exact (by rw [hG9, pj_fi_wc]; exact (by rw [hG8, pj_fi_wc]; exact (by rw [hG7, pj_fi_wc]; exact (by rw [hG6, pj_fi_wc]; exact (by rw [hG5, pj_fi_wv_ne _ _ _ _ _ _ (by decide)]; exact hy4.symm))))))))]
  exact pj_X_rt rfl rfl ⟨rfl, iG15, kG15, (fun H hH => by subst hH; exact (by omega)), rfl⟩
theorem fr_68_165_21x (G0 : pj_G) (hI : pj_Inv G0) : pj_Inv (F_68_165_21x G0) ∧ pj_kpt kc_68_165_21x G0 (F_68_165_21x G0) ∧ ((pj_fi (F_68_165_21x G0) 165 0).toInt = (pj_fi G0 21 0).toInt ∧ (pj_fi (F_68_165_21x G0) 165 5).toInt = (pj_fi G0 21 5).toInt) := by
  obtain ⟨v, G', -, -, i, j, x, e⟩ := ct_68_165_21x G0 hI 
  rw [← e]
  exact ⟨i, j, x _ rfl⟩
def kc_68_21_57x : pj_KT := ([(21, 0), (21, 5), (21, 7), (21, 8)], [21, 22, 23, 24, 25, 26], [22, 23, 24, 25, 26])
noncomputable def F_68_21_57x (G0 : pj_G) : pj_G := pj_nm (pj_fi G0 57 0) (fun y3 => pj_nm (pj_wv G0 21 0 (.int y3)) (fun G5 => pj_nm (pj_wc G5 58 22 6) (fun G6 => pj_nm (pj_wc G6 59 23 6) (fun G7 => pj_nm (pj_wc G7 60 24 6) (fun G8 => pj_nm (pj_wc G8 61 25 6) (fun G9 => pj_nm (pj_fi G0 57 5) (fun y4 => pj_nm (pj_wv G9 21 5 (.int y4)) (fun G10 => pj_nm (pj_wc G10 62 26 6) (fun G11 => pj_nm (pj_fi G11 57 7) (fun y12 => pj_nm (pj_wv G11 21 7 (.int y12)) (fun G13 => pj_nm (pj_fi G13 57 8) (fun y14 => pj_nm (pj_wv G13 21 8 (.int y14)) (fun G15 => G15)))))))))))))
theorem F_68_21_57x_e (G0 : pj_G) : F_68_21_57x G0 = pj_nm (pj_fi G0 57 0) (fun y3 => pj_nm (pj_wv G0 21 0 (.int y3)) (fun G5 => pj_nm (pj_wc G5 58 22 6) (fun G6 => pj_nm (pj_wc G6 59 23 6) (fun G7 => pj_nm (pj_wc G7 60 24 6) (fun G8 => pj_nm (pj_wc G8 61 25 6) (fun G9 => pj_nm (pj_fi G0 57 5) (fun y4 => pj_nm (pj_wv G9 21 5 (.int y4)) (fun G10 => pj_nm (pj_wc G10 62 26 6) (fun G11 => pj_nm (pj_fi G11 57 7) (fun y12 => pj_nm (pj_wv G11 21 7 (.int y12)) (fun G13 => pj_nm (pj_fi G13 57 8) (fun y14 => pj_nm (pj_wv G13 21 8 (.int y14)) (fun G15 => G15))))))))))))) := rfl
theorem ct_68_21_57x (G0 : pj_G) (hI : pj_Inv G0) : pj_Y 1 68 [.ref 21, .ref 57] G0 (fun v' G' => v' = none ∧ pj_Inv G' ∧ pj_kpt kc_68_21_57x G0 G' ∧ (∀ H, G0 = H → ((pj_fi G' 21 0).toInt = (pj_fi H 57 0).toInt ∧ (pj_fi G' 21 5).toInt = (pj_fi H 57 5).toInt)) ∧ (G' = F_68_21_57x G0)) := by
  have c0_ : ((Int8.ofInt 6).toInt32).toInt = 6 := by decide
  have c1_ : (Int32.ofInt 0).toInt = 0 := by decide
  refine pj_Y_X (M := pj_m68) rfl rfl (Nat.le_of_ble_eq_true rfl) ?_
  have hK : pj_kpt kc_68_21_57x G0 G0 := pj_kpt_r _ _
  show pj_X _ _ G0 0 [(0, .ref 21), (1, .ref 57)] [] _
  rw [F_68_21_57x_e]
  obtain ⟨y1, hy1⟩ : ∃ z : Int32, z = pj_fi G0 21 0 := ⟨_, rfl⟩
  have ey1 : (pj_fi G0 21 0).toInt = y1.toInt := by rw [hy1]
  have ry1 : (0 : Int) ≤ y1.toInt ∧ y1.toInt ≤ 6 := by rw [hy1]; exact hI.2.1 21 0 (0, 6) rfl
  obtain ⟨y2, hy2⟩ : ∃ z : Int32, z = pj_fi G0 21 5 := ⟨_, rfl⟩
  have ey2 : (pj_fi G0 21 5).toInt = y2.toInt := by rw [hy2]
  have ry2 : (0 : Int) ≤ y2.toInt ∧ y2.toInt ≤ 6 := by rw [hy2]; exact hI.2.1 21 5 (0, 6) rfl
  obtain ⟨y3, hy3⟩ : ∃ z : Int32, z = pj_fi G0 57 0 := ⟨_, rfl⟩
  have ey3 : (pj_fi G0 57 0).toInt = y3.toInt := by rw [hy3]
  have ry3 : (0 : Int) ≤ y3.toInt ∧ y3.toInt ≤ 6 := by rw [hy3]; exact hI.2.1 57 0 (0, 6) rfl
  obtain ⟨y4, hy4⟩ : ∃ z : Int32, z = pj_fi G0 57 5 := ⟨_, rfl⟩
  have ey4 : (pj_fi G0 57 5).toInt = y4.toInt := by rw [hy4]
  have ry4 : (0 : Int) ≤ y4.toInt ∧ y4.toInt ≤ 6 := by rw [hy4]; exact hI.2.1 57 5 (0, 6) rfl
  refine pj_X_of (fun r h => pj_R_to (G0, 2, [(0, .ref 21), (1, .ref 57)], [.ref 57, .ref 21], 0, 0) 2 3 (fun _ => rfl) h) ?_
  refine pj_X_of (fun r h => pj_T_gi hI rfl rfl h) ?_
  show pj_X _ _ G0 5 [(0, .ref 21), (1, .ref 57)] [.int (pj_fi G0 57 0), .ref 21] _
  rw [← hy3, pj_nm_e]
  refine pj_X_of (fun r h => pj_T_pf hI rfl rfl rfl h) ?_
  show pj_X _ _ (pj_wv G0 21 0 (.int y3)) 8 [(0, .ref 21), (1, .ref 57)] [] _
  obtain ⟨G5, hG5⟩ : ∃ H, H = pj_wv G0 21 0 (.int y3) := ⟨_, rfl⟩
  have iG5 : pj_Inv G5 := by rw [hG5]; exact pj_Inv_wi hI (ci := 8) rfl (fun q hq => by cases hq; exact ⟨by show (0 : Int) ≤ _; omega, by show _ ≤ (6 : Int); omega⟩)
  have kG5 : pj_kpt kc_68_21_57x G0 G5 := by rw [hG5]; exact pj_kpt_v hK rfl
  rw [← hG5]
  rw [pj_nm_e]
  refine pj_X_of (fun r h => pj_R_to (G5, 9, [(0, .ref 21), (1, .ref 57)], [.ref 57], 0, 0) 9 2 (fun _ => rfl) h) ?_
  refine pj_X_of (fun r h => pj_T_gr iG5 rfl rfl rfl h) ?_
  refine pj_X_of (fun r h => pj_R_to (G5, 14, [(0, .ref 21), (1, .ref 57)], [.ref 21, .int (Int32.ofInt 0), .ref 58], 0, 0) 14 3 (fun _ => rfl) h) ?_
  refine pj_X_of (fun r h => pj_T_gr iG5 rfl rfl rfl h) ?_
  refine pj_X_of (fun r h => pj_R_to (G5, 20, [(0, .ref 21), (1, .ref 57)], [.int ((Int8.ofInt 6).toInt32), .int (Int32.ofInt 0), .ref 22, .int (Int32.ofInt 0), .ref 58], 0, 0) 20 3 (fun _ => rfl) h) ?_
  refine pj_X_of (fun r h => pj_T_cp iG5 rfl rfl rfl rfl (by omega) (by omega) (by show _ = ((6 : Nat) : Int); omega) (Nat.le_of_ble_eq_true rfl) h) ?_
  show pj_X _ _ (pj_wc G5 58 22 6) 23 [(0, .ref 21), (1, .ref 57)] [] _
  obtain ⟨G6, hG6⟩ : ∃ H, H = pj_wc G5 58 22 6 := ⟨_, rfl⟩
  have iG6 : pj_Inv G6 := by rw [hG6]; exact pj_Inv_wc iG5 rfl rfl (fun q hq => by cases hq; exact ⟨rfl, by decide⟩) rfl
  have kG6 : pj_kpt kc_68_21_57x G0 G6 := by rw [hG6]; exact pj_kpt_c kG5 rfl
  rw [← hG6]
  rw [pj_nm_e]
  refine pj_X_of (fun r h => pj_R_to (G6, 24, [(0, .ref 21), (1, .ref 57)], [.ref 57], 0, 0) 24 2 (fun _ => rfl) h) ?_
  refine pj_X_of (fun r h => pj_T_gr iG6 rfl rfl rfl h) ?_
  refine pj_X_of (fun r h => pj_R_to (G6, 29, [(0, .ref 21), (1, .ref 57)], [.ref 21, .int (Int32.ofInt 0), .ref 59], 0, 0) 29 3 (fun _ => rfl) h) ?_
  refine pj_X_of (fun r h => pj_T_gr iG6 rfl rfl rfl h) ?_
  refine pj_X_of (fun r h => pj_R_to (G6, 35, [(0, .ref 21), (1, .ref 57)], [.int ((Int8.ofInt 6).toInt32), .int (Int32.ofInt 0), .ref 23, .int (Int32.ofInt 0), .ref 59], 0, 0) 35 3 (fun _ => rfl) h) ?_
  refine pj_X_of (fun r h => pj_T_cp iG6 rfl rfl rfl rfl (by omega) (by omega) (by show _ = ((6 : Nat) : Int); omega) (Nat.le_of_ble_eq_true rfl) h) ?_
  show pj_X _ _ (pj_wc G6 59 23 6) 38 [(0, .ref 21), (1, .ref 57)] [] _
  obtain ⟨G7, hG7⟩ : ∃ H, H = pj_wc G6 59 23 6 := ⟨_, rfl⟩
  have iG7 : pj_Inv G7 := by rw [hG7]; exact pj_Inv_wc iG6 rfl rfl (fun q hq => by cases hq) rfl
  have kG7 : pj_kpt kc_68_21_57x G0 G7 := by rw [hG7]; exact pj_kpt_c kG6 rfl
  rw [← hG7]
  rw [pj_nm_e]
  refine pj_X_of (fun r h => pj_R_to (G7, 39, [(0, .ref 21), (1, .ref 57)], [.ref 57], 0, 0) 39 2 (fun _ => rfl) h) ?_
  refine pj_X_of (fun r h => pj_T_gr iG7 rfl rfl rfl h) ?_
  refine pj_X_of (fun r h => pj_R_to (G7, 44, [(0, .ref 21), (1, .ref 57)], [.ref 21, .int (Int32.ofInt 0), .ref 60], 0, 0) 44 3 (fun _ => rfl) h) ?_
  refine pj_X_of (fun r h => pj_T_gr iG7 rfl rfl rfl h) ?_
  refine pj_X_of (fun r h => pj_R_to (G7, 50, [(0, .ref 21), (1, .ref 57)], [.int ((Int8.ofInt 6).toInt32), .int (Int32.ofInt 0), .ref 24, .int (Int32.ofInt 0), .ref 60], 0, 0) 50 3 (fun _ => rfl) h) ?_
  refine pj_X_of (fun r h => pj_T_cp iG7 rfl rfl rfl rfl (by omega) (by omega) (by show _ = ((6 : Nat) : Int); omega) (Nat.le_of_ble_eq_true rfl) h) ?_
  show pj_X _ _ (pj_wc G7 60 24 6) 53 [(0, .ref 21), (1, .ref 57)] [] _
  obtain ⟨G8, hG8⟩ : ∃ H, H = pj_wc G7 60 24 6 := ⟨_, rfl⟩
  have iG8 : pj_Inv G8 := by rw [hG8]; exact pj_Inv_wc iG7 rfl rfl (fun q hq => by cases hq) rfl
  have kG8 : pj_kpt kc_68_21_57x G0 G8 := by rw [hG8]; exact pj_kpt_c kG7 rfl
  rw [← hG8]
  rw [pj_nm_e]
  refine pj_X_of (fun r h => pj_R_to (G8, 54, [(0, .ref 21), (1, .ref 57)], [.ref 57], 0, 0) 54 2 (fun _ => rfl) h) ?_
  refine pj_X_of (fun r h => pj_T_gr iG8 rfl rfl rfl h) ?_
  refine pj_X_of (fun r h => pj_R_to (G8, 59, [(0, .ref 21), (1, .ref 57)], [.ref 21, .int (Int32.ofInt 0), .ref 61], 0, 0) 59 3 (fun _ => rfl) h) ?_
  refine pj_X_of (fun r h => pj_T_gr iG8 rfl rfl rfl h) ?_
  refine pj_X_of (fun r h => pj_R_to (G8, 65, [(0, .ref 21), (1, .ref 57)], [.int ((Int8.ofInt 6).toInt32), .int (Int32.ofInt 0), .ref 25, .int (Int32.ofInt 0), .ref 61], 0, 0) 65 3 (fun _ => rfl) h) ?_
  refine pj_X_of (fun r h => pj_T_cp iG8 rfl rfl rfl rfl (by omega) (by omega) (by show _ = ((6 : Nat) : Int); omega) (Nat.le_of_ble_eq_true rfl) h) ?_
  show pj_X _ _ (pj_wc G8 61 25 6) 68 [(0, .ref 21), (1, .ref 57)] [] _
  obtain ⟨G9, hG9⟩ : ∃ H, H = pj_wc G8 61 25 6 := ⟨_, rfl⟩
  have iG9 : pj_Inv G9 := by rw [hG9]; exact pj_Inv_wc iG8 rfl rfl (fun q hq => by cases hq) rfl
  have kG9 : pj_kpt kc_68_21_57x G0 G9 := by rw [hG9]; exact pj_kpt_c kG8 rfl
  rw [← hG9]
  rw [pj_nm_e]
  refine pj_X_of (fun r h => pj_R_to (G9, 70, [(0, .ref 21), (1, .ref 57)], [.ref 57, .ref 21], 0, 0) 70 3 (fun _ => rfl) h) ?_
  refine pj_X_of (fun r h => pj_T_gi iG9 rfl rfl h) ?_
  show pj_X _ _ G9 73 [(0, .ref 21), (1, .ref 57)] [.int (pj_fi G9 57 5), .ref 21] _
  rw [← hy4, pj_nm_e]
  rw [show pj_fi G9 57 5 = y4 from by rw [hG9, pj_fi_wc]; exact (by rw [hG8, pj_fi_wc]; exact (by rw [hG7, pj_fi_wc]; exact (by rw [hG6, pj_fi_wc]; exact (by rw [hG5, pj_fi_wv_ne _ _ _ _ _ _ (by decide)]; exact hy4.symm))))]
  refine pj_X_of (fun r h => pj_T_pf iG9 rfl rfl rfl h) ?_
  show pj_X _ _ (pj_wv G9 21 5 (.int y4)) 76 [(0, .ref 21), (1, .ref 57)] [] _
  obtain ⟨G10, hG10⟩ : ∃ H, H = pj_wv G9 21 5 (.int y4) := ⟨_, rfl⟩
  have iG10 : pj_Inv G10 := by rw [hG10]; exact pj_Inv_wi iG9 (ci := 8) rfl (fun q hq => by cases hq; exact ⟨by show (0 : Int) ≤ _; omega, by show _ ≤ (6 : Int); omega⟩)
  have kG10 : pj_kpt kc_68_21_57x G0 G10 := by rw [hG10]; exact pj_kpt_v kG9 rfl
  rw [← hG10]
  rw [pj_nm_e]
  refine pj_X_of (fun r h => pj_R_to (G10, 77, [(0, .ref 21), (1, .ref 57)], [.ref 57], 0, 0) 77 2 (fun _ => rfl) h) ?_
  refine pj_X_of (fun r h => pj_T_gr iG10 rfl rfl rfl h) ?_
  refine pj_X_of (fun r h => pj_R_to (G10, 82, [(0, .ref 21), (1, .ref 57)], [.ref 21, .int (Int32.ofInt 0), .ref 62], 0, 0) 82 3 (fun _ => rfl) h) ?_
  refine pj_X_of (fun r h => pj_T_gr iG10 rfl rfl rfl h) ?_
  refine pj_X_of (fun r h => pj_R_to (G10, 88, [(0, .ref 21), (1, .ref 57)], [.int ((Int8.ofInt 6).toInt32), .int (Int32.ofInt 0), .ref 26, .int (Int32.ofInt 0), .ref 62], 0, 0) 88 3 (fun _ => rfl) h) ?_
  refine pj_X_of (fun r h => pj_T_cp iG10 rfl rfl rfl rfl (by omega) (by omega) (by show _ = ((6 : Nat) : Int); omega) (Nat.le_of_ble_eq_true rfl) h) ?_
  show pj_X _ _ (pj_wc G10 62 26 6) 91 [(0, .ref 21), (1, .ref 57)] [] _
  obtain ⟨G11, hG11⟩ : ∃ H, H = pj_wc G10 62 26 6 := ⟨_, rfl⟩
  have iG11 : pj_Inv G11 := by rw [hG11]; exact pj_Inv_wc iG10 rfl rfl (fun q hq => by cases hq; exact ⟨rfl, by decide⟩) rfl
  have kG11 : pj_kpt kc_68_21_57x G0 G11 := by rw [hG11]; exact pj_kpt_c kG10 rfl
  rw [← hG11]
  rw [pj_nm_e]
  refine pj_X_of (fun r h => pj_R_to (G11, 93, [(0, .ref 21), (1, .ref 57)], [.ref 57, .ref 21], 0, 0) 93 3 (fun _ => rfl) h) ?_
  refine pj_X_of (fun r h => pj_T_gi iG11 rfl rfl h) ?_
  show pj_X _ _ G11 96 [(0, .ref 21), (1, .ref 57)] [.int (pj_fi G11 57 7), .ref 21] _
  obtain ⟨y12, hy12⟩ : ∃ z : Int32, z = pj_fi G11 57 7 := ⟨_, rfl⟩
  rw [← hy12]
  rw [pj_nm_e]
  have ey12 : (pj_fi G11 57 7).toInt = y12.toInt := by rw [hy12]
  refine pj_X_of (fun r h => pj_T_pf iG11 rfl rfl rfl h) ?_
  show pj_X _ _ (pj_wv G11 21 7 (.int y12)) 99 [(0, .ref 21), (1, .ref 57)] [] _
  obtain ⟨G13, hG13⟩ : ∃ H, H = pj_wv G11 21 7 (.int y12) := ⟨_, rfl⟩
  have iG13 : pj_Inv G13 := by rw [hG13]; exact pj_Inv_wi iG11 (ci := 8) rfl (fun q hq => by cases hq)
  have kG13 : pj_kpt kc_68_21_57x G0 G13 := by rw [hG13]; exact pj_kpt_v kG11 rfl
  rw [← hG13]
  rw [pj_nm_e]
  refine pj_X_of (fun r h => pj_R_to (G13, 101, [(0, .ref 21), (1, .ref 57)], [.ref 57, .ref 21], 0, 0) 101 3 (fun _ => rfl) h) ?_
  refine pj_X_of (fun r h => pj_T_gi iG13 rfl rfl h) ?_
  show pj_X _ _ G13 104 [(0, .ref 21), (1, .ref 57)] [.int (pj_fi G13 57 8), .ref 21] _
  obtain ⟨y14, hy14⟩ : ∃ z : Int32, z = pj_fi G13 57 8 := ⟨_, rfl⟩
  rw [← hy14]
  rw [pj_nm_e]
  have ey14 : (pj_fi G13 57 8).toInt = y14.toInt := by rw [hy14]
  refine pj_X_of (fun r h => pj_T_pf iG13 rfl rfl rfl h) ?_
  show pj_X _ _ (pj_wv G13 21 8 (.int y14)) 107 [(0, .ref 21), (1, .ref 57)] [] _
  obtain ⟨G15, hG15⟩ : ∃ H, H = pj_wv G13 21 8 (.int y14) := ⟨_, rfl⟩
  have iG15 : pj_Inv G15 := by rw [hG15]; exact pj_Inv_wi iG13 (ci := 8) rfl (fun q hq => by cases hq)
  have kG15 : pj_kpt kc_68_21_57x G0 G15 := by rw [hG15]; exact pj_kpt_v kG13 rfl
  rw [← hG15]
  rw [pj_nm_e]
  have q16 : (pj_fi G15 21 0).toInt = y3.toInt := by rw [show pj_fi G15 21 0 = y3 from by rw [hG15, pj_fi_wv_ne _ _ _ _ _ _ (by decide)]; exact (by rw [hG13, pj_fi_wv_ne _ _ _ _ _ _ (by decide)]; exact (by rw [hG11, pj_fi_wc]; exact (by rw [hG10, pj_fi_wv_ne _ _ _ _ _ _ (by decide)]; exact (by rw [hG9, pj_fi_wc]; exact (by rw [hG8, pj_fi_wc]; exact (by rw [hG7, pj_fi_wc]; exact (by rw [hG6, pj_fi_wc]; exact (by rw [hG5]; exact pj_fi_wi hI.1 (ci := 8) rfl _))))))))]
  have q17 : (pj_fi G15 21 5).toInt = y4.toInt := by rw [show pj_fi G15 21 5 = y4 from by rw [hG15, pj_fi_wv_ne _ _ _ _ _ _ (by decide)]; exact (by rw [hG13, pj_fi_wv_ne _ _ _ _ _ _ (by decide)]; exact (by rw [hG11, pj_fi_wc]; exact (by rw [hG10]; exact pj_fi_wi iG9.1 (ci := 8) rfl _)))]
  have q18 : (pj_fi G15 57 0).toInt = y3.toInt := by rw [show pj_fi G15 57 0 = y3 from by rw [hG15, pj_fi_wv_ne _ _ _ _ _ _ (by decide)]; exact (by rw [hG13, pj_fi_wv_ne _ _ _ _ _ _ (by decide)]; exact (by rw [hG11, pj_fi_wc]; exact (by rw [hG10, pj_fi_wv_ne _ _ _ _ _ _ (by decide)]; exact (by rw [hG9, pj_fi_wc]; exact (by rw [hG8, pj_fi_wc]; exact (by rw [hG7, pj_fi_wc]; exact (by rw [hG6, pj_fi_wc]; exact (by rw [hG5, pj_fi_wv_ne _ _ _ _ _ _ (by decide)]; exact hy3.symm))))))))]
  have q19 : (pj_fi G15 57 5).toInt = y4.toInt := by rw [show pj_fi G15 57 5 = y4 from by rw [hG15, pj_fi_wv_ne _ _ _ _ _ _ (by decide)]; exact (by rw [hG13, pj_fi_wv_ne _ _ _ _ _ _ (by decide)]; exact (by rw [hG11, pj_fi_wc]; exact (by rw [hG10, pj_fi_wv_ne _ _ _ _ _ _ (by decide)]; exact (by rw [hG9, pj_fi_wc]; exact (by rw [hG8, pj_fi_wc]; exact (by rw [hG7, pj_fi_wc]; exact (by rw [hG6, pj_fi_wc]; exact (by rw [hG5, pj_fi_wv_ne _ _ _ _ _ _ (by decide)]; exact hy4.symm))))))))]
  exact pj_X_rt rfl rfl ⟨rfl, iG15, kG15, (fun H hH => by subst hH; exact (by omega)), rfl⟩
theorem fr_68_21_57x (G0 : pj_G) (hI : pj_Inv G0) : pj_Inv (F_68_21_57x G0) ∧ pj_kpt kc_68_21_57x G0 (F_68_21_57x G0) ∧ ((pj_fi (F_68_21_57x G0) 21 0).toInt = (pj_fi G0 57 0).toInt ∧ (pj_fi (F_68_21_57x G0) 21 5).toInt = (pj_fi G0 57 5).toInt) := by
  obtain ⟨v, G', -, -, i, j, x, e⟩ := ct_68_21_57x G0 hI 
  rw [← e]
  exact ⟨i, j, x _ rfl⟩
def kc_68_21_63x : pj_KT := ([(21, 0), (21, 5), (21, 7), (21, 8)], [21, 22, 23, 24, 25, 26], [22, 23, 24, 25, 26])
noncomputable def F_68_21_63x (G0 : pj_G) : pj_G := pj_nm (pj_fi G0 63 0) (fun y3 => pj_nm (pj_wv G0 21 0 (.int y3)) (fun G5 => pj_nm (pj_wc G5 64 22 6) (fun G6 => pj_nm (pj_wc G6 65 23 6) (fun G7 => pj_nm (pj_wc G7 66 24 6) (fun G8 => pj_nm (pj_wc G8 67 25 6) (fun G9 => pj_nm (pj_fi G0 63 5) (fun y4 => pj_nm (pj_wv G9 21 5 (.int y4)) (fun G10 => pj_nm (pj_wc G10 68 26 6) (fun G11 => pj_nm (pj_fi G11 63 7) (fun y12 => pj_nm (pj_wv G11 21 7 (.int y12)) (fun G13 => pj_nm (pj_fi G13 63 8) (fun y14 => pj_nm (pj_wv G13 21 8 (.int y14)) (fun G15 => G15)))))))))))))
theorem F_68_21_63x_e (G0 : pj_G) : F_68_21_63x G0 = pj_nm (pj_fi G0 63 0) (fun y3 => pj_nm (pj_wv G0 21 0 (.int y3)) (fun G5 => pj_nm (pj_wc G5 64 22 6) (fun G6 => pj_nm (pj_wc G6 65 23 6) (fun G7 => pj_nm (pj_wc G7 66 24 6) (fun G8 => pj_nm (pj_wc G8 67 25 6) (fun G9 => pj_nm (pj_fi G0 63 5) (fun y4 => pj_nm (pj_wv G9 21 5 (.int y4)) (fun G10 => pj_nm (pj_wc G10 68 26 6) (fun G11 => pj_nm (pj_fi G11 63 7) (fun y12 => pj_nm (pj_wv G11 21 7 (.int y12)) (fun G13 => pj_nm (pj_fi G13 63 8) (fun y14 => pj_nm (pj_wv G13 21 8 (.int y14)) (fun G15 => G15))))))))))))) := rfl
theorem ct_68_21_63x (G0 : pj_G) (hI : pj_Inv G0) : pj_Y 1 68 [.ref 21, .ref 63] G0 (fun v' G' => v' = none ∧ pj_Inv G' ∧ pj_kpt kc_68_21_63x G0 G' ∧ (∀ H, G0 = H → ((pj_fi G' 21 0).toInt = (pj_fi H 63 0).toInt ∧ (pj_fi G' 21 5).toInt = (pj_fi H 63 5).toInt)) ∧ (G' = F_68_21_63x G0)) := by
  have c0_ : ((Int8.ofInt 6).toInt32).toInt = 6 := by decide
  have c1_ : (Int32.ofInt 0).toInt = 0 := by decide
  refine pj_Y_X (M := pj_m68) rfl rfl (Nat.le_of_ble_eq_true rfl) ?_
  have hK : pj_kpt kc_68_21_63x G0 G0 := pj_kpt_r _ _
  show pj_X _ _ G0 0 [(0, .ref 21), (1, .ref 63)] [] _
  rw [F_68_21_63x_e]
  obtain ⟨y1, hy1⟩ : ∃ z : Int32, z = pj_fi G0 21 0 := ⟨_, rfl⟩
  have ey1 : (pj_fi G0 21 0).toInt = y1.toInt := by rw [hy1]
  have ry1 : (0 : Int) ≤ y1.toInt ∧ y1.toInt ≤ 6 := by rw [hy1]; exact hI.2.1 21 0 (0, 6) rfl
  obtain ⟨y2, hy2⟩ : ∃ z : Int32, z = pj_fi G0 21 5 := ⟨_, rfl⟩
  have ey2 : (pj_fi G0 21 5).toInt = y2.toInt := by rw [hy2]
  have ry2 : (0 : Int) ≤ y2.toInt ∧ y2.toInt ≤ 6 := by rw [hy2]; exact hI.2.1 21 5 (0, 6) rfl
  obtain ⟨y3, hy3⟩ : ∃ z : Int32, z = pj_fi G0 63 0 := ⟨_, rfl⟩
  have ey3 : (pj_fi G0 63 0).toInt = y3.toInt := by rw [hy3]
  have ry3 : (0 : Int) ≤ y3.toInt ∧ y3.toInt ≤ 6 := by rw [hy3]; exact hI.2.1 63 0 (0, 6) rfl
  obtain ⟨y4, hy4⟩ : ∃ z : Int32, z = pj_fi G0 63 5 := ⟨_, rfl⟩
  have ey4 : (pj_fi G0 63 5).toInt = y4.toInt := by rw [hy4]
  have ry4 : (0 : Int) ≤ y4.toInt ∧ y4.toInt ≤ 6 := by rw [hy4]; exact hI.2.1 63 5 (0, 6) rfl
  refine pj_X_of (fun r h => pj_R_to (G0, 2, [(0, .ref 21), (1, .ref 63)], [.ref 63, .ref 21], 0, 0) 2 3 (fun _ => rfl) h) ?_
  refine pj_X_of (fun r h => pj_T_gi hI rfl rfl h) ?_
  show pj_X _ _ G0 5 [(0, .ref 21), (1, .ref 63)] [.int (pj_fi G0 63 0), .ref 21] _
  rw [← hy3, pj_nm_e]
  refine pj_X_of (fun r h => pj_T_pf hI rfl rfl rfl h) ?_
  show pj_X _ _ (pj_wv G0 21 0 (.int y3)) 8 [(0, .ref 21), (1, .ref 63)] [] _
  obtain ⟨G5, hG5⟩ : ∃ H, H = pj_wv G0 21 0 (.int y3) := ⟨_, rfl⟩
  have iG5 : pj_Inv G5 := by rw [hG5]; exact pj_Inv_wi hI (ci := 8) rfl (fun q hq => by cases hq; exact ⟨by show (0 : Int) ≤ _; omega, by show _ ≤ (6 : Int); omega⟩)
  have kG5 : pj_kpt kc_68_21_63x G0 G5 := by rw [hG5]; exact pj_kpt_v hK rfl
  rw [← hG5]
  rw [pj_nm_e]
  refine pj_X_of (fun r h => pj_R_to (G5, 9, [(0, .ref 21), (1, .ref 63)], [.ref 63], 0, 0) 9 2 (fun _ => rfl) h) ?_
  refine pj_X_of (fun r h => pj_T_gr iG5 rfl rfl rfl h) ?_
  refine pj_X_of (fun r h => pj_R_to (G5, 14, [(0, .ref 21), (1, .ref 63)], [.ref 21, .int (Int32.ofInt 0), .ref 64], 0, 0) 14 3 (fun _ => rfl) h) ?_
  refine pj_X_of (fun r h => pj_T_gr iG5 rfl rfl rfl h) ?_
  refine pj_X_of (fun r h => pj_R_to (G5, 20, [(0, .ref 21), (1, .ref 63)], [.int ((Int8.ofInt 6).toInt32), .int (Int32.ofInt 0), .ref 22, .int (Int32.ofInt 0), .ref 64], 0, 0) 20 3 (fun _ => rfl) h) ?_
  refine pj_X_of (fun r h => pj_T_cp iG5 rfl rfl rfl rfl (by omega) (by omega) (by show _ = ((6 : Nat) : Int); omega) (Nat.le_of_ble_eq_true rfl) h) ?_
  show pj_X _ _ (pj_wc G5 64 22 6) 23 [(0, .ref 21), (1, .ref 63)] [] _
  obtain ⟨G6, hG6⟩ : ∃ H, H = pj_wc G5 64 22 6 := ⟨_, rfl⟩
  have iG6 : pj_Inv G6 := by rw [hG6]; exact pj_Inv_wc iG5 rfl rfl (fun q hq => by cases hq; exact ⟨rfl, by decide⟩) rfl
  have kG6 : pj_kpt kc_68_21_63x G0 G6 := by rw [hG6]; exact pj_kpt_c kG5 rfl
  rw [← hG6]
  rw [pj_nm_e]
  refine pj_X_of (fun r h => pj_R_to (G6, 24, [(0, .ref 21), (1, .ref 63)], [.ref 63], 0, 0) 24 2 (fun _ => rfl) h) ?_
  refine pj_X_of (fun r h => pj_T_gr iG6 rfl rfl rfl h) ?_
  refine pj_X_of (fun r h => pj_R_to (G6, 29, [(0, .ref 21), (1, .ref 63)], [.ref 21, .int (Int32.ofInt 0), .ref 65], 0, 0) 29 3 (fun _ => rfl) h) ?_
  refine pj_X_of (fun r h => pj_T_gr iG6 rfl rfl rfl h) ?_
  refine pj_X_of (fun r h => pj_R_to (G6, 35, [(0, .ref 21), (1, .ref 63)], [.int ((Int8.ofInt 6).toInt32), .int (Int32.ofInt 0), .ref 23, .int (Int32.ofInt 0), .ref 65], 0, 0) 35 3 (fun _ => rfl) h) ?_
  refine pj_X_of (fun r h => pj_T_cp iG6 rfl rfl rfl rfl (by omega) (by omega) (by show _ = ((6 : Nat) : Int); omega) (Nat.le_of_ble_eq_true rfl) h) ?_
  show pj_X _ _ (pj_wc G6 65 23 6) 38 [(0, .ref 21), (1, .ref 63)] [] _
  obtain ⟨G7, hG7⟩ : ∃ H, H = pj_wc G6 65 23 6 := ⟨_, rfl⟩
  have iG7 : pj_Inv G7 := by rw [hG7]; exact pj_Inv_wc iG6 rfl rfl (fun q hq => by cases hq) rfl
  have kG7 : pj_kpt kc_68_21_63x G0 G7 := by rw [hG7]; exact pj_kpt_c kG6 rfl
  rw [← hG7]
  rw [pj_nm_e]
  refine pj_X_of (fun r h => pj_R_to (G7, 39, [(0, .ref 21), (1, .ref 63)], [.ref 63], 0, 0) 39 2 (fun _ => rfl) h) ?_
  refine pj_X_of (fun r h => pj_T_gr iG7 rfl rfl rfl h) ?_
  refine pj_X_of (fun r h => pj_R_to (G7, 44, [(0, .ref 21), (1, .ref 63)], [.ref 21, .int (Int32.ofInt 0), .ref 66], 0, 0) 44 3 (fun _ => rfl) h) ?_
  refine pj_X_of (fun r h => pj_T_gr iG7 rfl rfl rfl h) ?_
  refine pj_X_of (fun r h => pj_R_to (G7, 50, [(0, .ref 21), (1, .ref 63)], [.int ((Int8.ofInt 6).toInt32), .int (Int32.ofInt 0), .ref 24, .int (Int32.ofInt 0), .ref 66], 0, 0) 50 3 (fun _ => rfl) h) ?_
  refine pj_X_of (fun r h => pj_T_cp iG7 rfl rfl rfl rfl (by omega) (by omega) (by show _ = ((6 : Nat) : Int); omega) (Nat.le_of_ble_eq_true rfl) h) ?_
  show pj_X _ _ (pj_wc G7 66 24 6) 53 [(0, .ref 21), (1, .ref 63)] [] _
  obtain ⟨G8, hG8⟩ : ∃ H, H = pj_wc G7 66 24 6 := ⟨_, rfl⟩
  have iG8 : pj_Inv G8 := by rw [hG8]; exact pj_Inv_wc iG7 rfl rfl (fun q hq => by cases hq) rfl
  have kG8 : pj_kpt kc_68_21_63x G0 G8 := by rw [hG8]; exact pj_kpt_c kG7 rfl
  rw [← hG8]
  rw [pj_nm_e]
  refine pj_X_of (fun r h => pj_R_to (G8, 54, [(0, .ref 21), (1, .ref 63)], [.ref 63], 0, 0) 54 2 (fun _ => rfl) h) ?_
  refine pj_X_of (fun r h => pj_T_gr iG8 rfl rfl rfl h) ?_
  refine pj_X_of (fun r h => pj_R_to (G8, 59, [(0, .ref 21), (1, .ref 63)], [.ref 21, .int (Int32.ofInt 0), .ref 67], 0, 0) 59 3 (fun _ => rfl) h) ?_
  refine pj_X_of (fun r h => pj_T_gr iG8 rfl rfl rfl h) ?_
  refine pj_X_of (fun r h => pj_R_to (G8, 65, [(0, .ref 21), (1, .ref 63)], [.int ((Int8.ofInt 6).toInt32), .int (Int32.ofInt 0), .ref 25, .int (Int32.ofInt 0), .ref 67], 0, 0) 65 3 (fun _ => rfl) h) ?_
  refine pj_X_of (fun r h => pj_T_cp iG8 rfl rfl rfl rfl (by omega) (by omega) (by show _ = ((6 : Nat) : Int); omega) (Nat.le_of_ble_eq_true rfl) h) ?_
  show pj_X _ _ (pj_wc G8 67 25 6) 68 [(0, .ref 21), (1, .ref 63)] [] _
  obtain ⟨G9, hG9⟩ : ∃ H, H = pj_wc G8 67 25 6 := ⟨_, rfl⟩
  have iG9 : pj_Inv G9 := by rw [hG9]; exact pj_Inv_wc iG8 rfl rfl (fun q hq => by cases hq) rfl
  have kG9 : pj_kpt kc_68_21_63x G0 G9 := by rw [hG9]; exact pj_kpt_c kG8 rfl
  rw [← hG9]
  rw [pj_nm_e]
  refine pj_X_of (fun r h => pj_R_to (G9, 70, [(0, .ref 21), (1, .ref 63)], [.ref 63, .ref 21], 0, 0) 70 3 (fun _ => rfl) h) ?_
  refine pj_X_of (fun r h => pj_T_gi iG9 rfl rfl h) ?_
  show pj_X _ _ G9 73 [(0, .ref 21), (1, .ref 63)] [.int (pj_fi G9 63 5), .ref 21] _
  rw [← hy4, pj_nm_e]
  rw [show pj_fi G9 63 5 = y4 from by rw [hG9, pj_fi_wc]; exact (by rw [hG8, pj_fi_wc]; exact (by rw [hG7, pj_fi_wc]; exact (by rw [hG6, pj_fi_wc]; exact (by rw [hG5, pj_fi_wv_ne _ _ _ _ _ _ (by decide)]; exact hy4.symm))))]
  refine pj_X_of (fun r h => pj_T_pf iG9 rfl rfl rfl h) ?_
  show pj_X _ _ (pj_wv G9 21 5 (.int y4)) 76 [(0, .ref 21), (1, .ref 63)] [] _
  obtain ⟨G10, hG10⟩ : ∃ H, H = pj_wv G9 21 5 (.int y4) := ⟨_, rfl⟩
  have iG10 : pj_Inv G10 := by rw [hG10]; exact pj_Inv_wi iG9 (ci := 8) rfl (fun q hq => by cases hq; exact ⟨by show (0 : Int) ≤ _; omega, by show _ ≤ (6 : Int); omega⟩)
  have kG10 : pj_kpt kc_68_21_63x G0 G10 := by rw [hG10]; exact pj_kpt_v kG9 rfl
  rw [← hG10]
  rw [pj_nm_e]
  refine pj_X_of (fun r h => pj_R_to (G10, 77, [(0, .ref 21), (1, .ref 63)], [.ref 63], 0, 0) 77 2 (fun _ => rfl) h) ?_
  refine pj_X_of (fun r h => pj_T_gr iG10 rfl rfl rfl h) ?_
  refine pj_X_of (fun r h => pj_R_to (G10, 82, [(0, .ref 21), (1, .ref 63)], [.ref 21, .int (Int32.ofInt 0), .ref 68], 0, 0) 82 3 (fun _ => rfl) h) ?_
  refine pj_X_of (fun r h => pj_T_gr iG10 rfl rfl rfl h) ?_
  refine pj_X_of (fun r h => pj_R_to (G10, 88, [(0, .ref 21), (1, .ref 63)], [.int ((Int8.ofInt 6).toInt32), .int (Int32.ofInt 0), .ref 26, .int (Int32.ofInt 0), .ref 68], 0, 0) 88 3 (fun _ => rfl) h) ?_
  refine pj_X_of (fun r h => pj_T_cp iG10 rfl rfl rfl rfl (by omega) (by omega) (by show _ = ((6 : Nat) : Int); omega) (Nat.le_of_ble_eq_true rfl) h) ?_
  show pj_X _ _ (pj_wc G10 68 26 6) 91 [(0, .ref 21), (1, .ref 63)] [] _
  obtain ⟨G11, hG11⟩ : ∃ H, H = pj_wc G10 68 26 6 := ⟨_, rfl⟩
  have iG11 : pj_Inv G11 := by rw [hG11]; exact pj_Inv_wc iG10 rfl rfl (fun q hq => by cases hq; exact ⟨rfl, by decide⟩) rfl
  have kG11 : pj_kpt kc_68_21_63x G0 G11 := by rw [hG11]; exact pj_kpt_c kG10 rfl
  rw [← hG11]
  rw [pj_nm_e]
  refine pj_X_of (fun r h => pj_R_to (G11, 93, [(0, .ref 21), (1, .ref 63)], [.ref 63, .ref 21], 0, 0) 93 3 (fun _ => rfl) h) ?_
  refine pj_X_of (fun r h => pj_T_gi iG11 rfl rfl h) ?_
  show pj_X _ _ G11 96 [(0, .ref 21), (1, .ref 63)] [.int (pj_fi G11 63 7), .ref 21] _
  obtain ⟨y12, hy12⟩ : ∃ z : Int32, z = pj_fi G11 63 7 := ⟨_, rfl⟩
  rw [← hy12]
  rw [pj_nm_e]
  have ey12 : (pj_fi G11 63 7).toInt = y12.toInt := by rw [hy12]
  refine pj_X_of (fun r h => pj_T_pf iG11 rfl rfl rfl h) ?_
  show pj_X _ _ (pj_wv G11 21 7 (.int y12)) 99 [(0, .ref 21), (1, .ref 63)] [] _
  obtain ⟨G13, hG13⟩ : ∃ H, H = pj_wv G11 21 7 (.int y12) := ⟨_, rfl⟩
  have iG13 : pj_Inv G13 := by rw [hG13]; exact pj_Inv_wi iG11 (ci := 8) rfl (fun q hq => by cases hq)
  have kG13 : pj_kpt kc_68_21_63x G0 G13 := by rw [hG13]; exact pj_kpt_v kG11 rfl
  rw [← hG13]
  rw [pj_nm_e]
  refine pj_X_of (fun r h => pj_R_to (G13, 101, [(0, .ref 21), (1, .ref 63)], [.ref 63, .ref 21], 0, 0) 101 3 (fun _ => rfl) h) ?_
  refine pj_X_of (fun r h => pj_T_gi iG13 rfl rfl h) ?_
  show pj_X _ _ G13 104 [(0, .ref 21), (1, .ref 63)] [.int (pj_fi G13 63 8), .ref 21] _
  obtain ⟨y14, hy14⟩ : ∃ z : Int32, z = pj_fi G13 63 8 := ⟨_, rfl⟩
  rw [← hy14]
  rw [pj_nm_e]
  have ey14 : (pj_fi G13 63 8).toInt = y14.toInt := by rw [hy14]
  refine pj_X_of (fun r h => pj_T_pf iG13 rfl rfl rfl h) ?_
  show pj_X _ _ (pj_wv G13 21 8 (.int y14)) 107 [(0, .ref 21), (1, .ref 63)] [] _
  obtain ⟨G15, hG15⟩ : ∃ H, H = pj_wv G13 21 8 (.int y14) := ⟨_, rfl⟩
  have iG15 : pj_Inv G15 := by rw [hG15]; exact pj_Inv_wi iG13 (ci := 8) rfl (fun q hq => by cases hq)
  have kG15 : pj_kpt kc_68_21_63x G0 G15 := by rw [hG15]; exact pj_kpt_v kG13 rfl
  rw [← hG15]
  rw [pj_nm_e]
  have q16 : (pj_fi G15 21 0).toInt = y3.toInt := by rw [show pj_fi G15 21 0 = y3 from by rw [hG15, pj_fi_wv_ne _ _ _ _ _ _ (by decide)]; exact (by rw [hG13, pj_fi_wv_ne _ _ _ _ _ _ (by decide)]; exact (by rw [hG11, pj_fi_wc]; exact (by rw [hG10, pj_fi_wv_ne _ _ _ _ _ _ (by decide)]; exact (by rw [hG9, pj_fi_wc]; exact (by rw [hG8, pj_fi_wc]; exact (by rw [hG7, pj_fi_wc]; exact (by rw [hG6, pj_fi_wc]; exact (by rw [hG5]; exact pj_fi_wi hI.1 (ci := 8) rfl _))))))))]
  have q17 : (pj_fi G15 21 5).toInt = y4.toInt := by rw [show pj_fi G15 21 5 = y4 from by rw [hG15, pj_fi_wv_ne _ _ _ _ _ _ (by decide)]; exact (by rw [hG13, pj_fi_wv_ne _ _ _ _ _ _ (by decide)]; exact (by rw [hG11, pj_fi_wc]; exact (by rw [hG10]; exact pj_fi_wi iG9.1 (ci := 8) rfl _)))]
  have q18 : (pj_fi G15 63 0).toInt = y3.toInt := by rw [show pj_fi G15 63 0 = y3 from by rw [hG15, pj_fi_wv_ne _ _ _ _ _ _ (by decide)]; exact (by rw [hG13, pj_fi_wv_ne _ _ _ _ _ _ (by decide)]; exact (by rw [hG11, pj_fi_wc]; exact (by rw [hG10, pj_fi_wv_ne _ _ _ _ _ _ (by decide)]; exact (by rw [hG9, pj_fi_wc]; exact (by rw [hG8, pj_fi_wc]; exact (by rw [hG7, pj_fi_wc]; exact (by rw [hG6, pj_fi_wc]; exact (by rw [hG5, pj_fi_wv_ne _ _ _ _ _ _ (by decide)]; exact hy3.symm))))))))]
  have q19 : (pj_fi G15 63 5).toInt = y4.toInt := by rw [show pj_fi G15 63 5 = y4 from by rw [hG15, pj_fi_wv_ne _ _ _ _ _ _ (by decide)]; exact (by rw [hG13, pj_fi_wv_ne _ _ _ _ _ _ (by decide)]; exact (by rw [hG11, pj_fi_wc]; exact (by rw [hG10, pj_fi_wv_ne _ _ _ _ _ _ (by decide)]; exact (by rw [hG9, pj_fi_wc]; exact (by rw [hG8, pj_fi_wc]; exact (by rw [hG7, pj_fi_wc]; exact (by rw [hG6, pj_fi_wc]; exact (by rw [hG5, pj_fi_wv_ne _ _ _ _ _ _ (by decide)]; exact hy4.symm))))))))]
  exact pj_X_rt rfl rfl ⟨rfl, iG15, kG15, (fun H hH => by subst hH; exact (by omega)), rfl⟩
theorem fr_68_21_63x (G0 : pj_G) (hI : pj_Inv G0) : pj_Inv (F_68_21_63x G0) ∧ pj_kpt kc_68_21_63x G0 (F_68_21_63x G0) ∧ ((pj_fi (F_68_21_63x G0) 21 0).toInt = (pj_fi G0 63 0).toInt ∧ (pj_fi (F_68_21_63x G0) 21 5).toInt = (pj_fi G0 63 5).toInt) := by
  obtain ⟨v, G', -, -, i, j, x, e⟩ := ct_68_21_63x G0 hI 
  rw [← e]
  exact ⟨i, j, x _ rfl⟩
def kc_68_21_69x : pj_KT := ([(21, 0), (21, 5), (21, 7), (21, 8)], [21, 22, 23, 24, 25, 26], [22, 23, 24, 25, 26])
noncomputable def F_68_21_69x (G0 : pj_G) : pj_G := pj_nm (pj_fi G0 69 0) (fun y3 => pj_nm (pj_wv G0 21 0 (.int y3)) (fun G5 => pj_nm (pj_wc G5 70 22 6) (fun G6 => pj_nm (pj_wc G6 71 23 6) (fun G7 => pj_nm (pj_wc G7 72 24 6) (fun G8 => pj_nm (pj_wc G8 73 25 6) (fun G9 => pj_nm (pj_fi G0 69 5) (fun y4 => pj_nm (pj_wv G9 21 5 (.int y4)) (fun G10 => pj_nm (pj_wc G10 74 26 6) (fun G11 => pj_nm (pj_fi G11 69 7) (fun y12 => pj_nm (pj_wv G11 21 7 (.int y12)) (fun G13 => pj_nm (pj_fi G13 69 8) (fun y14 => pj_nm (pj_wv G13 21 8 (.int y14)) (fun G15 => G15)))))))))))))
theorem F_68_21_69x_e (G0 : pj_G) : F_68_21_69x G0 = pj_nm (pj_fi G0 69 0) (fun y3 => pj_nm (pj_wv G0 21 0 (.int y3)) (fun G5 => pj_nm (pj_wc G5 70 22 6) (fun G6 => pj_nm (pj_wc G6 71 23 6) (fun G7 => pj_nm (pj_wc G7 72 24 6) (fun G8 => pj_nm (pj_wc G8 73 25 6) (fun G9 => pj_nm (pj_fi G0 69 5) (fun y4 => pj_nm (pj_wv G9 21 5 (.int y4)) (fun G10 => pj_nm (pj_wc G10 74 26 6) (fun G11 => pj_nm (pj_fi G11 69 7) (fun y12 => pj_nm (pj_wv G11 21 7 (.int y12)) (fun G13 => pj_nm (pj_fi G13 69 8) (fun y14 => pj_nm (pj_wv G13 21 8 (.int y14)) (fun G15 => G15))))))))))))) := rfl
theorem ct_68_21_69x (G0 : pj_G) (hI : pj_Inv G0) : pj_Y 1 68 [.ref 21, .ref 69] G0 (fun v' G' => v' = none ∧ pj_Inv G' ∧ pj_kpt kc_68_21_69x G0 G' ∧ (∀ H, G0 = H → ((pj_fi G' 21 0).toInt = (pj_fi H 69 0).toInt ∧ (pj_fi G' 21 5).toInt = (pj_fi H 69 5).toInt)) ∧ (G' = F_68_21_69x G0)) := by
  have c0_ : ((Int8.ofInt 6).toInt32).toInt = 6 := by decide
  have c1_ : (Int32.ofInt 0).toInt = 0 := by decide
  refine pj_Y_X (M := pj_m68) rfl rfl (Nat.le_of_ble_eq_true rfl) ?_
  have hK : pj_kpt kc_68_21_69x G0 G0 := pj_kpt_r _ _
  show pj_X _ _ G0 0 [(0, .ref 21), (1, .ref 69)] [] _
  rw [F_68_21_69x_e]
  obtain ⟨y1, hy1⟩ : ∃ z : Int32, z = pj_fi G0 21 0 := ⟨_, rfl⟩
  have ey1 : (pj_fi G0 21 0).toInt = y1.toInt := by rw [hy1]
  have ry1 : (0 : Int) ≤ y1.toInt ∧ y1.toInt ≤ 6 := by rw [hy1]; exact hI.2.1 21 0 (0, 6) rfl
  obtain ⟨y2, hy2⟩ : ∃ z : Int32, z = pj_fi G0 21 5 := ⟨_, rfl⟩
  have ey2 : (pj_fi G0 21 5).toInt = y2.toInt := by rw [hy2]
  have ry2 : (0 : Int) ≤ y2.toInt ∧ y2.toInt ≤ 6 := by rw [hy2]; exact hI.2.1 21 5 (0, 6) rfl
  obtain ⟨y3, hy3⟩ : ∃ z : Int32, z = pj_fi G0 69 0 := ⟨_, rfl⟩
  have ey3 : (pj_fi G0 69 0).toInt = y3.toInt := by rw [hy3]
  have ry3 : (0 : Int) ≤ y3.toInt ∧ y3.toInt ≤ 6 := by rw [hy3]; exact hI.2.1 69 0 (0, 6) rfl
  obtain ⟨y4, hy4⟩ : ∃ z : Int32, z = pj_fi G0 69 5 := ⟨_, rfl⟩
  have ey4 : (pj_fi G0 69 5).toInt = y4.toInt := by rw [hy4]
  have ry4 : (0 : Int) ≤ y4.toInt ∧ y4.toInt ≤ 6 := by rw [hy4]; exact hI.2.1 69 5 (0, 6) rfl
  refine pj_X_of (fun r h => pj_R_to (G0, 2, [(0, .ref 21), (1, .ref 69)], [.ref 69, .ref 21], 0, 0) 2 3 (fun _ => rfl) h) ?_
  refine pj_X_of (fun r h => pj_T_gi hI rfl rfl h) ?_
  show pj_X _ _ G0 5 [(0, .ref 21), (1, .ref 69)] [.int (pj_fi G0 69 0), .ref 21] _
  rw [← hy3, pj_nm_e]
  refine pj_X_of (fun r h => pj_T_pf hI rfl rfl rfl h) ?_
  show pj_X _ _ (pj_wv G0 21 0 (.int y3)) 8 [(0, .ref 21), (1, .ref 69)] [] _
  obtain ⟨G5, hG5⟩ : ∃ H, H = pj_wv G0 21 0 (.int y3) := ⟨_, rfl⟩
  have iG5 : pj_Inv G5 := by rw [hG5]; exact pj_Inv_wi hI (ci := 8) rfl (fun q hq => by cases hq; exact ⟨by show (0 : Int) ≤ _; omega, by show _ ≤ (6 : Int); omega⟩)
  have kG5 : pj_kpt kc_68_21_69x G0 G5 := by rw [hG5]; exact pj_kpt_v hK rfl
  rw [← hG5]
  rw [pj_nm_e]
  refine pj_X_of (fun r h => pj_R_to (G5, 9, [(0, .ref 21), (1, .ref 69)], [.ref 69], 0, 0) 9 2 (fun _ => rfl) h) ?_
  refine pj_X_of (fun r h => pj_T_gr iG5 rfl rfl rfl h) ?_
  refine pj_X_of (fun r h => pj_R_to (G5, 14, [(0, .ref 21), (1, .ref 69)], [.ref 21, .int (Int32.ofInt 0), .ref 70], 0, 0) 14 3 (fun _ => rfl) h) ?_
  refine pj_X_of (fun r h => pj_T_gr iG5 rfl rfl rfl h) ?_
  refine pj_X_of (fun r h => pj_R_to (G5, 20, [(0, .ref 21), (1, .ref 69)], [.int ((Int8.ofInt 6).toInt32), .int (Int32.ofInt 0), .ref 22, .int (Int32.ofInt 0), .ref 70], 0, 0) 20 3 (fun _ => rfl) h) ?_
  refine pj_X_of (fun r h => pj_T_cp iG5 rfl rfl rfl rfl (by omega) (by omega) (by show _ = ((6 : Nat) : Int); omega) (Nat.le_of_ble_eq_true rfl) h) ?_
  show pj_X _ _ (pj_wc G5 70 22 6) 23 [(0, .ref 21), (1, .ref 69)] [] _
  obtain ⟨G6, hG6⟩ : ∃ H, H = pj_wc G5 70 22 6 := ⟨_, rfl⟩
  have iG6 : pj_Inv G6 := by rw [hG6]; exact pj_Inv_wc iG5 rfl rfl (fun q hq => by cases hq; exact ⟨rfl, by decide⟩) rfl
  have kG6 : pj_kpt kc_68_21_69x G0 G6 := by rw [hG6]; exact pj_kpt_c kG5 rfl
  rw [← hG6]
  rw [pj_nm_e]
  refine pj_X_of (fun r h => pj_R_to (G6, 24, [(0, .ref 21), (1, .ref 69)], [.ref 69], 0, 0) 24 2 (fun _ => rfl) h) ?_
  refine pj_X_of (fun r h => pj_T_gr iG6 rfl rfl rfl h) ?_
  refine pj_X_of (fun r h => pj_R_to (G6, 29, [(0, .ref 21), (1, .ref 69)], [.ref 21, .int (Int32.ofInt 0), .ref 71], 0, 0) 29 3 (fun _ => rfl) h) ?_
  refine pj_X_of (fun r h => pj_T_gr iG6 rfl rfl rfl h) ?_
  refine pj_X_of (fun r h => pj_R_to (G6, 35, [(0, .ref 21), (1, .ref 69)], [.int ((Int8.ofInt 6).toInt32), .int (Int32.ofInt 0), .ref 23, .int (Int32.ofInt 0), .ref 71], 0, 0) 35 3 (fun _ => rfl) h) ?_
  refine pj_X_of (fun r h => pj_T_cp iG6 rfl rfl rfl rfl (by omega) (by omega) (by show _ = ((6 : Nat) : Int); omega) (Nat.le_of_ble_eq_true rfl) h) ?_
  show pj_X _ _ (pj_wc G6 71 23 6) 38 [(0, .ref 21), (1, .ref 69)] [] _
  obtain ⟨G7, hG7⟩ : ∃ H, H = pj_wc G6 71 23 6 := ⟨_, rfl⟩
  have iG7 : pj_Inv G7 := by rw [hG7]; exact pj_Inv_wc iG6 rfl rfl (fun q hq => by cases hq) rfl
  have kG7 : pj_kpt kc_68_21_69x G0 G7 := by rw [hG7]; exact pj_kpt_c kG6 rfl
  rw [← hG7]
  rw [pj_nm_e]
  refine pj_X_of (fun r h => pj_R_to (G7, 39, [(0, .ref 21), (1, .ref 69)], [.ref 69], 0, 0) 39 2 (fun _ => rfl) h) ?_
  refine pj_X_of (fun r h => pj_T_gr iG7 rfl rfl rfl h) ?_
  refine pj_X_of (fun r h => pj_R_to (G7, 44, [(0, .ref 21), (1, .ref 69)], [.ref 21, .int (Int32.ofInt 0), .ref 72], 0, 0) 44 3 (fun _ => rfl) h) ?_
  refine pj_X_of (fun r h => pj_T_gr iG7 rfl rfl rfl h) ?_
  refine pj_X_of (fun r h => pj_R_to (G7, 50, [(0, .ref 21), (1, .ref 69)], [.int ((Int8.ofInt 6).toInt32), .int (Int32.ofInt 0), .ref 24, .int (Int32.ofInt 0), .ref 72], 0, 0) 50 3 (fun _ => rfl) h) ?_
  refine pj_X_of (fun r h => pj_T_cp iG7 rfl rfl rfl rfl (by omega) (by omega) (by show _ = ((6 : Nat) : Int); omega) (Nat.le_of_ble_eq_true rfl) h) ?_
  show pj_X _ _ (pj_wc G7 72 24 6) 53 [(0, .ref 21), (1, .ref 69)] [] _
  obtain ⟨G8, hG8⟩ : ∃ H, H = pj_wc G7 72 24 6 := ⟨_, rfl⟩
  have iG8 : pj_Inv G8 := by rw [hG8]; exact pj_Inv_wc iG7 rfl rfl (fun q hq => by cases hq) rfl
  have kG8 : pj_kpt kc_68_21_69x G0 G8 := by rw [hG8]; exact pj_kpt_c kG7 rfl
  rw [← hG8]
  rw [pj_nm_e]
  refine pj_X_of (fun r h => pj_R_to (G8, 54, [(0, .ref 21), (1, .ref 69)], [.ref 69], 0, 0) 54 2 (fun _ => rfl) h) ?_
  refine pj_X_of (fun r h => pj_T_gr iG8 rfl rfl rfl h) ?_
  refine pj_X_of (fun r h => pj_R_to (G8, 59, [(0, .ref 21), (1, .ref 69)], [.ref 21, .int (Int32.ofInt 0), .ref 73], 0, 0) 59 3 (fun _ => rfl) h) ?_
  refine pj_X_of (fun r h => pj_T_gr iG8 rfl rfl rfl h) ?_
  refine pj_X_of (fun r h => pj_R_to (G8, 65, [(0, .ref 21), (1, .ref 69)], [.int ((Int8.ofInt 6).toInt32), .int (Int32.ofInt 0), .ref 25, .int (Int32.ofInt 0), .ref 73], 0, 0) 65 3 (fun _ => rfl) h) ?_
  refine pj_X_of (fun r h => pj_T_cp iG8 rfl rfl rfl rfl (by omega) (by omega) (by show _ = ((6 : Nat) : Int); omega) (Nat.le_of_ble_eq_true rfl) h) ?_
  show pj_X _ _ (pj_wc G8 73 25 6) 68 [(0, .ref 21), (1, .ref 69)] [] _
  obtain ⟨G9, hG9⟩ : ∃ H, H = pj_wc G8 73 25 6 := ⟨_, rfl⟩
  have iG9 : pj_Inv G9 := by rw [hG9]; exact pj_Inv_wc iG8 rfl rfl (fun q hq => by cases hq) rfl
  have kG9 : pj_kpt kc_68_21_69x G0 G9 := by rw [hG9]; exact pj_kpt_c kG8 rfl
  rw [← hG9]
  rw [pj_nm_e]
  refine pj_X_of (fun r h => pj_R_to (G9, 70, [(0, .ref 21), (1, .ref 69)], [.ref 69, .ref 21], 0, 0) 70 3 (fun _ => rfl) h) ?_
  refine pj_X_of (fun r h => pj_T_gi iG9 rfl rfl h) ?_
  show pj_X _ _ G9 73 [(0, .ref 21), (1, .ref 69)] [.int (pj_fi G9 69 5), .ref 21] _
  rw [← hy4, pj_nm_e]
  rw [show pj_fi G9 69 5 = y4 from by rw [hG9, pj_fi_wc]; exact (by rw [hG8, pj_fi_wc]; exact (by rw [hG7, pj_fi_wc]; exact (by rw [hG6, pj_fi_wc]; exact (by rw [hG5, pj_fi_wv_ne _ _ _ _ _ _ (by decide)]; exact hy4.symm))))]
  refine pj_X_of (fun r h => pj_T_pf iG9 rfl rfl rfl h) ?_
  show pj_X _ _ (pj_wv G9 21 5 (.int y4)) 76 [(0, .ref 21), (1, .ref 69)] [] _
  obtain ⟨G10, hG10⟩ : ∃ H, H = pj_wv G9 21 5 (.int y4) := ⟨_, rfl⟩
  have iG10 : pj_Inv G10 := by rw [hG10]; exact pj_Inv_wi iG9 (ci := 8) rfl (fun q hq => by cases hq; exact ⟨by show (0 : Int) ≤ _; omega, by show _ ≤ (6 : Int); omega⟩)
  have kG10 : pj_kpt kc_68_21_69x G0 G10 := by rw [hG10]; exact pj_kpt_v kG9 rfl
  rw [← hG10]
  rw [pj_nm_e]
  refine pj_X_of (fun r h => pj_R_to (G10, 77, [(0, .ref 21), (1, .ref 69)], [.ref 69], 0, 0) 77 2 (fun _ => rfl) h) ?_
  refine pj_X_of (fun r h => pj_T_gr iG10 rfl rfl rfl h) ?_
  refine pj_X_of (fun r h => pj_R_to (G10, 82, [(0, .ref 21), (1, .ref 69)], [.ref 21, .int (Int32.ofInt 0), .ref 74], 0, 0) 82 3 (fun _ => rfl) h) ?_
  refine pj_X_of (fun r h => pj_T_gr iG10 rfl rfl rfl h) ?_
  refine pj_X_of (fun r h => pj_R_to (G10, 88, [(0, .ref 21), (1, .ref 69)], [.int ((Int8.ofInt 6).toInt32), .int (Int32.ofInt 0), .ref 26, .int (Int32.ofInt 0), .ref 74], 0, 0) 88 3 (fun _ => rfl) h) ?_
  refine pj_X_of (fun r h => pj_T_cp iG10 rfl rfl rfl rfl (by omega) (by omega) (by show _ = ((6 : Nat) : Int); omega) (Nat.le_of_ble_eq_true rfl) h) ?_
  show pj_X _ _ (pj_wc G10 74 26 6) 91 [(0, .ref 21), (1, .ref 69)] [] _
  obtain ⟨G11, hG11⟩ : ∃ H, H = pj_wc G10 74 26 6 := ⟨_, rfl⟩
  have iG11 : pj_Inv G11 := by rw [hG11]; exact pj_Inv_wc iG10 rfl rfl (fun q hq => by cases hq; exact ⟨rfl, by decide⟩) rfl
  have kG11 : pj_kpt kc_68_21_69x G0 G11 := by rw [hG11]; exact pj_kpt_c kG10 rfl
  rw [← hG11]
  rw [pj_nm_e]
  refine pj_X_of (fun r h => pj_R_to (G11, 93, [(0, .ref 21), (1, .ref 69)], [.ref 69, .ref 21], 0, 0) 93 3 (fun _ => rfl) h) ?_
  refine pj_X_of (fun r h => pj_T_gi iG11 rfl rfl h) ?_
  show pj_X _ _ G11 96 [(0, .ref 21), (1, .ref 69)] [.int (pj_fi G11 69 7), .ref 21] _
  obtain ⟨y12, hy12⟩ : ∃ z : Int32, z = pj_fi G11 69 7 := ⟨_, rfl⟩
  rw [← hy12]
  rw [pj_nm_e]
  have ey12 : (pj_fi G11 69 7).toInt = y12.toInt := by rw [hy12]
  refine pj_X_of (fun r h => pj_T_pf iG11 rfl rfl rfl h) ?_
  show pj_X _ _ (pj_wv G11 21 7 (.int y12)) 99 [(0, .ref 21), (1, .ref 69)] [] _
  obtain ⟨G13, hG13⟩ : ∃ H, H = pj_wv G11 21 7 (.int y12) := ⟨_, rfl⟩
  have iG13 : pj_Inv G13 := by rw [hG13]; exact pj_Inv_wi iG11 (ci := 8) rfl (fun q hq => by cases hq)
  have kG13 : pj_kpt kc_68_21_69x G0 G13 := by rw [hG13]; exact pj_kpt_v kG11 rfl
  rw [← hG13]
  rw [pj_nm_e]
  refine pj_X_of (fun r h => pj_R_to (G13, 101, [(0, .ref 21), (1, .ref 69)], [.ref 69, .ref 21], 0, 0) 101 3 (fun _ => rfl) h) ?_
  refine pj_X_of (fun r h => pj_T_gi iG13 rfl rfl h) ?_
  show pj_X _ _ G13 104 [(0, .ref 21), (1, .ref 69)] [.int (pj_fi G13 69 8), .ref 21] _
  obtain ⟨y14, hy14⟩ : ∃ z : Int32, z = pj_fi G13 69 8 := ⟨_, rfl⟩
  rw [← hy14]
  rw [pj_nm_e]
  have ey14 : (pj_fi G13 69 8).toInt = y14.toInt := by rw [hy14]
  refine pj_X_of (fun r h => pj_T_pf iG13 rfl rfl rfl h) ?_
  show pj_X _ _ (pj_wv G13 21 8 (.int y14)) 107 [(0, .ref 21), (1, .ref 69)] [] _
  obtain ⟨G15, hG15⟩ : ∃ H, H = pj_wv G13 21 8 (.int y14) := ⟨_, rfl⟩
  have iG15 : pj_Inv G15 := by rw [hG15]; exact pj_Inv_wi iG13 (ci := 8) rfl (fun q hq => by cases hq)
  have kG15 : pj_kpt kc_68_21_69x G0 G15 := by rw [hG15]; exact pj_kpt_v kG13 rfl
  rw [← hG15]
  rw [pj_nm_e]
  have q16 : (pj_fi G15 21 0).toInt = y3.toInt := by rw [show pj_fi G15 21 0 = y3 from by rw [hG15, pj_fi_wv_ne _ _ _ _ _ _ (by decide)]; exact (by rw [hG13, pj_fi_wv_ne _ _ _ _ _ _ (by decide)]; exact (by rw [hG11, pj_fi_wc]; exact (by rw [hG10, pj_fi_wv_ne _ _ _ _ _ _ (by decide)]; exact (by rw [hG9, pj_fi_wc]; exact (by rw [hG8, pj_fi_wc]; exact (by rw [hG7, pj_fi_wc]; exact (by rw [hG6, pj_fi_wc]; exact (by rw [hG5]; exact pj_fi_wi hI.1 (ci := 8) rfl _))))))))]
  have q17 : (pj_fi G15 21 5).toInt = y4.toInt := by rw [show pj_fi G15 21 5 = y4 from by rw [hG15, pj_fi_wv_ne _ _ _ _ _ _ (by decide)]; exact (by rw [hG13, pj_fi_wv_ne _ _ _ _ _ _ (by decide)]; exact (by rw [hG11, pj_fi_wc]; exact (by rw [hG10]; exact pj_fi_wi iG9.1 (ci := 8) rfl _)))]
  have q18 : (pj_fi G15 69 0).toInt = y3.toInt := by rw [show pj_fi G15 69 0 = y3 from by rw [hG15, pj_fi_wv_ne _ _ _ _ _ _ (by decide)]; exact (by rw [hG13, pj_fi_wv_ne _ _ _ _ _ _ (by decide)]; exact (by rw [hG11, pj_fi_wc]; exact (by rw [hG10, pj_fi_wv_ne _ _ _ _ _ _ (by decide)]; exact (by rw [hG9, pj_fi_wc]; exact (by rw [hG8, pj_fi_wc]; exact (by rw [hG7, pj_fi_wc]; exact (by rw [hG6, pj_fi_wc]; exact (by rw [hG5, pj_fi_wv_ne _ _ _ _ _ _ (by decide)]; exact hy3.symm))))))))]
  have q19 : (pj_fi G15 69 5).toInt = y4.toInt := by rw [show pj_fi G15 69 5 = y4 from by rw [hG15, pj_fi_wv_ne _ _ _ _ _ _ (by decide)]; exact (by rw [hG13, pj_fi_wv_ne _ _ _ _ _ _ (by decide)]; exact (by rw [hG11, pj_fi_wc]; exact (by rw [hG10, pj_fi_wv_ne _ _ _ _ _ _ (by decide)]; exact (by rw [hG9, pj_fi_wc]; exact (by rw [hG8, pj_fi_wc]; exact (by rw [hG7, pj_fi_wc]; exact (by rw [hG6, pj_fi_wc]; exact (by rw [hG5, pj_fi_wv_ne _ _ _ _ _ _ (by decide)]; exact hy4.symm))))))))]
  exact pj_X_rt rfl rfl ⟨rfl, iG15, kG15, (fun H hH => by subst hH; exact (by omega)), rfl⟩
theorem fr_68_21_69x (G0 : pj_G) (hI : pj_Inv G0) : pj_Inv (F_68_21_69x G0) ∧ pj_kpt kc_68_21_69x G0 (F_68_21_69x G0) ∧ ((pj_fi (F_68_21_69x G0) 21 0).toInt = (pj_fi G0 69 0).toInt ∧ (pj_fi (F_68_21_69x G0) 21 5).toInt = (pj_fi G0 69 5).toInt) := by
  obtain ⟨v, G', -, -, i, j, x, e⟩ := ct_68_21_69x G0 hI 
  rw [← e]
  exact ⟨i, j, x _ rfl⟩
def kc_68_21_75x : pj_KT := ([(21, 0), (21, 5), (21, 7), (21, 8)], [21, 22, 23, 24, 25, 26], [22, 23, 24, 25, 26])
noncomputable def F_68_21_75x (G0 : pj_G) : pj_G := pj_nm (pj_fi G0 75 0) (fun y3 => pj_nm (pj_wv G0 21 0 (.int y3)) (fun G5 => pj_nm (pj_wc G5 76 22 6) (fun G6 => pj_nm (pj_wc G6 77 23 6) (fun G7 => pj_nm (pj_wc G7 78 24 6) (fun G8 => pj_nm (pj_wc G8 79 25 6) (fun G9 => pj_nm (pj_fi G0 75 5) (fun y4 => pj_nm (pj_wv G9 21 5 (.int y4)) (fun G10 => pj_nm (pj_wc G10 80 26 6) (fun G11 => pj_nm (pj_fi G11 75 7) (fun y12 => pj_nm (pj_wv G11 21 7 (.int y12)) (fun G13 => pj_nm (pj_fi G13 75 8) (fun y14 => pj_nm (pj_wv G13 21 8 (.int y14)) (fun G15 => G15)))))))))))))
theorem F_68_21_75x_e (G0 : pj_G) : F_68_21_75x G0 = pj_nm (pj_fi G0 75 0) (fun y3 => pj_nm (pj_wv G0 21 0 (.int y3)) (fun G5 => pj_nm (pj_wc G5 76 22 6) (fun G6 => pj_nm (pj_wc G6 77 23 6) (fun G7 => pj_nm (pj_wc G7 78 24 6) (fun G8 => pj_nm (pj_wc G8 79 25 6) (fun G9 => pj_nm (pj_fi G0 75 5) (fun y4 => pj_nm (pj_wv G9 21 5 (.int y4)) (fun G10 => pj_nm (pj_wc G10 80 26 6) (fun G11 => pj_nm (pj_fi G11 75 7) (fun y12 => pj_nm (pj_wv G11 21 7 (.int y12)) (fun G13 => pj_nm (pj_fi G13 75 8) (fun y14 => pj_nm (pj_wv G13 21 8 (.int y14)) (fun G15 => G15))))))))))))) := rfl
theorem ct_68_21_75x (G0 : pj_G) (hI : pj_Inv G0) : pj_Y 1 68 [.ref 21, .ref 75] G0 (fun v' G' => v' = none ∧ pj_Inv G' ∧ pj_kpt kc_68_21_75x G0 G' ∧ (∀ H, G0 = H → ((pj_fi G' 21 0).toInt = (pj_fi H 75 0).toInt ∧ (pj_fi G' 21 5).toInt = (pj_fi H 75 5).toInt)) ∧ (G' = F_68_21_75x G0)) := by
  have c0_ : ((Int8.ofInt 6).toInt32).toInt = 6 := by decide
  have c1_ : (Int32.ofInt 0).toInt = 0 := by decide
  refine pj_Y_X (M := pj_m68) rfl rfl (Nat.le_of_ble_eq_true rfl) ?_
  have hK : pj_kpt kc_68_21_75x G0 G0 := pj_kpt_r _ _
  show pj_X _ _ G0 0 [(0, .ref 21), (1, .ref 75)] [] _
  rw [F_68_21_75x_e]
  obtain ⟨y1, hy1⟩ : ∃ z : Int32, z = pj_fi G0 21 0 := ⟨_, rfl⟩
  have ey1 : (pj_fi G0 21 0).toInt = y1.toInt := by rw [hy1]
  have ry1 : (0 : Int) ≤ y1.toInt ∧ y1.toInt ≤ 6 := by rw [hy1]; exact hI.2.1 21 0 (0, 6) rfl
  obtain ⟨y2, hy2⟩ : ∃ z : Int32, z = pj_fi G0 21 5 := ⟨_, rfl⟩
  have ey2 : (pj_fi G0 21 5).toInt = y2.toInt := by rw [hy2]
  have ry2 : (0 : Int) ≤ y2.toInt ∧ y2.toInt ≤ 6 := by rw [hy2]; exact hI.2.1 21 5 (0, 6) rfl
  obtain ⟨y3, hy3⟩ : ∃ z : Int32, z = pj_fi G0 75 0 := ⟨_, rfl⟩
  have ey3 : (pj_fi G0 75 0).toInt = y3.toInt := by rw [hy3]
  have ry3 : (0 : Int) ≤ y3.toInt ∧ y3.toInt ≤ 6 := by rw [hy3]; exact hI.2.1 75 0 (0, 6) rfl
  obtain ⟨y4, hy4⟩ : ∃ z : Int32, z = pj_fi G0 75 5 := ⟨_, rfl⟩
  have ey4 : (pj_fi G0 75 5).toInt = y4.toInt := by rw [hy4]
  have ry4 : (0 : Int) ≤ y4.toInt ∧ y4.toInt ≤ 6 := by rw [hy4]; exact hI.2.1 75 5 (0, 6) rfl
  refine pj_X_of (fun r h => pj_R_to (G0, 2, [(0, .ref 21), (1, .ref 75)], [.ref 75, .ref 21], 0, 0) 2 3 (fun _ => rfl) h) ?_
  refine pj_X_of (fun r h => pj_T_gi hI rfl rfl h) ?_
  show pj_X _ _ G0 5 [(0, .ref 21), (1, .ref 75)] [.int (pj_fi G0 75 0), .ref 21] _
  rw [← hy3, pj_nm_e]
  refine pj_X_of (fun r h => pj_T_pf hI rfl rfl rfl h) ?_
  show pj_X _ _ (pj_wv G0 21 0 (.int y3)) 8 [(0, .ref 21), (1, .ref 75)] [] _
  obtain ⟨G5, hG5⟩ : ∃ H, H = pj_wv G0 21 0 (.int y3) := ⟨_, rfl⟩
  have iG5 : pj_Inv G5 := by rw [hG5]; exact pj_Inv_wi hI (ci := 8) rfl (fun q hq => by cases hq; exact ⟨by show (0 : Int) ≤ _; omega, by show _ ≤ (6 : Int); omega⟩)
  have kG5 : pj_kpt kc_68_21_75x G0 G5 := by rw [hG5]; exact pj_kpt_v hK rfl
  rw [← hG5]
  rw [pj_nm_e]
  refine pj_X_of (fun r h => pj_R_to (G5, 9, [(0, .ref 21), (1, .ref 75)], [.ref 75], 0, 0) 9 2 (fun _ => rfl) h) ?_
  refine pj_X_of (fun r h => pj_T_gr iG5 rfl rfl rfl h) ?_
  refine pj_X_of (fun r h => pj_R_to (G5, 14, [(0, .ref 21), (1, .ref 75)], [.ref 21, .int (Int32.ofInt 0), .ref 76], 0, 0) 14 3 (fun _ => rfl) h) ?_
  refine pj_X_of (fun r h => pj_T_gr iG5 rfl rfl rfl h) ?_
  refine pj_X_of (fun r h => pj_R_to (G5, 20, [(0, .ref 21), (1, .ref 75)], [.int ((Int8.ofInt 6).toInt32), .int (Int32.ofInt 0), .ref 22, .int (Int32.ofInt 0), .ref 76], 0, 0) 20 3 (fun _ => rfl) h) ?_
  refine pj_X_of (fun r h => pj_T_cp iG5 rfl rfl rfl rfl (by omega) (by omega) (by show _ = ((6 : Nat) : Int); omega) (Nat.le_of_ble_eq_true rfl) h) ?_
  show pj_X _ _ (pj_wc G5 76 22 6) 23 [(0, .ref 21), (1, .ref 75)] [] _
  obtain ⟨G6, hG6⟩ : ∃ H, H = pj_wc G5 76 22 6 := ⟨_, rfl⟩
  have iG6 : pj_Inv G6 := by rw [hG6]; exact pj_Inv_wc iG5 rfl rfl (fun q hq => by cases hq; exact ⟨rfl, by decide⟩) rfl
  have kG6 : pj_kpt kc_68_21_75x G0 G6 := by rw [hG6]; exact pj_kpt_c kG5 rfl
  rw [← hG6]
  rw [pj_nm_e]
  refine pj_X_of (fun r h => pj_R_to (G6, 24, [(0, .ref 21), (1, .ref 75)], [.ref 75], 0, 0) 24 2 (fun _ => rfl) h) ?_
  refine pj_X_of (fun r h => pj_T_gr iG6 rfl rfl rfl h) ?_
  refine pj_X_of (fun r h => pj_R_to (G6, 29, [(0, .ref 21), (1, .ref 75)], [.ref 21, .int (Int32.ofInt 0), .ref 77], 0, 0) 29 3 (fun _ => rfl) h) ?_
  refine pj_X_of (fun r h => pj_T_gr iG6 rfl rfl rfl h) ?_
  refine pj_X_of (fun r h => pj_R_to (G6, 35, [(0, .ref 21), (1, .ref 75)], [.int ((Int8.ofInt 6).toInt32), .int (Int32.ofInt 0), .ref 23, .int (Int32.ofInt 0), .ref 77], 0, 0) 35 3 (fun _ => rfl) h) ?_
  refine pj_X_of (fun r h => pj_T_cp iG6 rfl rfl rfl rfl (by omega) (by omega) (by show _ = ((6 : Nat) : Int); omega) (Nat.le_of_ble_eq_true rfl) h) ?_
  show pj_X _ _ (pj_wc G6 77 23 6) 38 [(0, .ref 21), (1, .ref 75)] [] _
  obtain ⟨G7, hG7⟩ : ∃ H, H = pj_wc G6 77 23 6 := ⟨_, rfl⟩
  have iG7 : pj_Inv G7 := by rw [hG7]; exact pj_Inv_wc iG6 rfl rfl (fun q hq => by cases hq) rfl
  have kG7 : pj_kpt kc_68_21_75x G0 G7 := by rw [hG7]; exact pj_kpt_c kG6 rfl
  rw [← hG7]
  rw [pj_nm_e]
  refine pj_X_of (fun r h => pj_R_to (G7, 39, [(0, .ref 21), (1, .ref 75)], [.ref 75], 0, 0) 39 2 (fun _ => rfl) h) ?_
  refine pj_X_of (fun r h => pj_T_gr iG7 rfl rfl rfl h) ?_
  refine pj_X_of (fun r h => pj_R_to (G7, 44, [(0, .ref 21), (1, .ref 75)], [.ref 21, .int (Int32.ofInt 0), .ref 78], 0, 0) 44 3 (fun _ => rfl) h) ?_
  refine pj_X_of (fun r h => pj_T_gr iG7 rfl rfl rfl h) ?_
  refine pj_X_of (fun r h => pj_R_to (G7, 50, [(0, .ref 21), (1, .ref 75)], [.int ((Int8.ofInt 6).toInt32), .int (Int32.ofInt 0), .ref 24, .int (Int32.ofInt 0), .ref 78], 0, 0) 50 3 (fun _ => rfl) h) ?_
  refine pj_X_of (fun r h => pj_T_cp iG7 rfl rfl rfl rfl (by omega) (by omega) (by show _ = ((6 : Nat) : Int); omega) (Nat.le_of_ble_eq_true rfl) h) ?_
  show pj_X _ _ (pj_wc G7 78 24 6) 53 [(0, .ref 21), (1, .ref 75)] [] _
  obtain ⟨G8, hG8⟩ : ∃ H, H = pj_wc G7 78 24 6 := ⟨_, rfl⟩
  have iG8 : pj_Inv G8 := by rw [hG8]; exact pj_Inv_wc iG7 rfl rfl (fun q hq => by cases hq) rfl
  have kG8 : pj_kpt kc_68_21_75x G0 G8 := by rw [hG8]; exact pj_kpt_c kG7 rfl
  rw [← hG8]
  rw [pj_nm_e]
  refine pj_X_of (fun r h => pj_R_to (G8, 54, [(0, .ref 21), (1, .ref 75)], [.ref 75], 0, 0) 54 2 (fun _ => rfl) h) ?_
  refine pj_X_of (fun r h => pj_T_gr iG8 rfl rfl rfl h) ?_
  refine pj_X_of (fun r h => pj_R_to (G8, 59, [(0, .ref 21), (1, .ref 75)], [.ref 21, .int (Int32.ofInt 0), .ref 79], 0, 0) 59 3 (fun _ => rfl) h) ?_
  refine pj_X_of (fun r h => pj_T_gr iG8 rfl rfl rfl h) ?_
  refine pj_X_of (fun r h => pj_R_to (G8, 65, [(0, .ref 21), (1, .ref 75)], [.int ((Int8.ofInt 6).toInt32), .int (Int32.ofInt 0), .ref 25, .int (Int32.ofInt 0), .ref 79], 0, 0) 65 3 (fun _ => rfl) h) ?_
  refine pj_X_of (fun r h => pj_T_cp iG8 rfl rfl rfl rfl (by omega) (by omega) (by show _ = ((6 : Nat) : Int); omega) (Nat.le_of_ble_eq_true rfl) h) ?_
  show pj_X _ _ (pj_wc G8 79 25 6) 68 [(0, .ref 21), (1, .ref 75)] [] _
  obtain ⟨G9, hG9⟩ : ∃ H, H = pj_wc G8 79 25 6 := ⟨_, rfl⟩
  have iG9 : pj_Inv G9 := by rw [hG9]; exact pj_Inv_wc iG8 rfl rfl (fun q hq => by cases hq) rfl
  have kG9 : pj_kpt kc_68_21_75x G0 G9 := by rw [hG9]; exact pj_kpt_c kG8 rfl
  rw [← hG9]
  rw [pj_nm_e]
  refine pj_X_of (fun r h => pj_R_to (G9, 70, [(0, .ref 21), (1, .ref 75)], [.ref 75, .ref 21], 0, 0) 70 3 (fun _ => rfl) h) ?_
  refine pj_X_of (fun r h => pj_T_gi iG9 rfl rfl h) ?_
  show pj_X _ _ G9 73 [(0, .ref 21), (1, .ref 75)] [.int (pj_fi G9 75 5), .ref 21] _
  rw [← hy4, pj_nm_e]
  rw [show pj_fi G9 75 5 = y4 from by rw [hG9, pj_fi_wc]; exact (by rw [hG8, pj_fi_wc]; exact (by rw [hG7, pj_fi_wc]; exact (by rw [hG6, pj_fi_wc]; exact (by rw [hG5, pj_fi_wv_ne _ _ _ _ _ _ (by decide)]; exact hy4.symm))))]
  refine pj_X_of (fun r h => pj_T_pf iG9 rfl rfl rfl h) ?_
  show pj_X _ _ (pj_wv G9 21 5 (.int y4)) 76 [(0, .ref 21), (1, .ref 75)] [] _
  obtain ⟨G10, hG10⟩ : ∃ H, H = pj_wv G9 21 5 (.int y4) := ⟨_, rfl⟩
  have iG10 : pj_Inv G10 := by rw [hG10]; exact pj_Inv_wi iG9 (ci := 8) rfl (fun q hq => by cases hq; exact ⟨by show (0 : Int) ≤ _; omega, by show _ ≤ (6 : Int); omega⟩)
  have kG10 : pj_kpt kc_68_21_75x G0 G10 := by rw [hG10]; exact pj_kpt_v kG9 rfl
  rw [← hG10]
  rw [pj_nm_e]
  refine pj_X_of (fun r h => pj_R_to (G10, 77, [(0, .ref 21), (1, .ref 75)], [.ref 75], 0, 0) 77 2 (fun _ => rfl) h) ?_
  refine pj_X_of (fun r h => pj_T_gr iG10 rfl rfl rfl h) ?_
  refine pj_X_of (fun r h => pj_R_to (G10, 82, [(0, .ref 21), (1, .ref 75)], [.ref 21, .int (Int32.ofInt 0), .ref 80], 0, 0) 82 3 (fun _ => rfl) h) ?_
  refine pj_X_of (fun r h => pj_T_gr iG10 rfl rfl rfl h) ?_
  refine pj_X_of (fun r h => pj_R_to (G10, 88, [(0, .ref 21), (1, .ref 75)], [.int ((Int8.ofInt 6).toInt32), .int (Int32.ofInt 0), .ref 26, .int (Int32.ofInt 0), .ref 80], 0, 0) 88 3 (fun _ => rfl) h) ?_
  refine pj_X_of (fun r h => pj_T_cp iG10 rfl rfl rfl rfl (by omega) (by omega) (by show _ = ((6 : Nat) : Int); omega) (Nat.le_of_ble_eq_true rfl) h) ?_
  show pj_X _ _ (pj_wc G10 80 26 6) 91 [(0, .ref 21), (1, .ref 75)] [] _
  obtain ⟨G11, hG11⟩ : ∃ H, H = pj_wc G10 80 26 6 := ⟨_, rfl⟩
  have iG11 : pj_Inv G11 := by rw [hG11]; exact pj_Inv_wc iG10 rfl rfl (fun q hq => by cases hq; exact ⟨rfl, by decide⟩) rfl
  have kG11 : pj_kpt kc_68_21_75x G0 G11 := by rw [hG11]; exact pj_kpt_c kG10 rfl
  rw [← hG11]
  rw [pj_nm_e]
  refine pj_X_of (fun r h => pj_R_to (G11, 93, [(0, .ref 21), (1, .ref 75)], [.ref 75, .ref 21], 0, 0) 93 3 (fun _ => rfl) h) ?_
  refine pj_X_of (fun r h => pj_T_gi iG11 rfl rfl h) ?_
  show pj_X _ _ G11 96 [(0, .ref 21), (1, .ref 75)] [.int (pj_fi G11 75 7), .ref 21] _
  obtain ⟨y12, hy12⟩ : ∃ z : Int32, z = pj_fi G11 75 7 := ⟨_, rfl⟩
  rw [← hy12]
  rw [pj_nm_e]
  have ey12 : (pj_fi G11 75 7).toInt = y12.toInt := by rw [hy12]
  refine pj_X_of (fun r h => pj_T_pf iG11 rfl rfl rfl h) ?_
  show pj_X _ _ (pj_wv G11 21 7 (.int y12)) 99 [(0, .ref 21), (1, .ref 75)] [] _
  obtain ⟨G13, hG13⟩ : ∃ H, H = pj_wv G11 21 7 (.int y12) := ⟨_, rfl⟩
  have iG13 : pj_Inv G13 := by rw [hG13]; exact pj_Inv_wi iG11 (ci := 8) rfl (fun q hq => by cases hq)
  have kG13 : pj_kpt kc_68_21_75x G0 G13 := by rw [hG13]; exact pj_kpt_v kG11 rfl
  rw [← hG13]
  rw [pj_nm_e]
  refine pj_X_of (fun r h => pj_R_to (G13, 101, [(0, .ref 21), (1, .ref 75)], [.ref 75, .ref 21], 0, 0) 101 3 (fun _ => rfl) h) ?_
  refine pj_X_of (fun r h => pj_T_gi iG13 rfl rfl h) ?_
  show pj_X _ _ G13 104 [(0, .ref 21), (1, .ref 75)] [.int (pj_fi G13 75 8), .ref 21] _
  obtain ⟨y14, hy14⟩ : ∃ z : Int32, z = pj_fi G13 75 8 := ⟨_, rfl⟩
  rw [← hy14]
  rw [pj_nm_e]
  have ey14 : (pj_fi G13 75 8).toInt = y14.toInt := by rw [hy14]
  refine pj_X_of (fun r h => pj_T_pf iG13 rfl rfl rfl h) ?_
  show pj_X _ _ (pj_wv G13 21 8 (.int y14)) 107 [(0, .ref 21), (1, .ref 75)] [] _
  obtain ⟨G15, hG15⟩ : ∃ H, H = pj_wv G13 21 8 (.int y14) := ⟨_, rfl⟩
  have iG15 : pj_Inv G15 := by rw [hG15]; exact pj_Inv_wi iG13 (ci := 8) rfl (fun q hq => by cases hq)
  have kG15 : pj_kpt kc_68_21_75x G0 G15 := by rw [hG15]; exact pj_kpt_v kG13 rfl
  rw [← hG15]
  rw [pj_nm_e]
  have q16 : (pj_fi G15 21 0).toInt = y3.toInt := by rw [show pj_fi G15 21 0 = y3 from by rw [hG15, pj_fi_wv_ne _ _ _ _ _ _ (by decide)]; exact (by rw [hG13, pj_fi_wv_ne _ _ _ _ _ _ (by decide)]; exact (by rw [hG11, pj_fi_wc]; exact (by rw [hG10, pj_fi_wv_ne _ _ _ _ _ _ (by decide)]; exact (by rw [hG9, pj_fi_wc]; exact (by rw [hG8, pj_fi_wc]; exact (by rw [hG7, pj_fi_wc]; exact (by rw [hG6, pj_fi_wc]; exact (by rw [hG5]; exact pj_fi_wi hI.1 (ci := 8) rfl _))))))))]
  have q17 : (pj_fi G15 21 5).toInt = y4.toInt := by rw [show pj_fi G15 21 5 = y4 from by rw [hG15, pj_fi_wv_ne _ _ _ _ _ _ (by decide)]; exact (by rw [hG13, pj_fi_wv_ne _ _ _ _ _ _ (by decide)]; exact (by rw [hG11, pj_fi_wc]; exact (by rw [hG10]; exact pj_fi_wi iG9.1 (ci := 8) rfl _)))]
  have q18 : (pj_fi G15 75 0).toInt = y3.toInt := by rw [show pj_fi G15 75 0 = y3 from by rw [hG15, pj_fi_wv_ne _ _ _ _ _ _ (by decide)]; exact (by rw [hG13, pj_fi_wv_ne _ _ _ _ _ _ (by decide)]; exact (by rw [hG11, pj_fi_wc]; exact (by rw [hG10, pj_fi_wv_ne _ _ _ _ _ _ (by decide)]; exact (by rw [hG9, pj_fi_wc]; exact (by rw [hG8, pj_fi_wc]; exact (by rw [hG7, pj_fi_wc]; exact (by rw [hG6, pj_fi_wc]; exact (by rw [hG5, pj_fi_wv_ne _ _ _ _ _ _ (by decide)]; exact hy3.symm))))))))]
  have q19 : (pj_fi G15 75 5).toInt = y4.toInt := by rw [show pj_fi G15 75 5 = y4 from by rw [hG15, pj_fi_wv_ne _ _ _ _ _ _ (by decide)]; exact (by rw [hG13, pj_fi_wv_ne _ _ _ _ _ _ (by decide)]; exact (by rw [hG11, pj_fi_wc]; exact (by rw [hG10, pj_fi_wv_ne _ _ _ _ _ _ (by decide)]; exact (by rw [hG9, pj_fi_wc]; exact (by rw [hG8, pj_fi_wc]; exact (by rw [hG7, pj_fi_wc]; exact (by rw [hG6, pj_fi_wc]; exact (by rw [hG5, pj_fi_wv_ne _ _ _ _ _ _ (by decide)]; exact hy4.symm))))))))]
  exact pj_X_rt rfl rfl ⟨rfl, iG15, kG15, (fun H hH => by subst hH; exact (by omega)), rfl⟩
theorem fr_68_21_75x (G0 : pj_G) (hI : pj_Inv G0) : pj_Inv (F_68_21_75x G0) ∧ pj_kpt kc_68_21_75x G0 (F_68_21_75x G0) ∧ ((pj_fi (F_68_21_75x G0) 21 0).toInt = (pj_fi G0 75 0).toInt ∧ (pj_fi (F_68_21_75x G0) 21 5).toInt = (pj_fi G0 75 5).toInt) := by
  obtain ⟨v, G', -, -, i, j, x, e⟩ := ct_68_21_75x G0 hI 
  rw [← e]
  exact ⟨i, j, x _ rfl⟩
def kc_68_21_81x : pj_KT := ([(21, 0), (21, 5), (21, 7), (21, 8)], [21, 22, 23, 24, 25, 26], [22, 23, 24, 25, 26])
noncomputable def F_68_21_81x (G0 : pj_G) : pj_G := pj_nm (pj_fi G0 81 0) (fun y3 => pj_nm (pj_wv G0 21 0 (.int y3)) (fun G5 => pj_nm (pj_wc G5 82 22 6) (fun G6 => pj_nm (pj_wc G6 83 23 6) (fun G7 => pj_nm (pj_wc G7 84 24 6) (fun G8 => pj_nm (pj_wc G8 85 25 6) (fun G9 => pj_nm (pj_fi G0 81 5) (fun y4 => pj_nm (pj_wv G9 21 5 (.int y4)) (fun G10 => pj_nm (pj_wc G10 86 26 6) (fun G11 => pj_nm (pj_fi G11 81 7) (fun y12 => pj_nm (pj_wv G11 21 7 (.int y12)) (fun G13 => pj_nm (pj_fi G13 81 8) (fun y14 => pj_nm (pj_wv G13 21 8 (.int y14)) (fun G15 => G15)))))))))))))
theorem F_68_21_81x_e (G0 : pj_G) : F_68_21_81x G0 = pj_nm (pj_fi G0 81 0) (fun y3 => pj_nm (pj_wv G0 21 0 (.int y3)) (fun G5 => pj_nm (pj_wc G5 82 22 6) (fun G6 => pj_nm (pj_wc G6 83 23 6) (fun G7 => pj_nm (pj_wc G7 84 24 6) (fun G8 => pj_nm (pj_wc G8 85 25 6) (fun G9 => pj_nm (pj_fi G0 81 5) (fun y4 => pj_nm (pj_wv G9 21 5 (.int y4)) (fun G10 => pj_nm (pj_wc G10 86 26 6) (fun G11 => pj_nm (pj_fi G11 81 7) (fun y12 => pj_nm (pj_wv G11 21 7 (.int y12)) (fun G13 => pj_nm (pj_fi G13 81 8) (fun y14 => pj_nm (pj_wv G13 21 8 (.int y14)) (fun G15 => G15))))))))))))) := rfl
theorem ct_68_21_81x (G0 : pj_G) (hI : pj_Inv G0) : pj_Y 1 68 [.ref 21, .ref 81] G0 (fun v' G' => v' = none ∧ pj_Inv G' ∧ pj_kpt kc_68_21_81x G0 G' ∧ (∀ H, G0 = H → ((pj_fi G' 21 0).toInt = (pj_fi H 81 0).toInt ∧ (pj_fi G' 21 5).toInt = (pj_fi H 81 5).toInt)) ∧ (G' = F_68_21_81x G0)) := by
  have c0_ : ((Int8.ofInt 6).toInt32).toInt = 6 := by decide
  have c1_ : (Int32.ofInt 0).toInt = 0 := by decide
  refine pj_Y_X (M := pj_m68) rfl rfl (Nat.le_of_ble_eq_true rfl) ?_
  have hK : pj_kpt kc_68_21_81x G0 G0 := pj_kpt_r _ _
  show pj_X _ _ G0 0 [(0, .ref 21), (1, .ref 81)] [] _
  rw [F_68_21_81x_e]
  obtain ⟨y1, hy1⟩ : ∃ z : Int32, z = pj_fi G0 21 0 := ⟨_, rfl⟩
  have ey1 : (pj_fi G0 21 0).toInt = y1.toInt := by rw [hy1]
  have ry1 : (0 : Int) ≤ y1.toInt ∧ y1.toInt ≤ 6 := by rw [hy1]; exact hI.2.1 21 0 (0, 6) rfl
  obtain ⟨y2, hy2⟩ : ∃ z : Int32, z = pj_fi G0 21 5 := ⟨_, rfl⟩
  have ey2 : (pj_fi G0 21 5).toInt = y2.toInt := by rw [hy2]
  have ry2 : (0 : Int) ≤ y2.toInt ∧ y2.toInt ≤ 6 := by rw [hy2]; exact hI.2.1 21 5 (0, 6) rfl
  obtain ⟨y3, hy3⟩ : ∃ z : Int32, z = pj_fi G0 81 0 := ⟨_, rfl⟩
  have ey3 : (pj_fi G0 81 0).toInt = y3.toInt := by rw [hy3]
  have ry3 : (0 : Int) ≤ y3.toInt ∧ y3.toInt ≤ 6 := by rw [hy3]; exact hI.2.1 81 0 (0, 6) rfl
  obtain ⟨y4, hy4⟩ : ∃ z : Int32, z = pj_fi G0 81 5 := ⟨_, rfl⟩
  have ey4 : (pj_fi G0 81 5).toInt = y4.toInt := by rw [hy4]
  have ry4 : (0 : Int) ≤ y4.toInt ∧ y4.toInt ≤ 6 := by rw [hy4]; exact hI.2.1 81 5 (0, 6) rfl
  refine pj_X_of (fun r h => pj_R_to (G0, 2, [(0, .ref 21), (1, .ref 81)], [.ref 81, .ref 21], 0, 0) 2 3 (fun _ => rfl) h) ?_
  refine pj_X_of (fun r h => pj_T_gi hI rfl rfl h) ?_
  show pj_X _ _ G0 5 [(0, .ref 21), (1, .ref 81)] [.int (pj_fi G0 81 0), .ref 21] _
  rw [← hy3, pj_nm_e]
  refine pj_X_of (fun r h => pj_T_pf hI rfl rfl rfl h) ?_
  show pj_X _ _ (pj_wv G0 21 0 (.int y3)) 8 [(0, .ref 21), (1, .ref 81)] [] _
  obtain ⟨G5, hG5⟩ : ∃ H, H = pj_wv G0 21 0 (.int y3) := ⟨_, rfl⟩
  have iG5 : pj_Inv G5 := by rw [hG5]; exact pj_Inv_wi hI (ci := 8) rfl (fun q hq => by cases hq; exact ⟨by show (0 : Int) ≤ _; omega, by show _ ≤ (6 : Int); omega⟩)
  have kG5 : pj_kpt kc_68_21_81x G0 G5 := by rw [hG5]; exact pj_kpt_v hK rfl
  rw [← hG5]
  rw [pj_nm_e]
  refine pj_X_of (fun r h => pj_R_to (G5, 9, [(0, .ref 21), (1, .ref 81)], [.ref 81], 0, 0) 9 2 (fun _ => rfl) h) ?_
  refine pj_X_of (fun r h => pj_T_gr iG5 rfl rfl rfl h) ?_
  refine pj_X_of (fun r h => pj_R_to (G5, 14, [(0, .ref 21), (1, .ref 81)], [.ref 21, .int (Int32.ofInt 0), .ref 82], 0, 0) 14 3 (fun _ => rfl) h) ?_
  refine pj_X_of (fun r h => pj_T_gr iG5 rfl rfl rfl h) ?_
  refine pj_X_of (fun r h => pj_R_to (G5, 20, [(0, .ref 21), (1, .ref 81)], [.int ((Int8.ofInt 6).toInt32), .int (Int32.ofInt 0), .ref 22, .int (Int32.ofInt 0), .ref 82], 0, 0) 20 3 (fun _ => rfl) h) ?_
  refine pj_X_of (fun r h => pj_T_cp iG5 rfl rfl rfl rfl (by omega) (by omega) (by show _ = ((6 : Nat) : Int); omega) (Nat.le_of_ble_eq_true rfl) h) ?_
  show pj_X _ _ (pj_wc G5 82 22 6) 23 [(0, .ref 21), (1, .ref 81)] [] _
  obtain ⟨G6, hG6⟩ : ∃ H, H = pj_wc G5 82 22 6 := ⟨_, rfl⟩
  have iG6 : pj_Inv G6 := by rw [hG6]; exact pj_Inv_wc iG5 rfl rfl (fun q hq => by cases hq; exact ⟨rfl, by decide⟩) rfl
  have kG6 : pj_kpt kc_68_21_81x G0 G6 := by rw [hG6]; exact pj_kpt_c kG5 rfl
  rw [← hG6]
  rw [pj_nm_e]
  refine pj_X_of (fun r h => pj_R_to (G6, 24, [(0, .ref 21), (1, .ref 81)], [.ref 81], 0, 0) 24 2 (fun _ => rfl) h) ?_
  refine pj_X_of (fun r h => pj_T_gr iG6 rfl rfl rfl h) ?_
  refine pj_X_of (fun r h => pj_R_to (G6, 29, [(0, .ref 21), (1, .ref 81)], [.ref 21, .int (Int32.ofInt 0), .ref 83], 0, 0) 29 3 (fun _ => rfl) h) ?_
  refine pj_X_of (fun r h => pj_T_gr iG6 rfl rfl rfl h) ?_
  refine pj_X_of (fun r h => pj_R_to (G6, 35, [(0, .ref 21), (1, .ref 81)], [.int ((Int8.ofInt 6).toInt32), .int (Int32.ofInt 0), .ref 23, .int (Int32.ofInt 0), .ref 83], 0, 0) 35 3 (fun _ => rfl) h) ?_
  refine pj_X_of (fun r h => pj_T_cp iG6 rfl rfl rfl rfl (by omega) (by omega) (by show _ = ((6 : Nat) : Int); omega) (Nat.le_of_ble_eq_true rfl) h) ?_
  show pj_X _ _ (pj_wc G6 83 23 6) 38 [(0, .ref 21), (1, .ref 81)] [] _
  obtain ⟨G7, hG7⟩ : ∃ H, H = pj_wc G6 83 23 6 := ⟨_, rfl⟩
  have iG7 : pj_Inv G7 := by rw [hG7]; exact pj_Inv_wc iG6 rfl rfl (fun q hq => by cases hq) rfl
  have kG7 : pj_kpt kc_68_21_81x G0 G7 := by rw [hG7]; exact pj_kpt_c kG6 rfl
  rw [← hG7]
  rw [pj_nm_e]
  refine pj_X_of (fun r h => pj_R_to (G7, 39, [(0, .ref 21), (1, .ref 81)], [.ref 81], 0, 0) 39 2 (fun _ => rfl) h) ?_
  refine pj_X_of (fun r h => pj_T_gr iG7 rfl rfl rfl h) ?_
  refine pj_X_of (fun r h => pj_R_to (G7, 44, [(0, .ref 21), (1, .ref 81)], [.ref 21, .int (Int32.ofInt 0), .ref 84], 0, 0) 44 3 (fun _ => rfl) h) ?_
  refine pj_X_of (fun r h => pj_T_gr iG7 rfl rfl rfl h) ?_
  refine pj_X_of (fun r h => pj_R_to (G7, 50, [(0, .ref 21), (1, .ref 81)], [.int ((Int8.ofInt 6).toInt32), .int (Int32.ofInt 0), .ref 24, .int (Int32.ofInt 0), .ref 84], 0, 0) 50 3 (fun _ => rfl) h) ?_
  refine pj_X_of (fun r h => pj_T_cp iG7 rfl rfl rfl rfl (by omega) (by omega) (by show _ = ((6 : Nat) : Int); omega) (Nat.le_of_ble_eq_true rfl) h) ?_
  show pj_X _ _ (pj_wc G7 84 24 6) 53 [(0, .ref 21), (1, .ref 81)] [] _
  obtain ⟨G8, hG8⟩ : ∃ H, H = pj_wc G7 84 24 6 := ⟨_, rfl⟩
  have iG8 : pj_Inv G8 := by rw [hG8]; exact pj_Inv_wc iG7 rfl rfl (fun q hq => by cases hq) rfl
  have kG8 : pj_kpt kc_68_21_81x G0 G8 := by rw [hG8]; exact pj_kpt_c kG7 rfl
  rw [← hG8]
  rw [pj_nm_e]
  refine pj_X_of (fun r h => pj_R_to (G8, 54, [(0, .ref 21), (1, .ref 81)], [.ref 81], 0, 0) 54 2 (fun _ => rfl) h) ?_
  refine pj_X_of (fun r h => pj_T_gr iG8 rfl rfl rfl h) ?_
  refine pj_X_of (fun r h => pj_R_to (G8, 59, [(0, .ref 21), (1, .ref 81)], [.ref 21, .int (Int32.ofInt 0), .ref 85], 0, 0) 59 3 (fun _ => rfl) h) ?_
  refine pj_X_of (fun r h => pj_T_gr iG8 rfl rfl rfl h) ?_
  refine pj_X_of (fun r h => pj_R_to (G8, 65, [(0, .ref 21), (1, .ref 81)], [.int ((Int8.ofInt 6).toInt32), .int (Int32.ofInt 0), .ref 25, .int (Int32.ofInt 0), .ref 85], 0, 0) 65 3 (fun _ => rfl) h) ?_
  refine pj_X_of (fun r h => pj_T_cp iG8 rfl rfl rfl rfl (by omega) (by omega) (by show _ = ((6 : Nat) : Int); omega) (Nat.le_of_ble_eq_true rfl) h) ?_
  show pj_X _ _ (pj_wc G8 85 25 6) 68 [(0, .ref 21), (1, .ref 81)] [] _
  obtain ⟨G9, hG9⟩ : ∃ H, H = pj_wc G8 85 25 6 := ⟨_, rfl⟩
  have iG9 : pj_Inv G9 := by rw [hG9]; exact pj_Inv_wc iG8 rfl rfl (fun q hq => by cases hq) rfl
  have kG9 : pj_kpt kc_68_21_81x G0 G9 := by rw [hG9]; exact pj_kpt_c kG8 rfl
  rw [← hG9]
  rw [pj_nm_e]
  refine pj_X_of (fun r h => pj_R_to (G9, 70, [(0, .ref 21), (1, .ref 81)], [.ref 81, .ref 21], 0, 0) 70 3 (fun _ => rfl) h) ?_
  refine pj_X_of (fun r h => pj_T_gi iG9 rfl rfl h) ?_
  show pj_X _ _ G9 73 [(0, .ref 21), (1, .ref 81)] [.int (pj_fi G9 81 5), .ref 21] _
  rw [← hy4, pj_nm_e]
  rw [show pj_fi G9 81 5 = y4 from by rw [hG9, pj_fi_wc]; exact (by rw [hG8, pj_fi_wc]; exact (by rw [hG7, pj_fi_wc]; exact (by rw [hG6, pj_fi_wc]; exact (by rw [hG5, pj_fi_wv_ne _ _ _ _ _ _ (by decide)]; exact hy4.symm))))]
  refine pj_X_of (fun r h => pj_T_pf iG9 rfl rfl rfl h) ?_
  show pj_X _ _ (pj_wv G9 21 5 (.int y4)) 76 [(0, .ref 21), (1, .ref 81)] [] _
  obtain ⟨G10, hG10⟩ : ∃ H, H = pj_wv G9 21 5 (.int y4) := ⟨_, rfl⟩
  have iG10 : pj_Inv G10 := by rw [hG10]; exact pj_Inv_wi iG9 (ci := 8) rfl (fun q hq => by cases hq; exact ⟨by show (0 : Int) ≤ _; omega, by show _ ≤ (6 : Int); omega⟩)
  have kG10 : pj_kpt kc_68_21_81x G0 G10 := by rw [hG10]; exact pj_kpt_v kG9 rfl
  rw [← hG10]
  rw [pj_nm_e]
  refine pj_X_of (fun r h => pj_R_to (G10, 77, [(0, .ref 21), (1, .ref 81)], [.ref 81], 0, 0) 77 2 (fun _ => rfl) h) ?_
  refine pj_X_of (fun r h => pj_T_gr iG10 rfl rfl rfl h) ?_
  refine pj_X_of (fun r h => pj_R_to (G10, 82, [(0, .ref 21), (1, .ref 81)], [.ref 21, .int (Int32.ofInt 0), .ref 86], 0, 0) 82 3 (fun _ => rfl) h) ?_
  refine pj_X_of (fun r h => pj_T_gr iG10 rfl rfl rfl h) ?_
  refine pj_X_of (fun r h => pj_R_to (G10, 88, [(0, .ref 21), (1, .ref 81)], [.int ((Int8.ofInt 6).toInt32), .int (Int32.ofInt 0), .ref 26, .int (Int32.ofInt 0), .ref 86], 0, 0) 88 3 (fun _ => rfl) h) ?_
  refine pj_X_of (fun r h => pj_T_cp iG10 rfl rfl rfl rfl (by omega) (by omega) (by show _ = ((6 : Nat) : Int); omega) (Nat.le_of_ble_eq_true rfl) h) ?_
  show pj_X _ _ (pj_wc G10 86 26 6) 91 [(0, .ref 21), (1, .ref 81)] [] _
  obtain ⟨G11, hG11⟩ : ∃ H, H = pj_wc G10 86 26 6 := ⟨_, rfl⟩
  have iG11 : pj_Inv G11 := by rw [hG11]; exact pj_Inv_wc iG10 rfl rfl (fun q hq => by cases hq; exact ⟨rfl, by decide⟩) rfl
  have kG11 : pj_kpt kc_68_21_81x G0 G11 := by rw [hG11]; exact pj_kpt_c kG10 rfl
  rw [← hG11]
  rw [pj_nm_e]
  refine pj_X_of (fun r h => pj_R_to (G11, 93, [(0, .ref 21), (1, .ref 81)], [.ref 81, .ref 21], 0, 0) 93 3 (fun _ => rfl) h) ?_
  refine pj_X_of (fun r h => pj_T_gi iG11 rfl rfl h) ?_
  show pj_X _ _ G11 96 [(0, .ref 21), (1, .ref 81)] [.int (pj_fi G11 81 7), .ref 21] _
  obtain ⟨y12, hy12⟩ : ∃ z : Int32, z = pj_fi G11 81 7 := ⟨_, rfl⟩
  rw [← hy12]
  rw [pj_nm_e]
  have ey12 : (pj_fi G11 81 7).toInt = y12.toInt := by rw [hy12]
  refine pj_X_of (fun r h => pj_T_pf iG11 rfl rfl rfl h) ?_
  show pj_X _ _ (pj_wv G11 21 7 (.int y12)) 99 [(0, .ref 21), (1, .ref 81)] [] _
  obtain ⟨G13, hG13⟩ : ∃ H, H = pj_wv G11 21 7 (.int y12) := ⟨_, rfl⟩
  have iG13 : pj_Inv G13 := by rw [hG13]; exact pj_Inv_wi iG11 (ci := 8) rfl (fun q hq => by cases hq)
  have kG13 : pj_kpt kc_68_21_81x G0 G13 := by rw [hG13]; exact pj_kpt_v kG11 rfl
  rw [← hG13]
  rw [pj_nm_e]
  refine pj_X_of (fun r h => pj_R_to (G13, 101, [(0, .ref 21), (1, .ref 81)], [.ref 81, .ref 21], 0, 0) 101 3 (fun _ => rfl) h) ?_
  refine pj_X_of (fun r h => pj_T_gi iG13 rfl rfl h) ?_
  show pj_X _ _ G13 104 [(0, .ref 21), (1, .ref 81)] [.int (pj_fi G13 81 8), .ref 21] _
  obtain ⟨y14, hy14⟩ : ∃ z : Int32, z = pj_fi G13 81 8 := ⟨_, rfl⟩
  rw [← hy14]
  rw [pj_nm_e]
  have ey14 : (pj_fi G13 81 8).toInt = y14.toInt := by rw [hy14]
  refine pj_X_of (fun r h => pj_T_pf iG13 rfl rfl rfl h) ?_
  show pj_X _ _ (pj_wv G13 21 8 (.int y14)) 107 [(0, .ref 21), (1, .ref 81)] [] _
  obtain ⟨G15, hG15⟩ : ∃ H, H = pj_wv G13 21 8 (.int y14) := ⟨_, rfl⟩
  have iG15 : pj_Inv G15 := by rw [hG15]; exact pj_Inv_wi iG13 (ci := 8) rfl (fun q hq => by cases hq)
  have kG15 : pj_kpt kc_68_21_81x G0 G15 := by rw [hG15]; exact pj_kpt_v kG13 rfl
  rw [← hG15]
  rw [pj_nm_e]
  have q16 : (pj_fi G15 21 0).toInt = y3.toInt := by rw [show pj_fi G15 21 0 = y3 from by rw [hG15, pj_fi_wv_ne _ _ _ _ _ _ (by decide)]; exact (by rw [hG13, pj_fi_wv_ne _ _ _ _ _ _ (by decide)]; exact (by rw [hG11, pj_fi_wc]; exact (by rw [hG10, pj_fi_wv_ne _ _ _ _ _ _ (by decide)]; exact (by rw [hG9, pj_fi_wc]; exact (by rw [hG8, pj_fi_wc]; exact (by rw [hG7, pj_fi_wc]; exact (by rw [hG6, pj_fi_wc]; exact (by rw [hG5]; exact pj_fi_wi hI.1 (ci := 8) rfl _))))))))]
  have q17 : (pj_fi G15 21 5).toInt = y4.toInt := by rw [show pj_fi G15 21 5 = y4 from by rw [hG15, pj_fi_wv_ne _ _ _ _ _ _ (by decide)]; exact (by rw [hG13, pj_fi_wv_ne _ _ _ _ _ _ (by decide)]; exact (by rw [hG11, pj_fi_wc]; exact (by rw [hG10]; exact pj_fi_wi iG9.1 (ci := 8) rfl _)))]
  have q18 : (pj_fi G15 81 0).toInt = y3.toInt := by rw [show pj_fi G15 81 0 = y3 from by rw [hG15, pj_fi_wv_ne _ _ _ _ _ _ (by decide)]; exact (by rw [hG13, pj_fi_wv_ne _ _ _ _ _ _ (by decide)]; exact (by rw [hG11, pj_fi_wc]; exact (by rw [hG10, pj_fi_wv_ne _ _ _ _ _ _ (by decide)]; exact (by rw [hG9, pj_fi_wc]; exact (by rw [hG8, pj_fi_wc]; exact (by rw [hG7, pj_fi_wc]; exact (by rw [hG6, pj_fi_wc]; exact (by rw [hG5, pj_fi_wv_ne _ _ _ _ _ _ (by decide)]; exact hy3.symm))))))))]
  have q19 : (pj_fi G15 81 5).toInt = y4.toInt := by rw [show pj_fi G15 81 5 = y4 from by rw [hG15, pj_fi_wv_ne _ _ _ _ _ _ (by decide)]; exact (by rw [hG13, pj_fi_wv_ne _ _ _ _ _ _ (by decide)]; exact (by rw [hG11, pj_fi_wc]; exact (by rw [hG10, pj_fi_wv_ne _ _ _ _ _ _ (by decide)]; exact (by rw [hG9, pj_fi_wc]; exact (by rw [hG8, pj_fi_wc]; exact (by rw [hG7, pj_fi_wc]; exact (by rw [hG6, pj_fi_wc]; exact (by rw [hG5, pj_fi_wv_ne _ _ _ _ _ _ (by decide)]; exact hy4.symm))))))))]
  exact pj_X_rt rfl rfl ⟨rfl, iG15, kG15, (fun H hH => by subst hH; exact (by omega)), rfl⟩
theorem fr_68_21_81x (G0 : pj_G) (hI : pj_Inv G0) : pj_Inv (F_68_21_81x G0) ∧ pj_kpt kc_68_21_81x G0 (F_68_21_81x G0) ∧ ((pj_fi (F_68_21_81x G0) 21 0).toInt = (pj_fi G0 81 0).toInt ∧ (pj_fi (F_68_21_81x G0) 21 5).toInt = (pj_fi G0 81 5).toInt) := by
  obtain ⟨v, G', -, -, i, j, x, e⟩ := ct_68_21_81x G0 hI 
  rw [← e]
  exact ⟨i, j, x _ rfl⟩
def kc_68_21_87x : pj_KT := ([(21, 0), (21, 5), (21, 7), (21, 8)], [21, 22, 23, 24, 25, 26], [22, 23, 24, 25, 26])
noncomputable def F_68_21_87x (G0 : pj_G) : pj_G := pj_nm (pj_fi G0 87 0) (fun y3 => pj_nm (pj_wv G0 21 0 (.int y3)) (fun G5 => pj_nm (pj_wc G5 88 22 6) (fun G6 => pj_nm (pj_wc G6 89 23 6) (fun G7 => pj_nm (pj_wc G7 90 24 6) (fun G8 => pj_nm (pj_wc G8 91 25 6) (fun G9 => pj_nm (pj_fi G0 87 5) (fun y4 => pj_nm (pj_wv G9 21 5 (.int y4)) (fun G10 => pj_nm (pj_wc G10 92 26 6) (fun G11 => pj_nm (pj_fi G11 87 7) (fun y12 => pj_nm (pj_wv G11 21 7 (.int y12)) (fun G13 => pj_nm (pj_fi G13 87 8) (fun y14 => pj_nm (pj_wv G13 21 8 (.int y14)) (fun G15 => G15)))))))))))))
theorem F_68_21_87x_e (G0 : pj_G) : F_68_21_87x G0 = pj_nm (pj_fi G0 87 0) (fun y3 => pj_nm (pj_wv G0 21 0 (.int y3)) (fun G5 => pj_nm (pj_wc G5 88 22 6) (fun G6 => pj_nm (pj_wc G6 89 23 6) (fun G7 => pj_nm (pj_wc G7 90 24 6) (fun G8 => pj_nm (pj_wc G8 91 25 6) (fun G9 => pj_nm (pj_fi G0 87 5) (fun y4 => pj_nm (pj_wv G9 21 5 (.int y4)) (fun G10 => pj_nm (pj_wc G10 92 26 6) (fun G11 => pj_nm (pj_fi G11 87 7) (fun y12 => pj_nm (pj_wv G11 21 7 (.int y12)) (fun G13 => pj_nm (pj_fi G13 87 8) (fun y14 => pj_nm (pj_wv G13 21 8 (.int y14)) (fun G15 => G15))))))))))))) := rfl
theorem ct_68_21_87x (G0 : pj_G) (hI : pj_Inv G0) : pj_Y 1 68 [.ref 21, .ref 87] G0 (fun v' G' => v' = none ∧ pj_Inv G' ∧ pj_kpt kc_68_21_87x G0 G' ∧ (∀ H, G0 = H → ((pj_fi G' 21 0).toInt = (pj_fi H 87 0).toInt ∧ (pj_fi G' 21 5).toInt = (pj_fi H 87 5).toInt)) ∧ (G' = F_68_21_87x G0)) := by
  have c0_ : ((Int8.ofInt 6).toInt32).toInt = 6 := by decide
  have c1_ : (Int32.ofInt 0).toInt = 0 := by decide
  refine pj_Y_X (M := pj_m68) rfl rfl (Nat.le_of_ble_eq_true rfl) ?_
  have hK : pj_kpt kc_68_21_87x G0 G0 := pj_kpt_r _ _
  show pj_X _ _ G0 0 [(0, .ref 21), (1, .ref 87)] [] _
  rw [F_68_21_87x_e]
  obtain ⟨y1, hy1⟩ : ∃ z : Int32, z = pj_fi G0 21 0 := ⟨_, rfl⟩
  have ey1 : (pj_fi G0 21 0).toInt = y1.toInt := by rw [hy1]
  have ry1 : (0 : Int) ≤ y1.toInt ∧ y1.toInt ≤ 6 := by rw [hy1]; exact hI.2.1 21 0 (0, 6) rfl
  obtain ⟨y2, hy2⟩ : ∃ z : Int32, z = pj_fi G0 21 5 := ⟨_, rfl⟩
  have ey2 : (pj_fi G0 21 5).toInt = y2.toInt := by rw [hy2]
  have ry2 : (0 : Int) ≤ y2.toInt ∧ y2.toInt ≤ 6 := by rw [hy2]; exact hI.2.1 21 5 (0, 6) rfl
  obtain ⟨y3, hy3⟩ : ∃ z : Int32, z = pj_fi G0 87 0 := ⟨_, rfl⟩
  have ey3 : (pj_fi G0 87 0).toInt = y3.toInt := by rw [hy3]
  have ry3 : (0 : Int) ≤ y3.toInt ∧ y3.toInt ≤ 6 := by rw [hy3]; exact hI.2.1 87 0 (0, 6) rfl
  obtain ⟨y4, hy4⟩ : ∃ z : Int32, z = pj_fi G0 87 5 := ⟨_, rfl⟩
  have ey4 : (pj_fi G0 87 5).toInt = y4.toInt := by rw [hy4]
  have ry4 : (0 : Int) ≤ y4.toInt ∧ y4.toInt ≤ 6 := by rw [hy4]; exact hI.2.1 87 5 (0, 6) rfl
  refine pj_X_of (fun r h => pj_R_to (G0, 2, [(0, .ref 21), (1, .ref 87)], [.ref 87, .ref 21], 0, 0) 2 3 (fun _ => rfl) h) ?_
  refine pj_X_of (fun r h => pj_T_gi hI rfl rfl h) ?_
  show pj_X _ _ G0 5 [(0, .ref 21), (1, .ref 87)] [.int (pj_fi G0 87 0), .ref 21] _
  rw [← hy3, pj_nm_e]
  refine pj_X_of (fun r h => pj_T_pf hI rfl rfl rfl h) ?_
  show pj_X _ _ (pj_wv G0 21 0 (.int y3)) 8 [(0, .ref 21), (1, .ref 87)] [] _
  obtain ⟨G5, hG5⟩ : ∃ H, H = pj_wv G0 21 0 (.int y3) := ⟨_, rfl⟩
  have iG5 : pj_Inv G5 := by rw [hG5]; exact pj_Inv_wi hI (ci := 8) rfl (fun q hq => by cases hq; exact ⟨by show (0 : Int) ≤ _; omega, by show _ ≤ (6 : Int); omega⟩)
  have kG5 : pj_kpt kc_68_21_87x G0 G5 := by rw [hG5]; exact pj_kpt_v hK rfl
  rw [← hG5]
  rw [pj_nm_e]
  refine pj_X_of (fun r h => pj_R_to (G5, 9, [(0, .ref 21), (1, .ref 87)], [.ref 87], 0, 0) 9 2 (fun _ => rfl) h) ?_
  refine pj_X_of (fun r h => pj_T_gr iG5 rfl rfl rfl h) ?_
  refine pj_X_of (fun r h => pj_R_to (G5, 14, [(0, .ref 21), (1, .ref 87)], [.ref 21, .int (Int32.ofInt 0), .ref 88], 0, 0) 14 3 (fun _ => rfl) h) ?_
  refine pj_X_of (fun r h => pj_T_gr iG5 rfl rfl rfl h) ?_
  refine pj_X_of (fun r h => pj_R_to (G5, 20, [(0, .ref 21), (1, .ref 87)], [.int ((Int8.ofInt 6).toInt32), .int (Int32.ofInt 0), .ref 22, .int (Int32.ofInt 0), .ref 88], 0, 0) 20 3 (fun _ => rfl) h) ?_
  refine pj_X_of (fun r h => pj_T_cp iG5 rfl rfl rfl rfl (by omega) (by omega) (by show _ = ((6 : Nat) : Int); omega) (Nat.le_of_ble_eq_true rfl) h) ?_
  show pj_X _ _ (pj_wc G5 88 22 6) 23 [(0, .ref 21), (1, .ref 87)] [] _
  obtain ⟨G6, hG6⟩ : ∃ H, H = pj_wc G5 88 22 6 := ⟨_, rfl⟩
  have iG6 : pj_Inv G6 := by rw [hG6]; exact pj_Inv_wc iG5 rfl rfl (fun q hq => by cases hq; exact ⟨rfl, by decide⟩) rfl
  have kG6 : pj_kpt kc_68_21_87x G0 G6 := by rw [hG6]; exact pj_kpt_c kG5 rfl
  rw [← hG6]
  rw [pj_nm_e]
  refine pj_X_of (fun r h => pj_R_to (G6, 24, [(0, .ref 21), (1, .ref 87)], [.ref 87], 0, 0) 24 2 (fun _ => rfl) h) ?_
  refine pj_X_of (fun r h => pj_T_gr iG6 rfl rfl rfl h) ?_
  refine pj_X_of (fun r h => pj_R_to (G6, 29, [(0, .ref 21), (1, .ref 87)], [.ref 21, .int (Int32.ofInt 0), .ref 89], 0, 0) 29 3 (fun _ => rfl) h) ?_
  refine pj_X_of (fun r h => pj_T_gr iG6 rfl rfl rfl h) ?_
  refine pj_X_of (fun r h => pj_R_to (G6, 35, [(0, .ref 21), (1, .ref 87)], [.int ((Int8.ofInt 6).toInt32), .int (Int32.ofInt 0), .ref 23, .int (Int32.ofInt 0), .ref 89], 0, 0) 35 3 (fun _ => rfl) h) ?_
  refine pj_X_of (fun r h => pj_T_cp iG6 rfl rfl rfl rfl (by omega) (by omega) (by show _ = ((6 : Nat) : Int); omega) (Nat.le_of_ble_eq_true rfl) h) ?_
  show pj_X _ _ (pj_wc G6 89 23 6) 38 [(0, .ref 21), (1, .ref 87)] [] _
  obtain ⟨G7, hG7⟩ : ∃ H, H = pj_wc G6 89 23 6 := ⟨_, rfl⟩
  have iG7 : pj_Inv G7 := by rw [hG7]; exact pj_Inv_wc iG6 rfl rfl (fun q hq => by cases hq) rfl
  have kG7 : pj_kpt kc_68_21_87x G0 G7 := by rw [hG7]; exact pj_kpt_c kG6 rfl
  rw [← hG7]
  rw [pj_nm_e]
  refine pj_X_of (fun r h => pj_R_to (G7, 39, [(0, .ref 21), (1, .ref 87)], [.ref 87], 0, 0) 39 2 (fun _ => rfl) h) ?_
  refine pj_X_of (fun r h => pj_T_gr iG7 rfl rfl rfl h) ?_
  refine pj_X_of (fun r h => pj_R_to (G7, 44, [(0, .ref 21), (1, .ref 87)], [.ref 21, .int (Int32.ofInt 0), .ref 90], 0, 0) 44 3 (fun _ => rfl) h) ?_
  refine pj_X_of (fun r h => pj_T_gr iG7 rfl rfl rfl h) ?_
  refine pj_X_of (fun r h => pj_R_to (G7, 50, [(0, .ref 21), (1, .ref 87)], [.int ((Int8.ofInt 6).toInt32), .int (Int32.ofInt 0), .ref 24, .int (Int32.ofInt 0), .ref 90], 0, 0) 50 3 (fun _ => rfl) h) ?_
  refine pj_X_of (fun r h => pj_T_cp iG7 rfl rfl rfl rfl (by omega) (by omega) (by show _ = ((6 : Nat) : Int); omega) (Nat.le_of_ble_eq_true rfl) h) ?_
  show pj_X _ _ (pj_wc G7 90 24 6) 53 [(0, .ref 21), (1, .ref 87)] [] _
  obtain ⟨G8, hG8⟩ : ∃ H, H = pj_wc G7 90 24 6 := ⟨_, rfl⟩
  have iG8 : pj_Inv G8 := by rw [hG8]; exact pj_Inv_wc iG7 rfl rfl (fun q hq => by cases hq) rfl
  have kG8 : pj_kpt kc_68_21_87x G0 G8 := by rw [hG8]; exact pj_kpt_c kG7 rfl
  rw [← hG8]
  rw [pj_nm_e]
  refine pj_X_of (fun r h => pj_R_to (G8, 54, [(0, .ref 21), (1, .ref 87)], [.ref 87], 0, 0) 54 2 (fun _ => rfl) h) ?_
  refine pj_X_of (fun r h => pj_T_gr iG8 rfl rfl rfl h) ?_
  refine pj_X_of (fun r h => pj_R_to (G8, 59, [(0, .ref 21), (1, .ref 87)], [.ref 21, .int (Int32.ofInt 0), .ref 91], 0, 0) 59 3 (fun _ => rfl) h) ?_
  refine pj_X_of (fun r h => pj_T_gr iG8 rfl rfl rfl h) ?_
  refine pj_X_of (fun r h => pj_R_to (G8, 65, [(0, .ref 21), (1, .ref 87)], [.int ((Int8.ofInt 6).toInt32), .int (Int32.ofInt 0), .ref 25, .int (Int32.ofInt 0), .ref 91], 0, 0) 65 3 (fun _ => rfl) h) ?_
  refine pj_X_of (fun r h => pj_T_cp iG8 rfl rfl rfl rfl (by omega) (by omega) (by show _ = ((6 : Nat) : Int); omega) (Nat.le_of_ble_eq_true rfl) h) ?_
  show pj_X _ _ (pj_wc G8 91 25 6) 68 [(0, .ref 21), (1, .ref 87)] [] _
  obtain ⟨G9, hG9⟩ : ∃ H, H = pj_wc G8 91 25 6 := ⟨_, rfl⟩
  have iG9 : pj_Inv G9 := by rw [hG9]; exact pj_Inv_wc iG8 rfl rfl (fun q hq => by cases hq) rfl
  have kG9 : pj_kpt kc_68_21_87x G0 G9 := by rw [hG9]; exact pj_kpt_c kG8 rfl
  rw [← hG9]
  rw [pj_nm_e]
  refine pj_X_of (fun r h => pj_R_to (G9, 70, [(0, .ref 21), (1, .ref 87)], [.ref 87, .ref 21], 0, 0) 70 3 (fun _ => rfl) h) ?_
  refine pj_X_of (fun r h => pj_T_gi iG9 rfl rfl h) ?_
  show pj_X _ _ G9 73 [(0, .ref 21), (1, .ref 87)] [.int (pj_fi G9 87 5), .ref 21] _
  rw [← hy4, pj_nm_e]
  rw [show pj_fi G9 87 5 = y4 from by rw [hG9, pj_fi_wc]; exact (by rw [hG8, pj_fi_wc]; exact (by rw [hG7, pj_fi_wc]; exact (by rw [hG6, pj_fi_wc]; exact (by rw [hG5, pj_fi_wv_ne _ _ _ _ _ _ (by decide)]; exact hy4.symm))))]
  refine pj_X_of (fun r h => pj_T_pf iG9 rfl rfl rfl h) ?_
  show pj_X _ _ (pj_wv G9 21 5 (.int y4)) 76 [(0, .ref 21), (1, .ref 87)] [] _
  obtain ⟨G10, hG10⟩ : ∃ H, H = pj_wv G9 21 5 (.int y4) := ⟨_, rfl⟩
  have iG10 : pj_Inv G10 := by rw [hG10]; exact pj_Inv_wi iG9 (ci := 8) rfl (fun q hq => by cases hq; exact ⟨by show (0 : Int) ≤ _; omega, by show _ ≤ (6 : Int); omega⟩)
  have kG10 : pj_kpt kc_68_21_87x G0 G10 := by rw [hG10]; exact pj_kpt_v kG9 rfl
  rw [← hG10]
  rw [pj_nm_e]
  refine pj_X_of (fun r h => pj_R_to (G10, 77, [(0, .ref 21), (1, .ref 87)], [.ref 87], 0, 0) 77 2 (fun _ => rfl) h) ?_
  refine pj_X_of (fun r h => pj_T_gr iG10 rfl rfl rfl h) ?_
  refine pj_X_of (fun r h => pj_R_to (G10, 82, [(0, .ref 21), (1, .ref 87)], [.ref 21, .int (Int32.ofInt 0), .ref 92], 0, 0) 82 3 (fun _ => rfl) h) ?_
  refine pj_X_of (fun r h => pj_T_gr iG10 rfl rfl rfl h) ?_
  refine pj_X_of (fun r h => pj_R_to (G10, 88, [(0, .ref 21), (1, .ref 87)], [.int ((Int8.ofInt 6).toInt32), .int (Int32.ofInt 0), .ref 26, .int (Int32.ofInt 0), .ref 92], 0, 0) 88 3 (fun _ => rfl) h) ?_
  refine pj_X_of (fun r h => pj_T_cp iG10 rfl rfl rfl rfl (by omega) (by omega) (by show _ = ((6 : Nat) : Int); omega) (Nat.le_of_ble_eq_true rfl) h) ?_
  show pj_X _ _ (pj_wc G10 92 26 6) 91 [(0, .ref 21), (1, .ref 87)] [] _
  obtain ⟨G11, hG11⟩ : ∃ H, H = pj_wc G10 92 26 6 := ⟨_, rfl⟩
  have iG11 : pj_Inv G11 := by rw [hG11]; exact pj_Inv_wc iG10 rfl rfl (fun q hq => by cases hq; exact ⟨rfl, by decide⟩) rfl
  have kG11 : pj_kpt kc_68_21_87x G0 G11 := by rw [hG11]; exact pj_kpt_c kG10 rfl
  rw [← hG11]
  rw [pj_nm_e]
  refine pj_X_of (fun r h => pj_R_to (G11, 93, [(0, .ref 21), (1, .ref 87)], [.ref 87, .ref 21], 0, 0) 93 3 (fun _ => rfl) h) ?_
  refine pj_X_of (fun r h => pj_T_gi iG11 rfl rfl h) ?_
  show pj_X _ _ G11 96 [(0, .ref 21), (1, .ref 87)] [.int (pj_fi G11 87 7), .ref 21] _
  obtain ⟨y12, hy12⟩ : ∃ z : Int32, z = pj_fi G11 87 7 := ⟨_, rfl⟩
  rw [← hy12]
  rw [pj_nm_e]
  have ey12 : (pj_fi G11 87 7).toInt = y12.toInt := by rw [hy12]
  refine pj_X_of (fun r h => pj_T_pf iG11 rfl rfl rfl h) ?_
  show pj_X _ _ (pj_wv G11 21 7 (.int y12)) 99 [(0, .ref 21), (1, .ref 87)] [] _
  obtain ⟨G13, hG13⟩ : ∃ H, H = pj_wv G11 21 7 (.int y12) := ⟨_, rfl⟩
  have iG13 : pj_Inv G13 := by rw [hG13]; exact pj_Inv_wi iG11 (ci := 8) rfl (fun q hq => by cases hq)
  have kG13 : pj_kpt kc_68_21_87x G0 G13 := by rw [hG13]; exact pj_kpt_v kG11 rfl
  rw [← hG13]
  rw [pj_nm_e]
  refine pj_X_of (fun r h => pj_R_to (G13, 101, [(0, .ref 21), (1, .ref 87)], [.ref 87, .ref 21], 0, 0) 101 3 (fun _ => rfl) h) ?_
  refine pj_X_of (fun r h => pj_T_gi iG13 rfl rfl h) ?_
  show pj_X _ _ G13 104 [(0, .ref 21), (1, .ref 87)] [.int (pj_fi G13 87 8), .ref 21] _
  obtain ⟨y14, hy14⟩ : ∃ z : Int32, z = pj_fi G13 87 8 := ⟨_, rfl⟩
  rw [← hy14]
  rw [pj_nm_e]
  have ey14 : (pj_fi G13 87 8).toInt = y14.toInt := by rw [hy14]
  refine pj_X_of (fun r h => pj_T_pf iG13 rfl rfl rfl h) ?_
  show pj_X _ _ (pj_wv G13 21 8 (.int y14)) 107 [(0, .ref 21), (1, .ref 87)] [] _
  obtain ⟨G15, hG15⟩ : ∃ H, H = pj_wv G13 21 8 (.int y14) := ⟨_, rfl⟩
  have iG15 : pj_Inv G15 := by rw [hG15]; exact pj_Inv_wi iG13 (ci := 8) rfl (fun q hq => by cases hq)
  have kG15 : pj_kpt kc_68_21_87x G0 G15 := by rw [hG15]; exact pj_kpt_v kG13 rfl
  rw [← hG15]
  rw [pj_nm_e]
  have q16 : (pj_fi G15 21 0).toInt = y3.toInt := by rw [show pj_fi G15 21 0 = y3 from by rw [hG15, pj_fi_wv_ne _ _ _ _ _ _ (by decide)]; exact (by rw [hG13, pj_fi_wv_ne _ _ _ _ _ _ (by decide)]; exact (by rw [hG11, pj_fi_wc]; exact (by rw [hG10, pj_fi_wv_ne _ _ _ _ _ _ (by decide)]; exact (by rw [hG9, pj_fi_wc]; exact (by rw [hG8, pj_fi_wc]; exact (by rw [hG7, pj_fi_wc]; exact (by rw [hG6, pj_fi_wc]; exact (by rw [hG5]; exact pj_fi_wi hI.1 (ci := 8) rfl _))))))))]
  have q17 : (pj_fi G15 21 5).toInt = y4.toInt := by rw [show pj_fi G15 21 5 = y4 from by rw [hG15, pj_fi_wv_ne _ _ _ _ _ _ (by decide)]; exact (by rw [hG13, pj_fi_wv_ne _ _ _ _ _ _ (by decide)]; exact (by rw [hG11, pj_fi_wc]; exact (by rw [hG10]; exact pj_fi_wi iG9.1 (ci := 8) rfl _)))]
  have q18 : (pj_fi G15 87 0).toInt = y3.toInt := by rw [show pj_fi G15 87 0 = y3 from by rw [hG15, pj_fi_wv_ne _ _ _ _ _ _ (by decide)]; exact (by rw [hG13, pj_fi_wv_ne _ _ _ _ _ _ (by decide)]; exact (by rw [hG11, pj_fi_wc]; exact (by rw [hG10, pj_fi_wv_ne _ _ _ _ _ _ (by decide)]; exact (by rw [hG9, pj_fi_wc]; exact (by rw [hG8, pj_fi_wc]; exact (by rw [hG7, pj_fi_wc]; exact (by rw [hG6, pj_fi_wc]; exact (by rw [hG5, pj_fi_wv_ne _ _ _ _ _ _ (by decide)]; exact hy3.symm))))))))]
  have q19 : (pj_fi G15 87 5).toInt = y4.toInt := by rw [show pj_fi G15 87 5 = y4 from by rw [hG15, pj_fi_wv_ne _ _ _ _ _ _ (by decide)]; exact (by rw [hG13, pj_fi_wv_ne _ _ _ _ _ _ (by decide)]; exact (by rw [hG11, pj_fi_wc]; exact (by rw [hG10, pj_fi_wv_ne _ _ _ _ _ _ (by decide)]; exact (by rw [hG9, pj_fi_wc]; exact (by rw [hG8, pj_fi_wc]; exact (by rw [hG7, pj_fi_wc]; exact (by rw [hG6, pj_fi_wc]; exact (by rw [hG5, pj_fi_wv_ne _ _ _ _ _ _ (by decide)]; exact hy4.symm))))))))]
  exact pj_X_rt rfl rfl ⟨rfl, iG15, kG15, (fun H hH => by subst hH; exact (by omega)), rfl⟩
theorem fr_68_21_87x (G0 : pj_G) (hI : pj_Inv G0) : pj_Inv (F_68_21_87x G0) ∧ pj_kpt kc_68_21_87x G0 (F_68_21_87x G0) ∧ ((pj_fi (F_68_21_87x G0) 21 0).toInt = (pj_fi G0 87 0).toInt ∧ (pj_fi (F_68_21_87x G0) 21 5).toInt = (pj_fi G0 87 5).toInt) := by
  obtain ⟨v, G', -, -, i, j, x, e⟩ := ct_68_21_87x G0 hI 
  rw [← e]
  exact ⟨i, j, x _ rfl⟩
def kc_68_21_93x : pj_KT := ([(21, 0), (21, 5), (21, 7), (21, 8)], [21, 22, 23, 24, 25, 26], [22, 23, 24, 25, 26])
noncomputable def F_68_21_93x (G0 : pj_G) : pj_G := pj_nm (pj_fi G0 93 0) (fun y3 => pj_nm (pj_wv G0 21 0 (.int y3)) (fun G5 => pj_nm (pj_wc G5 94 22 6) (fun G6 => pj_nm (pj_wc G6 95 23 6) (fun G7 => pj_nm (pj_wc G7 96 24 6) (fun G8 => pj_nm (pj_wc G8 97 25 6) (fun G9 => pj_nm (pj_fi G0 93 5) (fun y4 => pj_nm (pj_wv G9 21 5 (.int y4)) (fun G10 => pj_nm (pj_wc G10 98 26 6) (fun G11 => pj_nm (pj_fi G11 93 7) (fun y12 => pj_nm (pj_wv G11 21 7 (.int y12)) (fun G13 => pj_nm (pj_fi G13 93 8) (fun y14 => pj_nm (pj_wv G13 21 8 (.int y14)) (fun G15 => G15)))))))))))))
theorem F_68_21_93x_e (G0 : pj_G) : F_68_21_93x G0 = pj_nm (pj_fi G0 93 0) (fun y3 => pj_nm (pj_wv G0 21 0 (.int y3)) (fun G5 => pj_nm (pj_wc G5 94 22 6) (fun G6 => pj_nm (pj_wc G6 95 23 6) (fun G7 => pj_nm (pj_wc G7 96 24 6) (fun G8 => pj_nm (pj_wc G8 97 25 6) (fun G9 => pj_nm (pj_fi G0 93 5) (fun y4 => pj_nm (pj_wv G9 21 5 (.int y4)) (fun G10 => pj_nm (pj_wc G10 98 26 6) (fun G11 => pj_nm (pj_fi G11 93 7) (fun y12 => pj_nm (pj_wv G11 21 7 (.int y12)) (fun G13 => pj_nm (pj_fi G13 93 8) (fun y14 => pj_nm (pj_wv G13 21 8 (.int y14)) (fun G15 => G15))))))))))))) := rfl
theorem ct_68_21_93x (G0 : pj_G) (hI : pj_Inv G0) : pj_Y 1 68 [.ref 21, .ref 93] G0 (fun v' G' => v' = none ∧ pj_Inv G' ∧ pj_kpt kc_68_21_93x G0 G' ∧ (∀ H, G0 = H → ((pj_fi G' 21 0).toInt = (pj_fi H 93 0).toInt ∧ (pj_fi G' 21 5).toInt = (pj_fi H 93 5).toInt)) ∧ (G' = F_68_21_93x G0)) := by
  have c0_ : ((Int8.ofInt 6).toInt32).toInt = 6 := by decide
  have c1_ : (Int32.ofInt 0).toInt = 0 := by decide
  refine pj_Y_X (M := pj_m68) rfl rfl (Nat.le_of_ble_eq_true rfl) ?_
  have hK : pj_kpt kc_68_21_93x G0 G0 := pj_kpt_r _ _
  show pj_X _ _ G0 0 [(0, .ref 21), (1, .ref 93)] [] _
  rw [F_68_21_93x_e]
  obtain ⟨y1, hy1⟩ : ∃ z : Int32, z = pj_fi G0 21 0 := ⟨_, rfl⟩
  have ey1 : (pj_fi G0 21 0).toInt = y1.toInt := by rw [hy1]
  have ry1 : (0 : Int) ≤ y1.toInt ∧ y1.toInt ≤ 6 := by rw [hy1]; exact hI.2.1 21 0 (0, 6) rfl
  obtain ⟨y2, hy2⟩ : ∃ z : Int32, z = pj_fi G0 21 5 := ⟨_, rfl⟩
  have ey2 : (pj_fi G0 21 5).toInt = y2.toInt := by rw [hy2]
  have ry2 : (0 : Int) ≤ y2.toInt ∧ y2.toInt ≤ 6 := by rw [hy2]; exact hI.2.1 21 5 (0, 6) rfl
  obtain ⟨y3, hy3⟩ : ∃ z : Int32, z = pj_fi G0 93 0 := ⟨_, rfl⟩
  have ey3 : (pj_fi G0 93 0).toInt = y3.toInt := by rw [hy3]
  have ry3 : (0 : Int) ≤ y3.toInt ∧ y3.toInt ≤ 6 := by rw [hy3]; exact hI.2.1 93 0 (0, 6) rfl
  obtain ⟨y4, hy4⟩ : ∃ z : Int32, z = pj_fi G0 93 5 := ⟨_, rfl⟩
  have ey4 : (pj_fi G0 93 5).toInt = y4.toInt := by rw [hy4]
  have ry4 : (0 : Int) ≤ y4.toInt ∧ y4.toInt ≤ 6 := by rw [hy4]; exact hI.2.1 93 5 (0, 6) rfl
  refine pj_X_of (fun r h => pj_R_to (G0, 2, [(0, .ref 21), (1, .ref 93)], [.ref 93, .ref 21], 0, 0) 2 3 (fun _ => rfl) h) ?_
  refine pj_X_of (fun r h => pj_T_gi hI rfl rfl h) ?_
  show pj_X _ _ G0 5 [(0, .ref 21), (1, .ref 93)] [.int (pj_fi G0 93 0), .ref 21] _
  rw [← hy3, pj_nm_e]
  refine pj_X_of (fun r h => pj_T_pf hI rfl rfl rfl h) ?_
  show pj_X _ _ (pj_wv G0 21 0 (.int y3)) 8 [(0, .ref 21), (1, .ref 93)] [] _
  obtain ⟨G5, hG5⟩ : ∃ H, H = pj_wv G0 21 0 (.int y3) := ⟨_, rfl⟩
  have iG5 : pj_Inv G5 := by rw [hG5]; exact pj_Inv_wi hI (ci := 8) rfl (fun q hq => by cases hq; exact ⟨by show (0 : Int) ≤ _; omega, by show _ ≤ (6 : Int); omega⟩)
  have kG5 : pj_kpt kc_68_21_93x G0 G5 := by rw [hG5]; exact pj_kpt_v hK rfl
  rw [← hG5]
  rw [pj_nm_e]
  refine pj_X_of (fun r h => pj_R_to (G5, 9, [(0, .ref 21), (1, .ref 93)], [.ref 93], 0, 0) 9 2 (fun _ => rfl) h) ?_
  refine pj_X_of (fun r h => pj_T_gr iG5 rfl rfl rfl h) ?_
  refine pj_X_of (fun r h => pj_R_to (G5, 14, [(0, .ref 21), (1, .ref 93)], [.ref 21, .int (Int32.ofInt 0), .ref 94], 0, 0) 14 3 (fun _ => rfl) h) ?_
  refine pj_X_of (fun r h => pj_T_gr iG5 rfl rfl rfl h) ?_
  refine pj_X_of (fun r h => pj_R_to (G5, 20, [(0, .ref 21), (1, .ref 93)], [.int ((Int8.ofInt 6).toInt32), .int (Int32.ofInt 0), .ref 22, .int (Int32.ofInt 0), .ref 94], 0, 0) 20 3 (fun _ => rfl) h) ?_
  refine pj_X_of (fun r h => pj_T_cp iG5 rfl rfl rfl rfl (by omega) (by omega) (by show _ = ((6 : Nat) : Int); omega) (Nat.le_of_ble_eq_true rfl) h) ?_
  show pj_X _ _ (pj_wc G5 94 22 6) 23 [(0, .ref 21), (1, .ref 93)] [] _
  obtain ⟨G6, hG6⟩ : ∃ H, H = pj_wc G5 94 22 6 := ⟨_, rfl⟩
  have iG6 : pj_Inv G6 := by rw [hG6]; exact pj_Inv_wc iG5 rfl rfl (fun q hq => by cases hq; exact ⟨rfl, by decide⟩) rfl
  have kG6 : pj_kpt kc_68_21_93x G0 G6 := by rw [hG6]; exact pj_kpt_c kG5 rfl
  rw [← hG6]
  rw [pj_nm_e]
  refine pj_X_of (fun r h => pj_R_to (G6, 24, [(0, .ref 21), (1, .ref 93)], [.ref 93], 0, 0) 24 2 (fun _ => rfl) h) ?_
  refine pj_X_of (fun r h => pj_T_gr iG6 rfl rfl rfl h) ?_
  refine pj_X_of (fun r h => pj_R_to (G6, 29, [(0, .ref 21), (1, .ref 93)], [.ref 21, .int (Int32.ofInt 0), .ref 95], 0, 0) 29 3 (fun _ => rfl) h) ?_
  refine pj_X_of (fun r h => pj_T_gr iG6 rfl rfl rfl h) ?_
  refine pj_X_of (fun r h => pj_R_to (G6, 35, [(0, .ref 21), (1, .ref 93)], [.int ((Int8.ofInt 6).toInt32), .int (Int32.ofInt 0), .ref 23, .int (Int32.ofInt 0), .ref 95], 0, 0) 35 3 (fun _ => rfl) h) ?_
  refine pj_X_of (fun r h => pj_T_cp iG6 rfl rfl rfl rfl (by omega) (by omega) (by show _ = ((6 : Nat) : Int); omega) (Nat.le_of_ble_eq_true rfl) h) ?_
  show pj_X _ _ (pj_wc G6 95 23 6) 38 [(0, .ref 21), (1, .ref 93)] [] _
  obtain ⟨G7, hG7⟩ : ∃ H, H = pj_wc G6 95 23 6 := ⟨_, rfl⟩
  have iG7 : pj_Inv G7 := by rw [hG7]; exact pj_Inv_wc iG6 rfl rfl (fun q hq => by cases hq) rfl
  have kG7 : pj_kpt kc_68_21_93x G0 G7 := by rw [hG7]; exact pj_kpt_c kG6 rfl
  rw [← hG7]
  rw [pj_nm_e]
  refine pj_X_of (fun r h => pj_R_to (G7, 39, [(0, .ref 21), (1, .ref 93)], [.ref 93], 0, 0) 39 2 (fun _ => rfl) h) ?_
  refine pj_X_of (fun r h => pj_T_gr iG7 rfl rfl rfl h) ?_
  refine pj_X_of (fun r h => pj_R_to (G7, 44, [(0, .ref 21), (1, .ref 93)], [.ref 21, .int (Int32.ofInt 0), .ref 96], 0, 0) 44 3 (fun _ => rfl) h) ?_
  refine pj_X_of (fun r h => pj_T_gr iG7 rfl rfl rfl h) ?_
  refine pj_X_of (fun r h => pj_R_to (G7, 50, [(0, .ref 21), (1, .ref 93)], [.int ((Int8.ofInt 6).toInt32), .int (Int32.ofInt 0), .ref 24, .int (Int32.ofInt 0), .ref 96], 0, 0) 50 3 (fun _ => rfl) h) ?_
  refine pj_X_of (fun r h => pj_T_cp iG7 rfl rfl rfl rfl (by omega) (by omega) (by show _ = ((6 : Nat) : Int); omega) (Nat.le_of_ble_eq_true rfl) h) ?_
  show pj_X _ _ (pj_wc G7 96 24 6) 53 [(0, .ref 21), (1, .ref 93)] [] _
  obtain ⟨G8, hG8⟩ : ∃ H, H = pj_wc G7 96 24 6 := ⟨_, rfl⟩
  have iG8 : pj_Inv G8 := by rw [hG8]; exact pj_Inv_wc iG7 rfl rfl (fun q hq => by cases hq) rfl
  have kG8 : pj_kpt kc_68_21_93x G0 G8 := by rw [hG8]; exact pj_kpt_c kG7 rfl
  rw [← hG8]
  rw [pj_nm_e]
  refine pj_X_of (fun r h => pj_R_to (G8, 54, [(0, .ref 21), (1, .ref 93)], [.ref 93], 0, 0) 54 2 (fun _ => rfl) h) ?_
  refine pj_X_of (fun r h => pj_T_gr iG8 rfl rfl rfl h) ?_
  refine pj_X_of (fun r h => pj_R_to (G8, 59, [(0, .ref 21), (1, .ref 93)], [.ref 21, .int (Int32.ofInt 0), .ref 97], 0, 0) 59 3 (fun _ => rfl) h) ?_
  refine pj_X_of (fun r h => pj_T_gr iG8 rfl rfl rfl h) ?_
  refine pj_X_of (fun r h => pj_R_to (G8, 65, [(0, .ref 21), (1, .ref 93)], [.int ((Int8.ofInt 6).toInt32), .int (Int32.ofInt 0), .ref 25, .int (Int32.ofInt 0), .ref 97], 0, 0) 65 3 (fun _ => rfl) h) ?_
  refine pj_X_of (fun r h => pj_T_cp iG8 rfl rfl rfl rfl (by omega) (by omega) (by show _ = ((6 : Nat) : Int); omega) (Nat.le_of_ble_eq_true rfl) h) ?_
  show pj_X _ _ (pj_wc G8 97 25 6) 68 [(0, .ref 21), (1, .ref 93)] [] _
  obtain ⟨G9, hG9⟩ : ∃ H, H = pj_wc G8 97 25 6 := ⟨_, rfl⟩
  have iG9 : pj_Inv G9 := by rw [hG9]; exact pj_Inv_wc iG8 rfl rfl (fun q hq => by cases hq) rfl
  have kG9 : pj_kpt kc_68_21_93x G0 G9 := by rw [hG9]; exact pj_kpt_c kG8 rfl
  rw [← hG9]
  rw [pj_nm_e]
  refine pj_X_of (fun r h => pj_R_to (G9, 70, [(0, .ref 21), (1, .ref 93)], [.ref 93, .ref 21], 0, 0) 70 3 (fun _ => rfl) h) ?_
  refine pj_X_of (fun r h => pj_T_gi iG9 rfl rfl h) ?_
  show pj_X _ _ G9 73 [(0, .ref 21), (1, .ref 93)] [.int (pj_fi G9 93 5), .ref 21] _
  rw [← hy4, pj_nm_e]
  rw [show pj_fi G9 93 5 = y4 from by rw [hG9, pj_fi_wc]; exact (by rw [hG8, pj_fi_wc]; exact (by rw [hG7, pj_fi_wc]; exact (by rw [hG6, pj_fi_wc]; exact (by rw [hG5, pj_fi_wv_ne _ _ _ _ _ _ (by decide)]; exact hy4.symm))))]
  refine pj_X_of (fun r h => pj_T_pf iG9 rfl rfl rfl h) ?_
  show pj_X _ _ (pj_wv G9 21 5 (.int y4)) 76 [(0, .ref 21), (1, .ref 93)] [] _
  obtain ⟨G10, hG10⟩ : ∃ H, H = pj_wv G9 21 5 (.int y4) := ⟨_, rfl⟩
  have iG10 : pj_Inv G10 := by rw [hG10]; exact pj_Inv_wi iG9 (ci := 8) rfl (fun q hq => by cases hq; exact ⟨by show (0 : Int) ≤ _; omega, by show _ ≤ (6 : Int); omega⟩)
  have kG10 : pj_kpt kc_68_21_93x G0 G10 := by rw [hG10]; exact pj_kpt_v kG9 rfl
  rw [← hG10]
  rw [pj_nm_e]
  refine pj_X_of (fun r h => pj_R_to (G10, 77, [(0, .ref 21), (1, .ref 93)], [.ref 93], 0, 0) 77 2 (fun _ => rfl) h) ?_
  refine pj_X_of (fun r h => pj_T_gr iG10 rfl rfl rfl h) ?_
  refine pj_X_of (fun r h => pj_R_to (G10, 82, [(0, .ref 21), (1, .ref 93)], [.ref 21, .int (Int32.ofInt 0), .ref 98], 0, 0) 82 3 (fun _ => rfl) h) ?_
  refine pj_X_of (fun r h => pj_T_gr iG10 rfl rfl rfl h) ?_
  refine pj_X_of (fun r h => pj_R_to (G10, 88, [(0, .ref 21), (1, .ref 93)], [.int ((Int8.ofInt 6).toInt32), .int (Int32.ofInt 0), .ref 26, .int (Int32.ofInt 0), .ref 98], 0, 0) 88 3 (fun _ => rfl) h) ?_
  refine pj_X_of (fun r h => pj_T_cp iG10 rfl rfl rfl rfl (by omega) (by omega) (by show _ = ((6 : Nat) : Int); omega) (Nat.le_of_ble_eq_true rfl) h) ?_
  show pj_X _ _ (pj_wc G10 98 26 6) 91 [(0, .ref 21), (1, .ref 93)] [] _
  obtain ⟨G11, hG11⟩ : ∃ H, H = pj_wc G10 98 26 6 := ⟨_, rfl⟩
  have iG11 : pj_Inv G11 := by rw [hG11]; exact pj_Inv_wc iG10 rfl rfl (fun q hq => by cases hq; exact ⟨rfl, by decide⟩) rfl
  have kG11 : pj_kpt kc_68_21_93x G0 G11 := by rw [hG11]; exact pj_kpt_c kG10 rfl
  rw [← hG11]
  rw [pj_nm_e]
  refine pj_X_of (fun r h => pj_R_to (G11, 93, [(0, .ref 21), (1, .ref 93)], [.ref 93, .ref 21], 0, 0) 93 3 (fun _ => rfl) h) ?_
  refine pj_X_of (fun r h => pj_T_gi iG11 rfl rfl h) ?_
  show pj_X _ _ G11 96 [(0, .ref 21), (1, .ref 93)] [.int (pj_fi G11 93 7), .ref 21] _
  obtain ⟨y12, hy12⟩ : ∃ z : Int32, z = pj_fi G11 93 7 := ⟨_, rfl⟩
  rw [← hy12]
  rw [pj_nm_e]
  have ey12 : (pj_fi G11 93 7).toInt = y12.toInt := by rw [hy12]
  refine pj_X_of (fun r h => pj_T_pf iG11 rfl rfl rfl h) ?_
  show pj_X _ _ (pj_wv G11 21 7 (.int y12)) 99 [(0, .ref 21), (1, .ref 93)] [] _
  obtain ⟨G13, hG13⟩ : ∃ H, H = pj_wv G11 21 7 (.int y12) := ⟨_, rfl⟩
  have iG13 : pj_Inv G13 := by rw [hG13]; exact pj_Inv_wi iG11 (ci := 8) rfl (fun q hq => by cases hq)
  have kG13 : pj_kpt kc_68_21_93x G0 G13 := by rw [hG13]; exact pj_kpt_v kG11 rfl
  rw [← hG13]
  rw [pj_nm_e]
  refine pj_X_of (fun r h => pj_R_to (G13, 101, [(0, .ref 21), (1, .ref 93)], [.ref 93, .ref 21], 0, 0) 101 3 (fun _ => rfl) h) ?_
  refine pj_X_of (fun r h => pj_T_gi iG13 rfl rfl h) ?_
  show pj_X _ _ G13 104 [(0, .ref 21), (1, .ref 93)] [.int (pj_fi G13 93 8), .ref 21] _
  obtain ⟨y14, hy14⟩ : ∃ z : Int32, z = pj_fi G13 93 8 := ⟨_, rfl⟩
  rw [← hy14]
  rw [pj_nm_e]
  have ey14 : (pj_fi G13 93 8).toInt = y14.toInt := by rw [hy14]
  refine pj_X_of (fun r h => pj_T_pf iG13 rfl rfl rfl h) ?_
  show pj_X _ _ (pj_wv G13 21 8 (.int y14)) 107 [(0, .ref 21), (1, .ref 93)] [] _
  obtain ⟨G15, hG15⟩ : ∃ H, H = pj_wv G13 21 8 (.int y14) := ⟨_, rfl⟩
  have iG15 : pj_Inv G15 := by rw [hG15]; exact pj_Inv_wi iG13 (ci := 8) rfl (fun q hq => by cases hq)
  have kG15 : pj_kpt kc_68_21_93x G0 G15 := by rw [hG15]; exact pj_kpt_v kG13 rfl
  rw [← hG15]
  rw [pj_nm_e]
  have q16 : (pj_fi G15 21 0).toInt = y3.toInt := by rw [show pj_fi G15 21 0 = y3 from by rw [hG15, pj_fi_wv_ne _ _ _ _ _ _ (by decide)]; exact (by rw [hG13, pj_fi_wv_ne _ _ _ _ _ _ (by decide)]; exact (by rw [hG11, pj_fi_wc]; exact (by rw [hG10, pj_fi_wv_ne _ _ _ _ _ _ (by decide)]; exact (by rw [hG9, pj_fi_wc]; exact (by rw [hG8, pj_fi_wc]; exact (by rw [hG7, pj_fi_wc]; exact (by rw [hG6, pj_fi_wc]; exact (by rw [hG5]; exact pj_fi_wi hI.1 (ci := 8) rfl _))))))))]
  have q17 : (pj_fi G15 21 5).toInt = y4.toInt := by rw [show pj_fi G15 21 5 = y4 from by rw [hG15, pj_fi_wv_ne _ _ _ _ _ _ (by decide)]; exact (by rw [hG13, pj_fi_wv_ne _ _ _ _ _ _ (by decide)]; exact (by rw [hG11, pj_fi_wc]; exact (by rw [hG10]; exact pj_fi_wi iG9.1 (ci := 8) rfl _)))]
  have q18 : (pj_fi G15 93 0).toInt = y3.toInt := by rw [show pj_fi G15 93 0 = y3 from by rw [hG15, pj_fi_wv_ne _ _ _ _ _ _ (by decide)]; exact (by rw [hG13, pj_fi_wv_ne _ _ _ _ _ _ (by decide)]; exact (by rw [hG11, pj_fi_wc]; exact (by rw [hG10, pj_fi_wv_ne _ _ _ _ _ _ (by decide)]; exact (by rw [hG9, pj_fi_wc]; exact (by rw [hG8, pj_fi_wc]; exact (by rw [hG7, pj_fi_wc]; exact (by rw [hG6, pj_fi_wc]; exact (by rw [hG5, pj_fi_wv_ne _ _ _ _ _ _ (by decide)]; exact hy3.symm))))))))]
  have q19 : (pj_fi G15 93 5).toInt = y4.toInt := by rw [show pj_fi G15 93 5 = y4 from by rw [hG15, pj_fi_wv_ne _ _ _ _ _ _ (by decide)]; exact (by rw [hG13, pj_fi_wv_ne _ _ _ _ _ _ (by decide)]; exact (by rw [hG11, pj_fi_wc]; exact (by rw [hG10, pj_fi_wv_ne _ _ _ _ _ _ (by decide)]; exact (by rw [hG9, pj_fi_wc]; exact (by rw [hG8, pj_fi_wc]; exact (by rw [hG7, pj_fi_wc]; exact (by rw [hG6, pj_fi_wc]; exact (by rw [hG5, pj_fi_wv_ne _ _ _ _ _ _ (by decide)]; exact hy4.symm))))))))]
  exact pj_X_rt rfl rfl ⟨rfl, iG15, kG15, (fun H hH => by subst hH; exact (by omega)), rfl⟩
theorem fr_68_21_93x (G0 : pj_G) (hI : pj_Inv G0) : pj_Inv (F_68_21_93x G0) ∧ pj_kpt kc_68_21_93x G0 (F_68_21_93x G0) ∧ ((pj_fi (F_68_21_93x G0) 21 0).toInt = (pj_fi G0 93 0).toInt ∧ (pj_fi (F_68_21_93x G0) 21 5).toInt = (pj_fi G0 93 5).toInt) := by
  obtain ⟨v, G', -, -, i, j, x, e⟩ := ct_68_21_93x G0 hI 
  rw [← e]
  exact ⟨i, j, x _ rfl⟩
def kc_68_21_99x : pj_KT := ([(21, 0), (21, 5), (21, 7), (21, 8)], [21, 22, 23, 24, 25, 26], [22, 23, 24, 25, 26])
noncomputable def F_68_21_99x (G0 : pj_G) : pj_G := pj_nm (pj_fi G0 99 0) (fun y3 => pj_nm (pj_wv G0 21 0 (.int y3)) (fun G5 => pj_nm (pj_wc G5 100 22 6) (fun G6 => pj_nm (pj_wc G6 101 23 6) (fun G7 => pj_nm (pj_wc G7 102 24 6) (fun G8 => pj_nm (pj_wc G8 103 25 6) (fun G9 => pj_nm (pj_fi G0 99 5) (fun y4 => pj_nm (pj_wv G9 21 5 (.int y4)) (fun G10 => pj_nm (pj_wc G10 104 26 6) (fun G11 => pj_nm (pj_fi G11 99 7) (fun y12 => pj_nm (pj_wv G11 21 7 (.int y12)) (fun G13 => pj_nm (pj_fi G13 99 8) (fun y14 => pj_nm (pj_wv G13 21 8 (.int y14)) (fun G15 => G15)))))))))))))
theorem F_68_21_99x_e (G0 : pj_G) : F_68_21_99x G0 = pj_nm (pj_fi G0 99 0) (fun y3 => pj_nm (pj_wv G0 21 0 (.int y3)) (fun G5 => pj_nm (pj_wc G5 100 22 6) (fun G6 => pj_nm (pj_wc G6 101 23 6) (fun G7 => pj_nm (pj_wc G7 102 24 6) (fun G8 => pj_nm (pj_wc G8 103 25 6) (fun G9 => pj_nm (pj_fi G0 99 5) (fun y4 => pj_nm (pj_wv G9 21 5 (.int y4)) (fun G10 => pj_nm (pj_wc G10 104 26 6) (fun G11 => pj_nm (pj_fi G11 99 7) (fun y12 => pj_nm (pj_wv G11 21 7 (.int y12)) (fun G13 => pj_nm (pj_fi G13 99 8) (fun y14 => pj_nm (pj_wv G13 21 8 (.int y14)) (fun G15 => G15))))))))))))) := rfl
theorem ct_68_21_99x (G0 : pj_G) (hI : pj_Inv G0) : pj_Y 1 68 [.ref 21, .ref 99] G0 (fun v' G' => v' = none ∧ pj_Inv G' ∧ pj_kpt kc_68_21_99x G0 G' ∧ (∀ H, G0 = H → ((pj_fi G' 21 0).toInt = (pj_fi H 99 0).toInt ∧ (pj_fi G' 21 5).toInt = (pj_fi H 99 5).toInt)) ∧ (G' = F_68_21_99x G0)) := by
  have c0_ : ((Int8.ofInt 6).toInt32).toInt = 6 := by decide
  have c1_ : (Int32.ofInt 0).toInt = 0 := by decide
  refine pj_Y_X (M := pj_m68) rfl rfl (Nat.le_of_ble_eq_true rfl) ?_
  have hK : pj_kpt kc_68_21_99x G0 G0 := pj_kpt_r _ _
  show pj_X _ _ G0 0 [(0, .ref 21), (1, .ref 99)] [] _
  rw [F_68_21_99x_e]
  obtain ⟨y1, hy1⟩ : ∃ z : Int32, z = pj_fi G0 21 0 := ⟨_, rfl⟩
  have ey1 : (pj_fi G0 21 0).toInt = y1.toInt := by rw [hy1]
  have ry1 : (0 : Int) ≤ y1.toInt ∧ y1.toInt ≤ 6 := by rw [hy1]; exact hI.2.1 21 0 (0, 6) rfl
  obtain ⟨y2, hy2⟩ : ∃ z : Int32, z = pj_fi G0 21 5 := ⟨_, rfl⟩
  have ey2 : (pj_fi G0 21 5).toInt = y2.toInt := by rw [hy2]
  have ry2 : (0 : Int) ≤ y2.toInt ∧ y2.toInt ≤ 6 := by rw [hy2]; exact hI.2.1 21 5 (0, 6) rfl
  obtain ⟨y3, hy3⟩ : ∃ z : Int32, z = pj_fi G0 99 0 := ⟨_, rfl⟩
  have ey3 : (pj_fi G0 99 0).toInt = y3.toInt := by rw [hy3]
  have ry3 : (0 : Int) ≤ y3.toInt ∧ y3.toInt ≤ 6 := by rw [hy3]; exact hI.2.1 99 0 (0, 6) rfl
  obtain ⟨y4, hy4⟩ : ∃ z : Int32, z = pj_fi G0 99 5 := ⟨_, rfl⟩
  have ey4 : (pj_fi G0 99 5).toInt = y4.toInt := by rw [hy4]
  have ry4 : (0 : Int) ≤ y4.toInt ∧ y4.toInt ≤ 6 := by rw [hy4]; exact hI.2.1 99 5 (0, 6) rfl
  refine pj_X_of (fun r h => pj_R_to (G0, 2, [(0, .ref 21), (1, .ref 99)], [.ref 99, .ref 21], 0, 0) 2 3 (fun _ => rfl) h) ?_
  refine pj_X_of (fun r h => pj_T_gi hI rfl rfl h) ?_
  show pj_X _ _ G0 5 [(0, .ref 21), (1, .ref 99)] [.int (pj_fi G0 99 0), .ref 21] _
  rw [← hy3, pj_nm_e]
  refine pj_X_of (fun r h => pj_T_pf hI rfl rfl rfl h) ?_
  show pj_X _ _ (pj_wv G0 21 0 (.int y3)) 8 [(0, .ref 21), (1, .ref 99)] [] _
  obtain ⟨G5, hG5⟩ : ∃ H, H = pj_wv G0 21 0 (.int y3) := ⟨_, rfl⟩
  have iG5 : pj_Inv G5 := by rw [hG5]; exact pj_Inv_wi hI (ci := 8) rfl (fun q hq => by cases hq; exact ⟨by show (0 : Int) ≤ _; omega, by show _ ≤ (6 : Int); omega⟩)
  have kG5 : pj_kpt kc_68_21_99x G0 G5 := by rw [hG5]; exact pj_kpt_v hK rfl
  rw [← hG5]
  rw [pj_nm_e]
  refine pj_X_of (fun r h => pj_R_to (G5, 9, [(0, .ref 21), (1, .ref 99)], [.ref 99], 0, 0) 9 2 (fun _ => rfl) h) ?_
  refine pj_X_of (fun r h => pj_T_gr iG5 rfl rfl rfl h) ?_
  refine pj_X_of (fun r h => pj_R_to (G5, 14, [(0, .ref 21), (1, .ref 99)], [.ref 21, .int (Int32.ofInt 0), .ref 100], 0, 0) 14 3 (fun _ => rfl) h) ?_
  refine pj_X_of (fun r h => pj_T_gr iG5 rfl rfl rfl h) ?_
  refine pj_X_of (fun r h => pj_R_to (G5, 20, [(0, .ref 21), (1, .ref 99)], [.int ((Int8.ofInt 6).toInt32), .int (Int32.ofInt 0), .ref 22, .int (Int32.ofInt 0), .ref 100], 0, 0) 20 3 (fun _ => rfl) h) ?_
  refine pj_X_of (fun r h => pj_T_cp iG5 rfl rfl rfl rfl (by omega) (by omega) (by show _ = ((6 : Nat) : Int); omega) (Nat.le_of_ble_eq_true rfl) h) ?_
  show pj_X _ _ (pj_wc G5 100 22 6) 23 [(0, .ref 21), (1, .ref 99)] [] _
  obtain ⟨G6, hG6⟩ : ∃ H, H = pj_wc G5 100 22 6 := ⟨_, rfl⟩
  have iG6 : pj_Inv G6 := by rw [hG6]; exact pj_Inv_wc iG5 rfl rfl (fun q hq => by cases hq; exact ⟨rfl, by decide⟩) rfl
  have kG6 : pj_kpt kc_68_21_99x G0 G6 := by rw [hG6]; exact pj_kpt_c kG5 rfl
  rw [← hG6]
  rw [pj_nm_e]
  refine pj_X_of (fun r h => pj_R_to (G6, 24, [(0, .ref 21), (1, .ref 99)], [.ref 99], 0, 0) 24 2 (fun _ => rfl) h) ?_
  refine pj_X_of (fun r h => pj_T_gr iG6 rfl rfl rfl h) ?_
  refine pj_X_of (fun r h => pj_R_to (G6, 29, [(0, .ref 21), (1, .ref 99)], [.ref 21, .int (Int32.ofInt 0), .ref 101], 0, 0) 29 3 (fun _ => rfl) h) ?_
  refine pj_X_of (fun r h => pj_T_gr iG6 rfl rfl rfl h) ?_
  refine pj_X_of (fun r h => pj_R_to (G6, 35, [(0, .ref 21), (1, .ref 99)], [.int ((Int8.ofInt 6).toInt32), .int (Int32.ofInt 0), .ref 23, .int (Int32.ofInt 0), .ref 101], 0, 0) 35 3 (fun _ => rfl) h) ?_
  refine pj_X_of (fun r h => pj_T_cp iG6 rfl rfl rfl rfl (by omega) (by omega) (by show _ = ((6 : Nat) : Int); omega) (Nat.le_of_ble_eq_true rfl) h) ?_
  show pj_X _ _ (pj_wc G6 101 23 6) 38 [(0, .ref 21), (1, .ref 99)] [] _
  obtain ⟨G7, hG7⟩ : ∃ H, H = pj_wc G6 101 23 6 := ⟨_, rfl⟩
  have iG7 : pj_Inv G7 := by rw [hG7]; exact pj_Inv_wc iG6 rfl rfl (fun q hq => by cases hq) rfl
  have kG7 : pj_kpt kc_68_21_99x G0 G7 := by rw [hG7]; exact pj_kpt_c kG6 rfl
  rw [← hG7]
  rw [pj_nm_e]
  refine pj_X_of (fun r h => pj_R_to (G7, 39, [(0, .ref 21), (1, .ref 99)], [.ref 99], 0, 0) 39 2 (fun _ => rfl) h) ?_
  refine pj_X_of (fun r h => pj_T_gr iG7 rfl rfl rfl h) ?_
  refine pj_X_of (fun r h => pj_R_to (G7, 44, [(0, .ref 21), (1, .ref 99)], [.ref 21, .int (Int32.ofInt 0), .ref 102], 0, 0) 44 3 (fun _ => rfl) h) ?_
  refine pj_X_of (fun r h => pj_T_gr iG7 rfl rfl rfl h) ?_
  refine pj_X_of (fun r h => pj_R_to (G7, 50, [(0, .ref 21), (1, .ref 99)], [.int ((Int8.ofInt 6).toInt32), .int (Int32.ofInt 0), .ref 24, .int (Int32.ofInt 0), .ref 102], 0, 0) 50 3 (fun _ => rfl) h) ?_
  refine pj_X_of (fun r h => pj_T_cp iG7 rfl rfl rfl rfl (by omega) (by omega) (by show _ = ((6 : Nat) : Int); omega) (Nat.le_of_ble_eq_true rfl) h) ?_
  show pj_X _ _ (pj_wc G7 102 24 6) 53 [(0, .ref 21), (1, .ref 99)] [] _
  obtain ⟨G8, hG8⟩ : ∃ H, H = pj_wc G7 102 24 6 := ⟨_, rfl⟩
  have iG8 : pj_Inv G8 := by rw [hG8]; exact pj_Inv_wc iG7 rfl rfl (fun q hq => by cases hq) rfl
  have kG8 : pj_kpt kc_68_21_99x G0 G8 := by rw [hG8]; exact pj_kpt_c kG7 rfl
  rw [← hG8]
  rw [pj_nm_e]
  refine pj_X_of (fun r h => pj_R_to (G8, 54, [(0, .ref 21), (1, .ref 99)], [.ref 99], 0, 0) 54 2 (fun _ => rfl) h) ?_
  refine pj_X_of (fun r h => pj_T_gr iG8 rfl rfl rfl h) ?_
  refine pj_X_of (fun r h => pj_R_to (G8, 59, [(0, .ref 21), (1, .ref 99)], [.ref 21, .int (Int32.ofInt 0), .ref 103], 0, 0) 59 3 (fun _ => rfl) h) ?_
  refine pj_X_of (fun r h => pj_T_gr iG8 rfl rfl rfl h) ?_
  refine pj_X_of (fun r h => pj_R_to (G8, 65, [(0, .ref 21), (1, .ref 99)], [.int ((Int8.ofInt 6).toInt32), .int (Int32.ofInt 0), .ref 25, .int (Int32.ofInt 0), .ref 103], 0, 0) 65 3 (fun _ => rfl) h) ?_
  refine pj_X_of (fun r h => pj_T_cp iG8 rfl rfl rfl rfl (by omega) (by omega) (by show _ = ((6 : Nat) : Int); omega) (Nat.le_of_ble_eq_true rfl) h) ?_
  show pj_X _ _ (pj_wc G8 103 25 6) 68 [(0, .ref 21), (1, .ref 99)] [] _
  obtain ⟨G9, hG9⟩ : ∃ H, H = pj_wc G8 103 25 6 := ⟨_, rfl⟩
  have iG9 : pj_Inv G9 := by rw [hG9]; exact pj_Inv_wc iG8 rfl rfl (fun q hq => by cases hq) rfl
  have kG9 : pj_kpt kc_68_21_99x G0 G9 := by rw [hG9]; exact pj_kpt_c kG8 rfl
  rw [← hG9]
  rw [pj_nm_e]
  refine pj_X_of (fun r h => pj_R_to (G9, 70, [(0, .ref 21), (1, .ref 99)], [.ref 99, .ref 21], 0, 0) 70 3 (fun _ => rfl) h) ?_
  refine pj_X_of (fun r h => pj_T_gi iG9 rfl rfl h) ?_
  show pj_X _ _ G9 73 [(0, .ref 21), (1, .ref 99)] [.int (pj_fi G9 99 5), .ref 21] _
  rw [← hy4, pj_nm_e]
  rw [show pj_fi G9 99 5 = y4 from by rw [hG9, pj_fi_wc]; exact (by rw [hG8, pj_fi_wc]; exact (by rw [hG7, pj_fi_wc]; exact (by rw [hG6, pj_fi_wc]; exact (by rw [hG5, pj_fi_wv_ne _ _ _ _ _ _ (by decide)]; exact hy4.symm))))]
  refine pj_X_of (fun r h => pj_T_pf iG9 rfl rfl rfl h) ?_
  show pj_X _ _ (pj_wv G9 21 5 (.int y4)) 76 [(0, .ref 21), (1, .ref 99)] [] _
  obtain ⟨G10, hG10⟩ : ∃ H, H = pj_wv G9 21 5 (.int y4) := ⟨_, rfl⟩
  have iG10 : pj_Inv G10 := by rw [hG10]; exact pj_Inv_wi iG9 (ci := 8) rfl (fun q hq => by cases hq; exact ⟨by show (0 : Int) ≤ _; omega, by show _ ≤ (6 : Int); omega⟩)
  have kG10 : pj_kpt kc_68_21_99x G0 G10 := by rw [hG10]; exact pj_kpt_v kG9 rfl
  rw [← hG10]
  rw [pj_nm_e]
  refine pj_X_of (fun r h => pj_R_to (G10, 77, [(0, .ref 21), (1, .ref 99)], [.ref 99], 0, 0) 77 2 (fun _ => rfl) h) ?_
  refine pj_X_of (fun r h => pj_T_gr iG10 rfl rfl rfl h) ?_
  refine pj_X_of (fun r h => pj_R_to (G10, 82, [(0, .ref 21), (1, .ref 99)], [.ref 21, .int (Int32.ofInt 0), .ref 104], 0, 0) 82 3 (fun _ => rfl) h) ?_
  refine pj_X_of (fun r h => pj_T_gr iG10 rfl rfl rfl h) ?_
  refine pj_X_of (fun r h => pj_R_to (G10, 88, [(0, .ref 21), (1, .ref 99)], [.int ((Int8.ofInt 6).toInt32), .int (Int32.ofInt 0), .ref 26, .int (Int32.ofInt 0), .ref 104], 0, 0) 88 3 (fun _ => rfl) h) ?_
  refine pj_X_of (fun r h => pj_T_cp iG10 rfl rfl rfl rfl (by omega) (by omega) (by show _ = ((6 : Nat) : Int); omega) (Nat.le_of_ble_eq_true rfl) h) ?_
  show pj_X _ _ (pj_wc G10 104 26 6) 91 [(0, .ref 21), (1, .ref 99)] [] _
  obtain ⟨G11, hG11⟩ : ∃ H, H = pj_wc G10 104 26 6 := ⟨_, rfl⟩
  have iG11 : pj_Inv G11 := by rw [hG11]; exact pj_Inv_wc iG10 rfl rfl (fun q hq => by cases hq; exact ⟨rfl, by decide⟩) rfl
  have kG11 : pj_kpt kc_68_21_99x G0 G11 := by rw [hG11]; exact pj_kpt_c kG10 rfl
  rw [← hG11]
  rw [pj_nm_e]
  refine pj_X_of (fun r h => pj_R_to (G11, 93, [(0, .ref 21), (1, .ref 99)], [.ref 99, .ref 21], 0, 0) 93 3 (fun _ => rfl) h) ?_
  refine pj_X_of (fun r h => pj_T_gi iG11 rfl rfl h) ?_
  show pj_X _ _ G11 96 [(0, .ref 21), (1, .ref 99)] [.int (pj_fi G11 99 7), .ref 21] _
  obtain ⟨y12, hy12⟩ : ∃ z : Int32, z = pj_fi G11 99 7 := ⟨_, rfl⟩
  rw [← hy12]
  rw [pj_nm_e]
  have ey12 : (pj_fi G11 99 7).toInt = y12.toInt := by rw [hy12]
  refine pj_X_of (fun r h => pj_T_pf iG11 rfl rfl rfl h) ?_
  show pj_X _ _ (pj_wv G11 21 7 (.int y12)) 99 [(0, .ref 21), (1, .ref 99)] [] _
  obtain ⟨G13, hG13⟩ : ∃ H, H = pj_wv G11 21 7 (.int y12) := ⟨_, rfl⟩
  have iG13 : pj_Inv G13 := by rw [hG13]; exact pj_Inv_wi iG11 (ci := 8) rfl (fun q hq => by cases hq)
  have kG13 : pj_kpt kc_68_21_99x G0 G13 := by rw [hG13]; exact pj_kpt_v kG11 rfl
  rw [← hG13]
  rw [pj_nm_e]
  refine pj_X_of (fun r h => pj_R_to (G13, 101, [(0, .ref 21), (1, .ref 99)], [.ref 99, .ref 21], 0, 0) 101 3 (fun _ => rfl) h) ?_
  refine pj_X_of (fun r h => pj_T_gi iG13 rfl rfl h) ?_
  show pj_X _ _ G13 104 [(0, .ref 21), (1, .ref 99)] [.int (pj_fi G13 99 8), .ref 21] _
  obtain ⟨y14, hy14⟩ : ∃ z : Int32, z = pj_fi G13 99 8 := ⟨_, rfl⟩
  rw [← hy14]
  rw [pj_nm_e]
  have ey14 : (pj_fi G13 99 8).toInt = y14.toInt := by rw [hy14]
  refine pj_X_of (fun r h => pj_T_pf iG13 rfl rfl rfl h) ?_
  show pj_X _ _ (pj_wv G13 21 8 (.int y14)) 107 [(0, .ref 21), (1, .ref 99)] [] _
  obtain ⟨G15, hG15⟩ : ∃ H, H = pj_wv G13 21 8 (.int y14) := ⟨_, rfl⟩
  have iG15 : pj_Inv G15 := by rw [hG15]; exact pj_Inv_wi iG13 (ci := 8) rfl (fun q hq => by cases hq)
  have kG15 : pj_kpt kc_68_21_99x G0 G15 := by rw [hG15]; exact pj_kpt_v kG13 rfl
  rw [← hG15]
  rw [pj_nm_e]
  have q16 : (pj_fi G15 21 0).toInt = y3.toInt := by rw [show pj_fi G15 21 0 = y3 from by rw [hG15, pj_fi_wv_ne _ _ _ _ _ _ (by decide)]; exact (by rw [hG13, pj_fi_wv_ne _ _ _ _ _ _ (by decide)]; exact (by rw [hG11, pj_fi_wc]; exact (by rw [hG10, pj_fi_wv_ne _ _ _ _ _ _ (by decide)]; exact (by rw [hG9, pj_fi_wc]; exact (by rw [hG8, pj_fi_wc]; exact (by rw [hG7, pj_fi_wc]; exact (by rw [hG6, pj_fi_wc]; exact (by rw [hG5]; exact pj_fi_wi hI.1 (ci := 8) rfl _))))))))]
  have q17 : (pj_fi G15 21 5).toInt = y4.toInt := by rw [show pj_fi G15 21 5 = y4 from by rw [hG15, pj_fi_wv_ne _ _ _ _ _ _ (by decide)]; exact (by rw [hG13, pj_fi_wv_ne _ _ _ _ _ _ (by decide)]; exact (by rw [hG11, pj_fi_wc]; exact (by rw [hG10]; exact pj_fi_wi iG9.1 (ci := 8) rfl _)))]
  have q18 : (pj_fi G15 99 0).toInt = y3.toInt := by rw [show pj_fi G15 99 0 = y3 from by rw [hG15, pj_fi_wv_ne _ _ _ _ _ _ (by decide)]; exact (by rw [hG13, pj_fi_wv_ne _ _ _ _ _ _ (by decide)]; exact (by rw [hG11, pj_fi_wc]; exact (by rw [hG10, pj_fi_wv_ne _ _ _ _ _ _ (by decide)]; exact (by rw [hG9, pj_fi_wc]; exact (by rw [hG8, pj_fi_wc]; exact (by rw [hG7, pj_fi_wc]; exact (by rw [hG6, pj_fi_wc]; exact (by rw [hG5, pj_fi_wv_ne _ _ _ _ _ _ (by decide)]; exact hy3.symm))))))))]
  have q19 : (pj_fi G15 99 5).toInt = y4.toInt := by rw [show pj_fi G15 99 5 = y4 from by rw [hG15, pj_fi_wv_ne _ _ _ _ _ _ (by decide)]; exact (by rw [hG13, pj_fi_wv_ne _ _ _ _ _ _ (by decide)]; exact (by rw [hG11, pj_fi_wc]; exact (by rw [hG10, pj_fi_wv_ne _ _ _ _ _ _ (by decide)]; exact (by rw [hG9, pj_fi_wc]; exact (by rw [hG8, pj_fi_wc]; exact (by rw [hG7, pj_fi_wc]; exact (by rw [hG6, pj_fi_wc]; exact (by rw [hG5, pj_fi_wv_ne _ _ _ _ _ _ (by decide)]; exact hy4.symm))))))))]
  exact pj_X_rt rfl rfl ⟨rfl, iG15, kG15, (fun H hH => by subst hH; exact (by omega)), rfl⟩
theorem fr_68_21_99x (G0 : pj_G) (hI : pj_Inv G0) : pj_Inv (F_68_21_99x G0) ∧ pj_kpt kc_68_21_99x G0 (F_68_21_99x G0) ∧ ((pj_fi (F_68_21_99x G0) 21 0).toInt = (pj_fi G0 99 0).toInt ∧ (pj_fi (F_68_21_99x G0) 21 5).toInt = (pj_fi G0 99 5).toInt) := by
  obtain ⟨v, G', -, -, i, j, x, e⟩ := ct_68_21_99x G0 hI 
  rw [← e]
  exact ⟨i, j, x _ rfl⟩
def kc_68_21_105x : pj_KT := ([(21, 0), (21, 5), (21, 7), (21, 8)], [21, 22, 23, 24, 25, 26], [22, 23, 24, 25, 26])
noncomputable def F_68_21_105x (G0 : pj_G) : pj_G := pj_nm (pj_fi G0 105 0) (fun y3 => pj_nm (pj_wv G0 21 0 (.int y3)) (fun G5 => pj_nm (pj_wc G5 106 22 6) (fun G6 => pj_nm (pj_wc G6 107 23 6) (fun G7 => pj_nm (pj_wc G7 108 24 6) (fun G8 => pj_nm (pj_wc G8 109 25 6) (fun G9 => pj_nm (pj_fi G0 105 5) (fun y4 => pj_nm (pj_wv G9 21 5 (.int y4)) (fun G10 => pj_nm (pj_wc G10 110 26 6) (fun G11 => pj_nm (pj_fi G11 105 7) (fun y12 => pj_nm (pj_wv G11 21 7 (.int y12)) (fun G13 => pj_nm (pj_fi G13 105 8) (fun y14 => pj_nm (pj_wv G13 21 8 (.int y14)) (fun G15 => G15)))))))))))))
theorem F_68_21_105x_e (G0 : pj_G) : F_68_21_105x G0 = pj_nm (pj_fi G0 105 0) (fun y3 => pj_nm (pj_wv G0 21 0 (.int y3)) (fun G5 => pj_nm (pj_wc G5 106 22 6) (fun G6 => pj_nm (pj_wc G6 107 23 6) (fun G7 => pj_nm (pj_wc G7 108 24 6) (fun G8 => pj_nm (pj_wc G8 109 25 6) (fun G9 => pj_nm (pj_fi G0 105 5) (fun y4 => pj_nm (pj_wv G9 21 5 (.int y4)) (fun G10 => pj_nm (pj_wc G10 110 26 6) (fun G11 => pj_nm (pj_fi G11 105 7) (fun y12 => pj_nm (pj_wv G11 21 7 (.int y12)) (fun G13 => pj_nm (pj_fi G13 105 8) (fun y14 => pj_nm (pj_wv G13 21 8 (.int y14)) (fun G15 => G15))))))))))))) := rfl
theorem ct_68_21_105x (G0 : pj_G) (hI : pj_Inv G0) : pj_Y 1 68 [.ref 21, .ref 105] G0 (fun v' G' => v' = none ∧ pj_Inv G' ∧ pj_kpt kc_68_21_105x G0 G' ∧ (∀ H, G0 = H → ((pj_fi G' 21 0).toInt = (pj_fi H 105 0).toInt ∧ (pj_fi G' 21 5).toInt = (pj_fi H 105 5).toInt)) ∧ (G' = F_68_21_105x G0)) := by
  have c0_ : ((Int8.ofInt 6).toInt32).toInt = 6 := by decide
  have c1_ : (Int32.ofInt 0).toInt = 0 := by decide
  refine pj_Y_X (M := pj_m68) rfl rfl (Nat.le_of_ble_eq_true rfl) ?_
  have hK : pj_kpt kc_68_21_105x G0 G0 := pj_kpt_r _ _
  show pj_X _ _ G0 0 [(0, .ref 21), (1, .ref 105)] [] _
  rw [F_68_21_105x_e]
  obtain ⟨y1, hy1⟩ : ∃ z : Int32, z = pj_fi G0 21 0 := ⟨_, rfl⟩
  have ey1 : (pj_fi G0 21 0).toInt = y1.toInt := by rw [hy1]
  have ry1 : (0 : Int) ≤ y1.toInt ∧ y1.toInt ≤ 6 := by rw [hy1]; exact hI.2.1 21 0 (0, 6) rfl
  obtain ⟨y2, hy2⟩ : ∃ z : Int32, z = pj_fi G0 21 5 := ⟨_, rfl⟩
  have ey2 : (pj_fi G0 21 5).toInt = y2.toInt := by rw [hy2]
  have ry2 : (0 : Int) ≤ y2.toInt ∧ y2.toInt ≤ 6 := by rw [hy2]; exact hI.2.1 21 5 (0, 6) rfl
  obtain ⟨y3, hy3⟩ : ∃ z : Int32, z = pj_fi G0 105 0 := ⟨_, rfl⟩
  have ey3 : (pj_fi G0 105 0).toInt = y3.toInt := by rw [hy3]
  have ry3 : (0 : Int) ≤ y3.toInt ∧ y3.toInt ≤ 6 := by rw [hy3]; exact hI.2.1 105 0 (0, 6) rfl
  obtain ⟨y4, hy4⟩ : ∃ z : Int32, z = pj_fi G0 105 5 := ⟨_, rfl⟩
  have ey4 : (pj_fi G0 105 5).toInt = y4.toInt := by rw [hy4]
  have ry4 : (0 : Int) ≤ y4.toInt ∧ y4.toInt ≤ 6 := by rw [hy4]; exact hI.2.1 105 5 (0, 6) rfl
  refine pj_X_of (fun r h => pj_R_to (G0, 2, [(0, .ref 21), (1, .ref 105)], [.ref 105, .ref 21], 0, 0) 2 3 (fun _ => rfl) h) ?_
  refine pj_X_of (fun r h => pj_T_gi hI rfl rfl h) ?_
  show pj_X _ _ G0 5 [(0, .ref 21), (1, .ref 105)] [.int (pj_fi G0 105 0), .ref 21] _
  rw [← hy3, pj_nm_e]
  refine pj_X_of (fun r h => pj_T_pf hI rfl rfl rfl h) ?_
  show pj_X _ _ (pj_wv G0 21 0 (.int y3)) 8 [(0, .ref 21), (1, .ref 105)] [] _
  obtain ⟨G5, hG5⟩ : ∃ H, H = pj_wv G0 21 0 (.int y3) := ⟨_, rfl⟩
  have iG5 : pj_Inv G5 := by rw [hG5]; exact pj_Inv_wi hI (ci := 8) rfl (fun q hq => by cases hq; exact ⟨by show (0 : Int) ≤ _; omega, by show _ ≤ (6 : Int); omega⟩)
  have kG5 : pj_kpt kc_68_21_105x G0 G5 := by rw [hG5]; exact pj_kpt_v hK rfl
  rw [← hG5]
  rw [pj_nm_e]
  refine pj_X_of (fun r h => pj_R_to (G5, 9, [(0, .ref 21), (1, .ref 105)], [.ref 105], 0, 0) 9 2 (fun _ => rfl) h) ?_
  refine pj_X_of (fun r h => pj_T_gr iG5 rfl rfl rfl h) ?_
  refine pj_X_of (fun r h => pj_R_to (G5, 14, [(0, .ref 21), (1, .ref 105)], [.ref 21, .int (Int32.ofInt 0), .ref 106], 0, 0) 14 3 (fun _ => rfl) h) ?_
  refine pj_X_of (fun r h => pj_T_gr iG5 rfl rfl rfl h) ?_
  refine pj_X_of (fun r h => pj_R_to (G5, 20, [(0, .ref 21), (1, .ref 105)], [.int ((Int8.ofInt 6).toInt32), .int (Int32.ofInt 0), .ref 22, .int (Int32.ofInt 0), .ref 106], 0, 0) 20 3 (fun _ => rfl) h) ?_
  refine pj_X_of (fun r h => pj_T_cp iG5 rfl rfl rfl rfl (by omega) (by omega) (by show _ = ((6 : Nat) : Int); omega) (Nat.le_of_ble_eq_true rfl) h) ?_
  show pj_X _ _ (pj_wc G5 106 22 6) 23 [(0, .ref 21), (1, .ref 105)] [] _
  obtain ⟨G6, hG6⟩ : ∃ H, H = pj_wc G5 106 22 6 := ⟨_, rfl⟩
  have iG6 : pj_Inv G6 := by rw [hG6]; exact pj_Inv_wc iG5 rfl rfl (fun q hq => by cases hq; exact ⟨rfl, by decide⟩) rfl
  have kG6 : pj_kpt kc_68_21_105x G0 G6 := by rw [hG6]; exact pj_kpt_c kG5 rfl
  rw [← hG6]
  rw [pj_nm_e]
  refine pj_X_of (fun r h => pj_R_to (G6, 24, [(0, .ref 21), (1, .ref 105)], [.ref 105], 0, 0) 24 2 (fun _ => rfl) h) ?_
  refine pj_X_of (fun r h => pj_T_gr iG6 rfl rfl rfl h) ?_
  refine pj_X_of (fun r h => pj_R_to (G6, 29, [(0, .ref 21), (1, .ref 105)], [.ref 21, .int (Int32.ofInt 0), .ref 107], 0, 0) 29 3 (fun _ => rfl) h) ?_
  refine pj_X_of (fun r h => pj_T_gr iG6 rfl rfl rfl h) ?_
  refine pj_X_of (fun r h => pj_R_to (G6, 35, [(0, .ref 21), (1, .ref 105)], [.int ((Int8.ofInt 6).toInt32), .int (Int32.ofInt 0), .ref 23, .int (Int32.ofInt 0), .ref 107], 0, 0) 35 3 (fun _ => rfl) h) ?_
  refine pj_X_of (fun r h => pj_T_cp iG6 rfl rfl rfl rfl (by omega) (by omega) (by show _ = ((6 : Nat) : Int); omega) (Nat.le_of_ble_eq_true rfl) h) ?_
  show pj_X _ _ (pj_wc G6 107 23 6) 38 [(0, .ref 21), (1, .ref 105)] [] _
  obtain ⟨G7, hG7⟩ : ∃ H, H = pj_wc G6 107 23 6 := ⟨_, rfl⟩
  have iG7 : pj_Inv G7 := by rw [hG7]; exact pj_Inv_wc iG6 rfl rfl (fun q hq => by cases hq) rfl
  have kG7 : pj_kpt kc_68_21_105x G0 G7 := by rw [hG7]; exact pj_kpt_c kG6 rfl
  rw [← hG7]
  rw [pj_nm_e]
  refine pj_X_of (fun r h => pj_R_to (G7, 39, [(0, .ref 21), (1, .ref 105)], [.ref 105], 0, 0) 39 2 (fun _ => rfl) h) ?_
  refine pj_X_of (fun r h => pj_T_gr iG7 rfl rfl rfl h) ?_
  refine pj_X_of (fun r h => pj_R_to (G7, 44, [(0, .ref 21), (1, .ref 105)], [.ref 21, .int (Int32.ofInt 0), .ref 108], 0, 0) 44 3 (fun _ => rfl) h) ?_
  refine pj_X_of (fun r h => pj_T_gr iG7 rfl rfl rfl h) ?_
  refine pj_X_of (fun r h => pj_R_to (G7, 50, [(0, .ref 21), (1, .ref 105)], [.int ((Int8.ofInt 6).toInt32), .int (Int32.ofInt 0), .ref 24, .int (Int32.ofInt 0), .ref 108], 0, 0) 50 3 (fun _ => rfl) h) ?_
  refine pj_X_of (fun r h => pj_T_cp iG7 rfl rfl rfl rfl (by omega) (by omega) (by show _ = ((6 : Nat) : Int); omega) (Nat.le_of_ble_eq_true rfl) h) ?_
  show pj_X _ _ (pj_wc G7 108 24 6) 53 [(0, .ref 21), (1, .ref 105)] [] _
  obtain ⟨G8, hG8⟩ : ∃ H, H = pj_wc G7 108 24 6 := ⟨_, rfl⟩
  have iG8 : pj_Inv G8 := by rw [hG8]; exact pj_Inv_wc iG7 rfl rfl (fun q hq => by cases hq) rfl
  have kG8 : pj_kpt kc_68_21_105x G0 G8 := by rw [hG8]; exact pj_kpt_c kG7 rfl
  rw [← hG8]
  rw [pj_nm_e]
  refine pj_X_of (fun r h => pj_R_to (G8, 54, [(0, .ref 21), (1, .ref 105)], [.ref 105], 0, 0) 54 2 (fun _ => rfl) h) ?_
  refine pj_X_of (fun r h => pj_T_gr iG8 rfl rfl rfl h) ?_
  refine pj_X_of (fun r h => pj_R_to (G8, 59, [(0, .ref 21), (1, .ref 105)], [.ref 21, .int (Int32.ofInt 0), .ref 109], 0, 0) 59 3 (fun _ => rfl) h) ?_
  refine pj_X_of (fun r h => pj_T_gr iG8 rfl rfl rfl h) ?_
  refine pj_X_of (fun r h => pj_R_to (G8, 65, [(0, .ref 21), (1, .ref 105)], [.int ((Int8.ofInt 6).toInt32), .int (Int32.ofInt 0), .ref 25, .int (Int32.ofInt 0), .ref 109], 0, 0) 65 3 (fun _ => rfl) h) ?_
  refine pj_X_of (fun r h => pj_T_cp iG8 rfl rfl rfl rfl (by omega) (by omega) (by show _ = ((6 : Nat) : Int); omega) (Nat.le_of_ble_eq_true rfl) h) ?_
  show pj_X _ _ (pj_wc G8 109 25 6) 68 [(0, .ref 21), (1, .ref 105)] [] _
  obtain ⟨G9, hG9⟩ : ∃ H, H = pj_wc G8 109 25 6 := ⟨_, rfl⟩
  have iG9 : pj_Inv G9 := by rw [hG9]; exact pj_Inv_wc iG8 rfl rfl (fun q hq => by cases hq) rfl
  have kG9 : pj_kpt kc_68_21_105x G0 G9 := by rw [hG9]; exact pj_kpt_c kG8 rfl
  rw [← hG9]
  rw [pj_nm_e]
  refine pj_X_of (fun r h => pj_R_to (G9, 70, [(0, .ref 21), (1, .ref 105)], [.ref 105, .ref 21], 0, 0) 70 3 (fun _ => rfl) h) ?_
  refine pj_X_of (fun r h => pj_T_gi iG9 rfl rfl h) ?_
  show pj_X _ _ G9 73 [(0, .ref 21), (1, .ref 105)] [.int (pj_fi G9 105 5), .ref 21] _
  rw [← hy4, pj_nm_e]
  rw [show pj_fi G9 105 5 = y4 from by rw [hG9, pj_fi_wc]; exact (by rw [hG8, pj_fi_wc]; exact (by rw [hG7, pj_fi_wc]; exact (by rw [hG6, pj_fi_wc]; exact (by rw [hG5, pj_fi_wv_ne _ _ _ _ _ _ (by decide)]; exact hy4.symm))))]
  refine pj_X_of (fun r h => pj_T_pf iG9 rfl rfl rfl h) ?_
  show pj_X _ _ (pj_wv G9 21 5 (.int y4)) 76 [(0, .ref 21), (1, .ref 105)] [] _
  obtain ⟨G10, hG10⟩ : ∃ H, H = pj_wv G9 21 5 (.int y4) := ⟨_, rfl⟩
  have iG10 : pj_Inv G10 := by rw [hG10]; exact pj_Inv_wi iG9 (ci := 8) rfl (fun q hq => by cases hq; exact ⟨by show (0 : Int) ≤ _; omega, by show _ ≤ (6 : Int); omega⟩)
  have kG10 : pj_kpt kc_68_21_105x G0 G10 := by rw [hG10]; exact pj_kpt_v kG9 rfl
  rw [← hG10]
  rw [pj_nm_e]
  refine pj_X_of (fun r h => pj_R_to (G10, 77, [(0, .ref 21), (1, .ref 105)], [.ref 105], 0, 0) 77 2 (fun _ => rfl) h) ?_
  refine pj_X_of (fun r h => pj_T_gr iG10 rfl rfl rfl h) ?_
  refine pj_X_of (fun r h => pj_R_to (G10, 82, [(0, .ref 21), (1, .ref 105)], [.ref 21, .int (Int32.ofInt 0), .ref 110], 0, 0) 82 3 (fun _ => rfl) h) ?_
  refine pj_X_of (fun r h => pj_T_gr iG10 rfl rfl rfl h) ?_
  refine pj_X_of (fun r h => pj_R_to (G10, 88, [(0, .ref 21), (1, .ref 105)], [.int ((Int8.ofInt 6).toInt32), .int (Int32.ofInt 0), .ref 26, .int (Int32.ofInt 0), .ref 110], 0, 0) 88 3 (fun _ => rfl) h) ?_
  refine pj_X_of (fun r h => pj_T_cp iG10 rfl rfl rfl rfl (by omega) (by omega) (by show _ = ((6 : Nat) : Int); omega) (Nat.le_of_ble_eq_true rfl) h) ?_
  show pj_X _ _ (pj_wc G10 110 26 6) 91 [(0, .ref 21), (1, .ref 105)] [] _
  obtain ⟨G11, hG11⟩ : ∃ H, H = pj_wc G10 110 26 6 := ⟨_, rfl⟩
  have iG11 : pj_Inv G11 := by rw [hG11]; exact pj_Inv_wc iG10 rfl rfl (fun q hq => by cases hq; exact ⟨rfl, by decide⟩) rfl
  have kG11 : pj_kpt kc_68_21_105x G0 G11 := by rw [hG11]; exact pj_kpt_c kG10 rfl
  rw [← hG11]
  rw [pj_nm_e]
  refine pj_X_of (fun r h => pj_R_to (G11, 93, [(0, .ref 21), (1, .ref 105)], [.ref 105, .ref 21], 0, 0) 93 3 (fun _ => rfl) h) ?_
  refine pj_X_of (fun r h => pj_T_gi iG11 rfl rfl h) ?_
  show pj_X _ _ G11 96 [(0, .ref 21), (1, .ref 105)] [.int (pj_fi G11 105 7), .ref 21] _
  obtain ⟨y12, hy12⟩ : ∃ z : Int32, z = pj_fi G11 105 7 := ⟨_, rfl⟩
  rw [← hy12]
  rw [pj_nm_e]
  have ey12 : (pj_fi G11 105 7).toInt = y12.toInt := by rw [hy12]
  refine pj_X_of (fun r h => pj_T_pf iG11 rfl rfl rfl h) ?_
  show pj_X _ _ (pj_wv G11 21 7 (.int y12)) 99 [(0, .ref 21), (1, .ref 105)] [] _
  obtain ⟨G13, hG13⟩ : ∃ H, H = pj_wv G11 21 7 (.int y12) := ⟨_, rfl⟩
  have iG13 : pj_Inv G13 := by rw [hG13]; exact pj_Inv_wi iG11 (ci := 8) rfl (fun q hq => by cases hq)
  have kG13 : pj_kpt kc_68_21_105x G0 G13 := by rw [hG13]; exact pj_kpt_v kG11 rfl
  rw [← hG13]
  rw [pj_nm_e]
  refine pj_X_of (fun r h => pj_R_to (G13, 101, [(0, .ref 21), (1, .ref 105)], [.ref 105, .ref 21], 0, 0) 101 3 (fun _ => rfl) h) ?_
  refine pj_X_of (fun r h => pj_T_gi iG13 rfl rfl h) ?_
  show pj_X _ _ G13 104 [(0, .ref 21), (1, .ref 105)] [.int (pj_fi G13 105 8), .ref 21] _
  obtain ⟨y14, hy14⟩ : ∃ z : Int32, z = pj_fi G13 105 8 := ⟨_, rfl⟩
  rw [← hy14]
  rw [pj_nm_e]
  have ey14 : (pj_fi G13 105 8).toInt = y14.toInt := by rw [hy14]
  refine pj_X_of (fun r h => pj_T_pf iG13 rfl rfl rfl h) ?_
  show pj_X _ _ (pj_wv G13 21 8 (.int y14)) 107 [(0, .ref 21), (1, .ref 105)] [] _
  obtain ⟨G15, hG15⟩ : ∃ H, H = pj_wv G13 21 8 (.int y14) := ⟨_, rfl⟩
  have iG15 : pj_Inv G15 := by rw [hG15]; exact pj_Inv_wi iG13 (ci := 8) rfl (fun q hq => by cases hq)
  have kG15 : pj_kpt kc_68_21_105x G0 G15 := by rw [hG15]; exact pj_kpt_v kG13 rfl
  rw [← hG15]
  rw [pj_nm_e]
  have q16 : (pj_fi G15 21 0).toInt = y3.toInt := by rw [show pj_fi G15 21 0 = y3 from by rw [hG15, pj_fi_wv_ne _ _ _ _ _ _ (by decide)]; exact (by rw [hG13, pj_fi_wv_ne _ _ _ _ _ _ (by decide)]; exact (by rw [hG11, pj_fi_wc]; exact (by rw [hG10, pj_fi_wv_ne _ _ _ _ _ _ (by decide)]; exact (by rw [hG9, pj_fi_wc]; exact (by rw [hG8, pj_fi_wc]; exact (by rw [hG7, pj_fi_wc]; exact (by rw [hG6, pj_fi_wc]; exact (by rw [hG5]; exact pj_fi_wi hI.1 (ci := 8) rfl _))))))))]
  have q17 : (pj_fi G15 21 5).toInt = y4.toInt := by rw [show pj_fi G15 21 5 = y4 from by rw [hG15, pj_fi_wv_ne _ _ _ _ _ _ (by decide)]; exact (by rw [hG13, pj_fi_wv_ne _ _ _ _ _ _ (by decide)]; exact (by rw [hG11, pj_fi_wc]; exact (by rw [hG10]; exact pj_fi_wi iG9.1 (ci := 8) rfl _)))]
  have q18 : (pj_fi G15 105 0).toInt = y3.toInt := by rw [show pj_fi G15 105 0 = y3 from by rw [hG15, pj_fi_wv_ne _ _ _ _ _ _ (by decide)]; exact (by rw [hG13, pj_fi_wv_ne _ _ _ _ _ _ (by decide)]; exact (by rw [hG11, pj_fi_wc]; exact (by rw [hG10, pj_fi_wv_ne _ _ _ _ _ _ (by decide)]; exact (by rw [hG9, pj_fi_wc]; exact (by rw [hG8, pj_fi_wc]; exact (by rw [hG7, pj_fi_wc]; exact (by rw [hG6, pj_fi_wc]; exact (by rw [hG5, pj_fi_wv_ne _ _ _ _ _ _ (by decide)]; exact hy3.symm))))))))]
  have q19 : (pj_fi G15 105 5).toInt = y4.toInt := by rw [show pj_fi G15 105 5 = y4 from by rw [hG15, pj_fi_wv_ne _ _ _ _ _ _ (by decide)]; exact (by rw [hG13, pj_fi_wv_ne _ _ _ _ _ _ (by decide)]; exact (by rw [hG11, pj_fi_wc]; exact (by rw [hG10, pj_fi_wv_ne _ _ _ _ _ _ (by decide)]; exact (by rw [hG9, pj_fi_wc]; exact (by rw [hG8, pj_fi_wc]; exact (by rw [hG7, pj_fi_wc]; exact (by rw [hG6, pj_fi_wc]; exact (by rw [hG5, pj_fi_wv_ne _ _ _ _ _ _ (by decide)]; exact hy4.symm))))))))]
  exact pj_X_rt rfl rfl ⟨rfl, iG15, kG15, (fun H hH => by subst hH; exact (by omega)), rfl⟩
theorem fr_68_21_105x (G0 : pj_G) (hI : pj_Inv G0) : pj_Inv (F_68_21_105x G0) ∧ pj_kpt kc_68_21_105x G0 (F_68_21_105x G0) ∧ ((pj_fi (F_68_21_105x G0) 21 0).toInt = (pj_fi G0 105 0).toInt ∧ (pj_fi (F_68_21_105x G0) 21 5).toInt = (pj_fi G0 105 5).toInt) := by
  obtain ⟨v, G', -, -, i, j, x, e⟩ := ct_68_21_105x G0 hI 
  rw [← e]
  exact ⟨i, j, x _ rfl⟩
def kc_68_21_111x : pj_KT := ([(21, 0), (21, 5), (21, 7), (21, 8)], [21, 22, 23, 24, 25, 26], [22, 23, 24, 25, 26])
noncomputable def F_68_21_111x (G0 : pj_G) : pj_G := pj_nm (pj_fi G0 111 0) (fun y3 => pj_nm (pj_wv G0 21 0 (.int y3)) (fun G5 => pj_nm (pj_wc G5 112 22 6) (fun G6 => pj_nm (pj_wc G6 113 23 6) (fun G7 => pj_nm (pj_wc G7 114 24 6) (fun G8 => pj_nm (pj_wc G8 115 25 6) (fun G9 => pj_nm (pj_fi G0 111 5) (fun y4 => pj_nm (pj_wv G9 21 5 (.int y4)) (fun G10 => pj_nm (pj_wc G10 116 26 6) (fun G11 => pj_nm (pj_fi G11 111 7) (fun y12 => pj_nm (pj_wv G11 21 7 (.int y12)) (fun G13 => pj_nm (pj_fi G13 111 8) (fun y14 => pj_nm (pj_wv G13 21 8 (.int y14)) (fun G15 => G15)))))))))))))
theorem F_68_21_111x_e (G0 : pj_G) : F_68_21_111x G0 = pj_nm (pj_fi G0 111 0) (fun y3 => pj_nm (pj_wv G0 21 0 (.int y3)) (fun G5 => pj_nm (pj_wc G5 112 22 6) (fun G6 => pj_nm (pj_wc G6 113 23 6) (fun G7 => pj_nm (pj_wc G7 114 24 6) (fun G8 => pj_nm (pj_wc G8 115 25 6) (fun G9 => pj_nm (pj_fi G0 111 5) (fun y4 => pj_nm (pj_wv G9 21 5 (.int y4)) (fun G10 => pj_nm (pj_wc G10 116 26 6) (fun G11 => pj_nm (pj_fi G11 111 7) (fun y12 => pj_nm (pj_wv G11 21 7 (.int y12)) (fun G13 => pj_nm (pj_fi G13 111 8) (fun y14 => pj_nm (pj_wv G13 21 8 (.int y14)) (fun G15 => G15))))))))))))) := rfl
theorem ct_68_21_111x (G0 : pj_G) (hI : pj_Inv G0) : pj_Y 1 68 [.ref 21, .ref 111] G0 (fun v' G' => v' = none ∧ pj_Inv G' ∧ pj_kpt kc_68_21_111x G0 G' ∧ (∀ H, G0 = H → ((pj_fi G' 21 0).toInt = (pj_fi H 111 0).toInt ∧ (pj_fi G' 21 5).toInt = (pj_fi H 111 5).toInt)) ∧ (G' = F_68_21_111x G0)) := by
  have c0_ : ((Int8.ofInt 6).toInt32).toInt = 6 := by decide
  have c1_ : (Int32.ofInt 0).toInt = 0 := by decide
  refine pj_Y_X (M := pj_m68) rfl rfl (Nat.le_of_ble_eq_true rfl) ?_
  have hK : pj_kpt kc_68_21_111x G0 G0 := pj_kpt_r _ _
  show pj_X _ _ G0 0 [(0, .ref 21), (1, .ref 111)] [] _
  rw [F_68_21_111x_e]
  obtain ⟨y1, hy1⟩ : ∃ z : Int32, z = pj_fi G0 21 0 := ⟨_, rfl⟩
  have ey1 : (pj_fi G0 21 0).toInt = y1.toInt := by rw [hy1]
  have ry1 : (0 : Int) ≤ y1.toInt ∧ y1.toInt ≤ 6 := by rw [hy1]; exact hI.2.1 21 0 (0, 6) rfl
  obtain ⟨y2, hy2⟩ : ∃ z : Int32, z = pj_fi G0 21 5 := ⟨_, rfl⟩
  have ey2 : (pj_fi G0 21 5).toInt = y2.toInt := by rw [hy2]
  have ry2 : (0 : Int) ≤ y2.toInt ∧ y2.toInt ≤ 6 := by rw [hy2]; exact hI.2.1 21 5 (0, 6) rfl
  obtain ⟨y3, hy3⟩ : ∃ z : Int32, z = pj_fi G0 111 0 := ⟨_, rfl⟩
  have ey3 : (pj_fi G0 111 0).toInt = y3.toInt := by rw [hy3]
  have ry3 : (0 : Int) ≤ y3.toInt ∧ y3.toInt ≤ 6 := by rw [hy3]; exact hI.2.1 111 0 (0, 6) rfl
  obtain ⟨y4, hy4⟩ : ∃ z : Int32, z = pj_fi G0 111 5 := ⟨_, rfl⟩
  have ey4 : (pj_fi G0 111 5).toInt = y4.toInt := by rw [hy4]
  have ry4 : (0 : Int) ≤ y4.toInt ∧ y4.toInt ≤ 6 := by rw [hy4]; exact hI.2.1 111 5 (0, 6) rfl
  refine pj_X_of (fun r h => pj_R_to (G0, 2, [(0, .ref 21), (1, .ref 111)], [.ref 111, .ref 21], 0, 0) 2 3 (fun _ => rfl) h) ?_
  refine pj_X_of (fun r h => pj_T_gi hI rfl rfl h) ?_
  show pj_X _ _ G0 5 [(0, .ref 21), (1, .ref 111)] [.int (pj_fi G0 111 0), .ref 21] _
  rw [← hy3, pj_nm_e]
  refine pj_X_of (fun r h => pj_T_pf hI rfl rfl rfl h) ?_
  show pj_X _ _ (pj_wv G0 21 0 (.int y3)) 8 [(0, .ref 21), (1, .ref 111)] [] _
  obtain ⟨G5, hG5⟩ : ∃ H, H = pj_wv G0 21 0 (.int y3) := ⟨_, rfl⟩
  have iG5 : pj_Inv G5 := by rw [hG5]; exact pj_Inv_wi hI (ci := 8) rfl (fun q hq => by cases hq; exact ⟨by show (0 : Int) ≤ _; omega, by show _ ≤ (6 : Int); omega⟩)
  have kG5 : pj_kpt kc_68_21_111x G0 G5 := by rw [hG5]; exact pj_kpt_v hK rfl
  rw [← hG5]
  rw [pj_nm_e]
  refine pj_X_of (fun r h => pj_R_to (G5, 9, [(0, .ref 21), (1, .ref 111)], [.ref 111], 0, 0) 9 2 (fun _ => rfl) h) ?_
  refine pj_X_of (fun r h => pj_T_gr iG5 rfl rfl rfl h) ?_
  refine pj_X_of (fun r h => pj_R_to (G5, 14, [(0, .ref 21), (1, .ref 111)], [.ref 21, .int (Int32.ofInt 0), .ref 112], 0, 0) 14 3 (fun _ => rfl) h) ?_
  refine pj_X_of (fun r h => pj_T_gr iG5 rfl rfl rfl h) ?_
  refine pj_X_of (fun r h => pj_R_to (G5, 20, [(0, .ref 21), (1, .ref 111)], [.int ((Int8.ofInt 6).toInt32), .int (Int32.ofInt 0), .ref 22, .int (Int32.ofInt 0), .ref 112], 0, 0) 20 3 (fun _ => rfl) h) ?_
  refine pj_X_of (fun r h => pj_T_cp iG5 rfl rfl rfl rfl (by omega) (by omega) (by show _ = ((6 : Nat) : Int); omega) (Nat.le_of_ble_eq_true rfl) h) ?_
  show pj_X _ _ (pj_wc G5 112 22 6) 23 [(0, .ref 21), (1, .ref 111)] [] _
  obtain ⟨G6, hG6⟩ : ∃ H, H = pj_wc G5 112 22 6 := ⟨_, rfl⟩
  have iG6 : pj_Inv G6 := by rw [hG6]; exact pj_Inv_wc iG5 rfl rfl (fun q hq => by cases hq; exact ⟨rfl, by decide⟩) rfl
  have kG6 : pj_kpt kc_68_21_111x G0 G6 := by rw [hG6]; exact pj_kpt_c kG5 rfl
  rw [← hG6]
  rw [pj_nm_e]
  refine pj_X_of (fun r h => pj_R_to (G6, 24, [(0, .ref 21), (1, .ref 111)], [.ref 111], 0, 0) 24 2 (fun _ => rfl) h) ?_
  refine pj_X_of (fun r h => pj_T_gr iG6 rfl rfl rfl h) ?_
  refine pj_X_of (fun r h => pj_R_to (G6, 29, [(0, .ref 21), (1, .ref 111)], [.ref 21, .int (Int32.ofInt 0), .ref 113], 0, 0) 29 3 (fun _ => rfl) h) ?_
  refine pj_X_of (fun r h => pj_T_gr iG6 rfl rfl rfl h) ?_
  refine pj_X_of (fun r h => pj_R_to (G6, 35, [(0, .ref 21), (1, .ref 111)], [.int ((Int8.ofInt 6).toInt32), .int (Int32.ofInt 0), .ref 23, .int (Int32.ofInt 0), .ref 113], 0, 0) 35 3 (fun _ => rfl) h) ?_
  refine pj_X_of (fun r h => pj_T_cp iG6 rfl rfl rfl rfl (by omega) (by omega) (by show _ = ((6 : Nat) : Int); omega) (Nat.le_of_ble_eq_true rfl) h) ?_
  show pj_X _ _ (pj_wc G6 113 23 6) 38 [(0, .ref 21), (1, .ref 111)] [] _
  obtain ⟨G7, hG7⟩ : ∃ H, H = pj_wc G6 113 23 6 := ⟨_, rfl⟩
  have iG7 : pj_Inv G7 := by rw [hG7]; exact pj_Inv_wc iG6 rfl rfl (fun q hq => by cases hq) rfl
  have kG7 : pj_kpt kc_68_21_111x G0 G7 := by rw [hG7]; exact pj_kpt_c kG6 rfl
  rw [← hG7]
  rw [pj_nm_e]
  refine pj_X_of (fun r h => pj_R_to (G7, 39, [(0, .ref 21), (1, .ref 111)], [.ref 111], 0, 0) 39 2 (fun _ => rfl) h) ?_
  refine pj_X_of (fun r h => pj_T_gr iG7 rfl rfl rfl h) ?_
  refine pj_X_of (fun r h => pj_R_to (G7, 44, [(0, .ref 21), (1, .ref 111)], [.ref 21, .int (Int32.ofInt 0), .ref 114], 0, 0) 44 3 (fun _ => rfl) h) ?_
  refine pj_X_of (fun r h => pj_T_gr iG7 rfl rfl rfl h) ?_
  refine pj_X_of (fun r h => pj_R_to (G7, 50, [(0, .ref 21), (1, .ref 111)], [.int ((Int8.ofInt 6).toInt32), .int (Int32.ofInt 0), .ref 24, .int (Int32.ofInt 0), .ref 114], 0, 0) 50 3 (fun _ => rfl) h) ?_
  refine pj_X_of (fun r h => pj_T_cp iG7 rfl rfl rfl rfl (by omega) (by omega) (by show _ = ((6 : Nat) : Int); omega) (Nat.le_of_ble_eq_true rfl) h) ?_
  show pj_X _ _ (pj_wc G7 114 24 6) 53 [(0, .ref 21), (1, .ref 111)] [] _
  obtain ⟨G8, hG8⟩ : ∃ H, H = pj_wc G7 114 24 6 := ⟨_, rfl⟩
  have iG8 : pj_Inv G8 := by rw [hG8]; exact pj_Inv_wc iG7 rfl rfl (fun q hq => by cases hq) rfl
  have kG8 : pj_kpt kc_68_21_111x G0 G8 := by rw [hG8]; exact pj_kpt_c kG7 rfl
  rw [← hG8]
  rw [pj_nm_e]
  refine pj_X_of (fun r h => pj_R_to (G8, 54, [(0, .ref 21), (1, .ref 111)], [.ref 111], 0, 0) 54 2 (fun _ => rfl) h) ?_
  refine pj_X_of (fun r h => pj_T_gr iG8 rfl rfl rfl h) ?_
  refine pj_X_of (fun r h => pj_R_to (G8, 59, [(0, .ref 21), (1, .ref 111)], [.ref 21, .int (Int32.ofInt 0), .ref 115], 0, 0) 59 3 (fun _ => rfl) h) ?_
  refine pj_X_of (fun r h => pj_T_gr iG8 rfl rfl rfl h) ?_
  refine pj_X_of (fun r h => pj_R_to (G8, 65, [(0, .ref 21), (1, .ref 111)], [.int ((Int8.ofInt 6).toInt32), .int (Int32.ofInt 0), .ref 25, .int (Int32.ofInt 0), .ref 115], 0, 0) 65 3 (fun _ => rfl) h) ?_
  refine pj_X_of (fun r h => pj_T_cp iG8 rfl rfl rfl rfl (by omega) (by omega) (by show _ = ((6 : Nat) : Int); omega) (Nat.le_of_ble_eq_true rfl) h) ?_
  show pj_X _ _ (pj_wc G8 115 25 6) 68 [(0, .ref 21), (1, .ref 111)] [] _
  obtain ⟨G9, hG9⟩ : ∃ H, H = pj_wc G8 115 25 6 := ⟨_, rfl⟩
  have iG9 : pj_Inv G9 := by rw [hG9]; exact pj_Inv_wc iG8 rfl rfl (fun q hq => by cases hq) rfl
  have kG9 : pj_kpt kc_68_21_111x G0 G9 := by rw [hG9]; exact pj_kpt_c kG8 rfl
  rw [← hG9]
  rw [pj_nm_e]
  refine pj_X_of (fun r h => pj_R_to (G9, 70, [(0, .ref 21), (1, .ref 111)], [.ref 111, .ref 21], 0, 0) 70 3 (fun _ => rfl) h) ?_
  refine pj_X_of (fun r h => pj_T_gi iG9 rfl rfl h) ?_
  show pj_X _ _ G9 73 [(0, .ref 21), (1, .ref 111)] [.int (pj_fi G9 111 5), .ref 21] _
  rw [← hy4, pj_nm_e]
  rw [show pj_fi G9 111 5 = y4 from by rw [hG9, pj_fi_wc]; exact (by rw [hG8, pj_fi_wc]; exact (by rw [hG7, pj_fi_wc]; exact (by rw [hG6, pj_fi_wc]; exact (by rw [hG5, pj_fi_wv_ne _ _ _ _ _ _ (by decide)]; exact hy4.symm))))]
  refine pj_X_of (fun r h => pj_T_pf iG9 rfl rfl rfl h) ?_
  show pj_X _ _ (pj_wv G9 21 5 (.int y4)) 76 [(0, .ref 21), (1, .ref 111)] [] _
  obtain ⟨G10, hG10⟩ : ∃ H, H = pj_wv G9 21 5 (.int y4) := ⟨_, rfl⟩
  have iG10 : pj_Inv G10 := by rw [hG10]; exact pj_Inv_wi iG9 (ci := 8) rfl (fun q hq => by cases hq; exact ⟨by show (0 : Int) ≤ _; omega, by show _ ≤ (6 : Int); omega⟩)
  have kG10 : pj_kpt kc_68_21_111x G0 G10 := by rw [hG10]; exact pj_kpt_v kG9 rfl
  rw [← hG10]
  rw [pj_nm_e]
  refine pj_X_of (fun r h => pj_R_to (G10, 77, [(0, .ref 21), (1, .ref 111)], [.ref 111], 0, 0) 77 2 (fun _ => rfl) h) ?_
  refine pj_X_of (fun r h => pj_T_gr iG10 rfl rfl rfl h) ?_
  refine pj_X_of (fun r h => pj_R_to (G10, 82, [(0, .ref 21), (1, .ref 111)], [.ref 21, .int (Int32.ofInt 0), .ref 116], 0, 0) 82 3 (fun _ => rfl) h) ?_
  refine pj_X_of (fun r h => pj_T_gr iG10 rfl rfl rfl h) ?_
  refine pj_X_of (fun r h => pj_R_to (G10, 88, [(0, .ref 21), (1, .ref 111)], [.int ((Int8.ofInt 6).toInt32), .int (Int32.ofInt 0), .ref 26, .int (Int32.ofInt 0), .ref 116], 0, 0) 88 3 (fun _ => rfl) h) ?_
  refine pj_X_of (fun r h => pj_T_cp iG10 rfl rfl rfl rfl (by omega) (by omega) (by show _ = ((6 : Nat) : Int); omega) (Nat.le_of_ble_eq_true rfl) h) ?_
  show pj_X _ _ (pj_wc G10 116 26 6) 91 [(0, .ref 21), (1, .ref 111)] [] _
  obtain ⟨G11, hG11⟩ : ∃ H, H = pj_wc G10 116 26 6 := ⟨_, rfl⟩
  have iG11 : pj_Inv G11 := by rw [hG11]; exact pj_Inv_wc iG10 rfl rfl (fun q hq => by cases hq; exact ⟨rfl, by decide⟩) rfl
  have kG11 : pj_kpt kc_68_21_111x G0 G11 := by rw [hG11]; exact pj_kpt_c kG10 rfl
  rw [← hG11]
  rw [pj_nm_e]
  refine pj_X_of (fun r h => pj_R_to (G11, 93, [(0, .ref 21), (1, .ref 111)], [.ref 111, .ref 21], 0, 0) 93 3 (fun _ => rfl) h) ?_
  refine pj_X_of (fun r h => pj_T_gi iG11 rfl rfl h) ?_
  show pj_X _ _ G11 96 [(0, .ref 21), (1, .ref 111)] [.int (pj_fi G11 111 7), .ref 21] _
  obtain ⟨y12, hy12⟩ : ∃ z : Int32, z = pj_fi G11 111 7 := ⟨_, rfl⟩
  rw [← hy12]
  rw [pj_nm_e]
  have ey12 : (pj_fi G11 111 7).toInt = y12.toInt := by rw [hy12]
  refine pj_X_of (fun r h => pj_T_pf iG11 rfl rfl rfl h) ?_
  show pj_X _ _ (pj_wv G11 21 7 (.int y12)) 99 [(0, .ref 21), (1, .ref 111)] [] _
  obtain ⟨G13, hG13⟩ : ∃ H, H = pj_wv G11 21 7 (.int y12) := ⟨_, rfl⟩
  have iG13 : pj_Inv G13 := by rw [hG13]; exact pj_Inv_wi iG11 (ci := 8) rfl (fun q hq => by cases hq)
  have kG13 : pj_kpt kc_68_21_111x G0 G13 := by rw [hG13]; exact pj_kpt_v kG11 rfl
  rw [← hG13]
  rw [pj_nm_e]
  refine pj_X_of (fun r h => pj_R_to (G13, 101, [(0, .ref 21), (1, .ref 111)], [.ref 111, .ref 21], 0, 0) 101 3 (fun _ => rfl) h) ?_
  refine pj_X_of (fun r h => pj_T_gi iG13 rfl rfl h) ?_
  show pj_X _ _ G13 104 [(0, .ref 21), (1, .ref 111)] [.int (pj_fi G13 111 8), .ref 21] _
  obtain ⟨y14, hy14⟩ : ∃ z : Int32, z = pj_fi G13 111 8 := ⟨_, rfl⟩
  rw [← hy14]
  rw [pj_nm_e]
  have ey14 : (pj_fi G13 111 8).toInt = y14.toInt := by rw [hy14]
  refine pj_X_of (fun r h => pj_T_pf iG13 rfl rfl rfl h) ?_
  show pj_X _ _ (pj_wv G13 21 8 (.int y14)) 107 [(0, .ref 21), (1, .ref 111)] [] _
  obtain ⟨G15, hG15⟩ : ∃ H, H = pj_wv G13 21 8 (.int y14) := ⟨_, rfl⟩
  have iG15 : pj_Inv G15 := by rw [hG15]; exact pj_Inv_wi iG13 (ci := 8) rfl (fun q hq => by cases hq)
  have kG15 : pj_kpt kc_68_21_111x G0 G15 := by rw [hG15]; exact pj_kpt_v kG13 rfl
  rw [← hG15]
  rw [pj_nm_e]
  have q16 : (pj_fi G15 21 0).toInt = y3.toInt := by rw [show pj_fi G15 21 0 = y3 from by rw [hG15, pj_fi_wv_ne _ _ _ _ _ _ (by decide)]; exact (by rw [hG13, pj_fi_wv_ne _ _ _ _ _ _ (by decide)]; exact (by rw [hG11, pj_fi_wc]; exact (by rw [hG10, pj_fi_wv_ne _ _ _ _ _ _ (by decide)]; exact (by rw [hG9, pj_fi_wc]; exact (by rw [hG8, pj_fi_wc]; exact (by rw [hG7, pj_fi_wc]; exact (by rw [hG6, pj_fi_wc]; exact (by rw [hG5]; exact pj_fi_wi hI.1 (ci := 8) rfl _))))))))]
  have q17 : (pj_fi G15 21 5).toInt = y4.toInt := by rw [show pj_fi G15 21 5 = y4 from by rw [hG15, pj_fi_wv_ne _ _ _ _ _ _ (by decide)]; exact (by rw [hG13, pj_fi_wv_ne _ _ _ _ _ _ (by decide)]; exact (by rw [hG11, pj_fi_wc]; exact (by rw [hG10]; exact pj_fi_wi iG9.1 (ci := 8) rfl _)))]
  have q18 : (pj_fi G15 111 0).toInt = y3.toInt := by rw [show pj_fi G15 111 0 = y3 from by rw [hG15, pj_fi_wv_ne _ _ _ _ _ _ (by decide)]; exact (by rw [hG13, pj_fi_wv_ne _ _ _ _ _ _ (by decide)]; exact (by rw [hG11, pj_fi_wc]; exact (by rw [hG10, pj_fi_wv_ne _ _ _ _ _ _ (by decide)]; exact (by rw [hG9, pj_fi_wc]; exact (by rw [hG8, pj_fi_wc]; exact (by rw [hG7, pj_fi_wc]; exact (by rw [hG6, pj_fi_wc]; exact (by rw [hG5, pj_fi_wv_ne _ _ _ _ _ _ (by decide)]; exact hy3.symm))))))))]
  have q19 : (pj_fi G15 111 5).toInt = y4.toInt := by rw [show pj_fi G15 111 5 = y4 from by rw [hG15, pj_fi_wv_ne _ _ _ _ _ _ (by decide)]; exact (by rw [hG13, pj_fi_wv_ne _ _ _ _ _ _ (by decide)]; exact (by rw [hG11, pj_fi_wc]; exact (by rw [hG10, pj_fi_wv_ne _ _ _ _ _ _ (by decide)]; exact (by rw [hG9, pj_fi_wc]; exact (by rw [hG8, pj_fi_wc]; exact (by rw [hG7, pj_fi_wc]; exact (by rw [hG6, pj_fi_wc]; exact (by rw [hG5, pj_fi_wv_ne _ _ _ _ _ _ (by decide)]; exact hy4.symm))))))))]
  exact pj_X_rt rfl rfl ⟨rfl, iG15, kG15, (fun H hH => by subst hH; exact (by omega)), rfl⟩
theorem fr_68_21_111x (G0 : pj_G) (hI : pj_Inv G0) : pj_Inv (F_68_21_111x G0) ∧ pj_kpt kc_68_21_111x G0 (F_68_21_111x G0) ∧ ((pj_fi (F_68_21_111x G0) 21 0).toInt = (pj_fi G0 111 0).toInt ∧ (pj_fi (F_68_21_111x G0) 21 5).toInt = (pj_fi G0 111 5).toInt) := by
  obtain ⟨v, G', -, -, i, j, x, e⟩ := ct_68_21_111x G0 hI 
  rw [← e]
  exact ⟨i, j, x _ rfl⟩
def kc_68_21_117x : pj_KT := ([(21, 0), (21, 5), (21, 7), (21, 8)], [21, 22, 23, 24, 25, 26], [22, 23, 24, 25, 26])
noncomputable def F_68_21_117x (G0 : pj_G) : pj_G := pj_nm (pj_fi G0 117 0) (fun y3 => pj_nm (pj_wv G0 21 0 (.int y3)) (fun G5 => pj_nm (pj_wc G5 118 22 6) (fun G6 => pj_nm (pj_wc G6 119 23 6) (fun G7 => pj_nm (pj_wc G7 120 24 6) (fun G8 => pj_nm (pj_wc G8 121 25 6) (fun G9 => pj_nm (pj_fi G0 117 5) (fun y4 => pj_nm (pj_wv G9 21 5 (.int y4)) (fun G10 => pj_nm (pj_wc G10 122 26 6) (fun G11 => pj_nm (pj_fi G11 117 7) (fun y12 => pj_nm (pj_wv G11 21 7 (.int y12)) (fun G13 => pj_nm (pj_fi G13 117 8) (fun y14 => pj_nm (pj_wv G13 21 8 (.int y14)) (fun G15 => G15)))))))))))))
theorem F_68_21_117x_e (G0 : pj_G) : F_68_21_117x G0 = pj_nm (pj_fi G0 117 0) (fun y3 => pj_nm (pj_wv G0 21 0 (.int y3)) (fun G5 => pj_nm (pj_wc G5 118 22 6) (fun G6 => pj_nm (pj_wc G6 119 23 6) (fun G7 => pj_nm (pj_wc G7 120 24 6) (fun G8 => pj_nm (pj_wc G8 121 25 6) (fun G9 => pj_nm (pj_fi G0 117 5) (fun y4 => pj_nm (pj_wv G9 21 5 (.int y4)) (fun G10 => pj_nm (pj_wc G10 122 26 6) (fun G11 => pj_nm (pj_fi G11 117 7) (fun y12 => pj_nm (pj_wv G11 21 7 (.int y12)) (fun G13 => pj_nm (pj_fi G13 117 8) (fun y14 => pj_nm (pj_wv G13 21 8 (.int y14)) (fun G15 => G15))))))))))))) := rfl
theorem ct_68_21_117x (G0 : pj_G) (hI : pj_Inv G0) : pj_Y 1 68 [.ref 21, .ref 117] G0 (fun v' G' => v' = none ∧ pj_Inv G' ∧ pj_kpt kc_68_21_117x G0 G' ∧ (∀ H, G0 = H → ((pj_fi G' 21 0).toInt = (pj_fi H 117 0).toInt ∧ (pj_fi G' 21 5).toInt = (pj_fi H 117 5).toInt)) ∧ (G' = F_68_21_117x G0)) := by
  have c0_ : ((Int8.ofInt 6).toInt32).toInt = 6 := by decide
  have c1_ : (Int32.ofInt 0).toInt = 0 := by decide
  refine pj_Y_X (M := pj_m68) rfl rfl (Nat.le_of_ble_eq_true rfl) ?_
  have hK : pj_kpt kc_68_21_117x G0 G0 := pj_kpt_r _ _
  show pj_X _ _ G0 0 [(0, .ref 21), (1, .ref 117)] [] _
  rw [F_68_21_117x_e]
  obtain ⟨y1, hy1⟩ : ∃ z : Int32, z = pj_fi G0 21 0 := ⟨_, rfl⟩
  have ey1 : (pj_fi G0 21 0).toInt = y1.toInt := by rw [hy1]
  have ry1 : (0 : Int) ≤ y1.toInt ∧ y1.toInt ≤ 6 := by rw [hy1]; exact hI.2.1 21 0 (0, 6) rfl
  obtain ⟨y2, hy2⟩ : ∃ z : Int32, z = pj_fi G0 21 5 := ⟨_, rfl⟩
  have ey2 : (pj_fi G0 21 5).toInt = y2.toInt := by rw [hy2]
  have ry2 : (0 : Int) ≤ y2.toInt ∧ y2.toInt ≤ 6 := by rw [hy2]; exact hI.2.1 21 5 (0, 6) rfl
  obtain ⟨y3, hy3⟩ : ∃ z : Int32, z = pj_fi G0 117 0 := ⟨_, rfl⟩
  have ey3 : (pj_fi G0 117 0).toInt = y3.toInt := by rw [hy3]
  have ry3 : (0 : Int) ≤ y3.toInt ∧ y3.toInt ≤ 6 := by rw [hy3]; exact hI.2.1 117 0 (0, 6) rfl
  obtain ⟨y4, hy4⟩ : ∃ z : Int32, z = pj_fi G0 117 5 := ⟨_, rfl⟩
  have ey4 : (pj_fi G0 117 5).toInt = y4.toInt := by rw [hy4]
  have ry4 : (0 : Int) ≤ y4.toInt ∧ y4.toInt ≤ 6 := by rw [hy4]; exact hI.2.1 117 5 (0, 6) rfl
  refine pj_X_of (fun r h => pj_R_to (G0, 2, [(0, .ref 21), (1, .ref 117)], [.ref 117, .ref 21], 0, 0) 2 3 (fun _ => rfl) h) ?_
  refine pj_X_of (fun r h => pj_T_gi hI rfl rfl h) ?_
  show pj_X _ _ G0 5 [(0, .ref 21), (1, .ref 117)] [.int (pj_fi G0 117 0), .ref 21] _
  rw [← hy3, pj_nm_e]
  refine pj_X_of (fun r h => pj_T_pf hI rfl rfl rfl h) ?_
  show pj_X _ _ (pj_wv G0 21 0 (.int y3)) 8 [(0, .ref 21), (1, .ref 117)] [] _
  obtain ⟨G5, hG5⟩ : ∃ H, H = pj_wv G0 21 0 (.int y3) := ⟨_, rfl⟩
  have iG5 : pj_Inv G5 := by rw [hG5]; exact pj_Inv_wi hI (ci := 8) rfl (fun q hq => by cases hq; exact ⟨by show (0 : Int) ≤ _; omega, by show _ ≤ (6 : Int); omega⟩)
  have kG5 : pj_kpt kc_68_21_117x G0 G5 := by rw [hG5]; exact pj_kpt_v hK rfl
  rw [← hG5]
  rw [pj_nm_e]
  refine pj_X_of (fun r h => pj_R_to (G5, 9, [(0, .ref 21), (1, .ref 117)], [.ref 117], 0, 0) 9 2 (fun _ => rfl) h) ?_
  refine pj_X_of (fun r h => pj_T_gr iG5 rfl rfl rfl h) ?_
  refine pj_X_of (fun r h => pj_R_to (G5, 14, [(0, .ref 21), (1, .ref 117)], [.ref 21, .int (Int32.ofInt 0), .ref 118], 0, 0) 14 3 (fun _ => rfl) h) ?_
  refine pj_X_of (fun r h => pj_T_gr iG5 rfl rfl rfl h) ?_
  refine pj_X_of (fun r h => pj_R_to (G5, 20, [(0, .ref 21), (1, .ref 117)], [.int ((Int8.ofInt 6).toInt32), .int (Int32.ofInt 0), .ref 22, .int (Int32.ofInt 0), .ref 118], 0, 0) 20 3 (fun _ => rfl) h) ?_
  refine pj_X_of (fun r h => pj_T_cp iG5 rfl rfl rfl rfl (by omega) (by omega) (by show _ = ((6 : Nat) : Int); omega) (Nat.le_of_ble_eq_true rfl) h) ?_
  show pj_X _ _ (pj_wc G5 118 22 6) 23 [(0, .ref 21), (1, .ref 117)] [] _
  obtain ⟨G6, hG6⟩ : ∃ H, H = pj_wc G5 118 22 6 := ⟨_, rfl⟩
  have iG6 : pj_Inv G6 := by rw [hG6]; exact pj_Inv_wc iG5 rfl rfl (fun q hq => by cases hq; exact ⟨rfl, by decide⟩) rfl
  have kG6 : pj_kpt kc_68_21_117x G0 G6 := by rw [hG6]; exact pj_kpt_c kG5 rfl
  rw [← hG6]
  rw [pj_nm_e]
  refine pj_X_of (fun r h => pj_R_to (G6, 24, [(0, .ref 21), (1, .ref 117)], [.ref 117], 0, 0) 24 2 (fun _ => rfl) h) ?_
  refine pj_X_of (fun r h => pj_T_gr iG6 rfl rfl rfl h) ?_
  refine pj_X_of (fun r h => pj_R_to (G6, 29, [(0, .ref 21), (1, .ref 117)], [.ref 21, .int (Int32.ofInt 0), .ref 119], 0, 0) 29 3 (fun _ => rfl) h) ?_
  refine pj_X_of (fun r h => pj_T_gr iG6 rfl rfl rfl h) ?_
  refine pj_X_of (fun r h => pj_R_to (G6, 35, [(0, .ref 21), (1, .ref 117)], [.int ((Int8.ofInt 6).toInt32), .int (Int32.ofInt 0), .ref 23, .int (Int32.ofInt 0), .ref 119], 0, 0) 35 3 (fun _ => rfl) h) ?_
  refine pj_X_of (fun r h => pj_T_cp iG6 rfl rfl rfl rfl (by omega) (by omega) (by show _ = ((6 : Nat) : Int); omega) (Nat.le_of_ble_eq_true rfl) h) ?_
  show pj_X _ _ (pj_wc G6 119 23 6) 38 [(0, .ref 21), (1, .ref 117)] [] _
  obtain ⟨G7, hG7⟩ : ∃ H, H = pj_wc G6 119 23 6 := ⟨_, rfl⟩
  have iG7 : pj_Inv G7 := by rw [hG7]; exact pj_Inv_wc iG6 rfl rfl (fun q hq => by cases hq) rfl
  have kG7 : pj_kpt kc_68_21_117x G0 G7 := by rw [hG7]; exact pj_kpt_c kG6 rfl
  rw [← hG7]
  rw [pj_nm_e]
  refine pj_X_of (fun r h => pj_R_to (G7, 39, [(0, .ref 21), (1, .ref 117)], [.ref 117], 0, 0) 39 2 (fun _ => rfl) h) ?_
  refine pj_X_of (fun r h => pj_T_gr iG7 rfl rfl rfl h) ?_
  refine pj_X_of (fun r h => pj_R_to (G7, 44, [(0, .ref 21), (1, .ref 117)], [.ref 21, .int (Int32.ofInt 0), .ref 120], 0, 0) 44 3 (fun _ => rfl) h) ?_
  refine pj_X_of (fun r h => pj_T_gr iG7 rfl rfl rfl h) ?_
  refine pj_X_of (fun r h => pj_R_to (G7, 50, [(0, .ref 21), (1, .ref 117)], [.int ((Int8.ofInt 6).toInt32), .int (Int32.ofInt 0), .ref 24, .int (Int32.ofInt 0), .ref 120], 0, 0) 50 3 (fun _ => rfl) h) ?_
  refine pj_X_of (fun r h => pj_T_cp iG7 rfl rfl rfl rfl (by omega) (by omega) (by show _ = ((6 : Nat) : Int); omega) (Nat.le_of_ble_eq_true rfl) h) ?_
  show pj_X _ _ (pj_wc G7 120 24 6) 53 [(0, .ref 21), (1, .ref 117)] [] _
  obtain ⟨G8, hG8⟩ : ∃ H, H = pj_wc G7 120 24 6 := ⟨_, rfl⟩
  have iG8 : pj_Inv G8 := by rw [hG8]; exact pj_Inv_wc iG7 rfl rfl (fun q hq => by cases hq) rfl
  have kG8 : pj_kpt kc_68_21_117x G0 G8 := by rw [hG8]; exact pj_kpt_c kG7 rfl
  rw [← hG8]
  rw [pj_nm_e]
  refine pj_X_of (fun r h => pj_R_to (G8, 54, [(0, .ref 21), (1, .ref 117)], [.ref 117], 0, 0) 54 2 (fun _ => rfl) h) ?_
  refine pj_X_of (fun r h => pj_T_gr iG8 rfl rfl rfl h) ?_
  refine pj_X_of (fun r h => pj_R_to (G8, 59, [(0, .ref 21), (1, .ref 117)], [.ref 21, .int (Int32.ofInt 0), .ref 121], 0, 0) 59 3 (fun _ => rfl) h) ?_
  refine pj_X_of (fun r h => pj_T_gr iG8 rfl rfl rfl h) ?_
  refine pj_X_of (fun r h => pj_R_to (G8, 65, [(0, .ref 21), (1, .ref 117)], [.int ((Int8.ofInt 6).toInt32), .int (Int32.ofInt 0), .ref 25, .int (Int32.ofInt 0), .ref 121], 0, 0) 65 3 (fun _ => rfl) h) ?_
  refine pj_X_of (fun r h => pj_T_cp iG8 rfl rfl rfl rfl (by omega) (by omega) (by show _ = ((6 : Nat) : Int); omega) (Nat.le_of_ble_eq_true rfl) h) ?_
  show pj_X _ _ (pj_wc G8 121 25 6) 68 [(0, .ref 21), (1, .ref 117)] [] _
  obtain ⟨G9, hG9⟩ : ∃ H, H = pj_wc G8 121 25 6 := ⟨_, rfl⟩
  have iG9 : pj_Inv G9 := by rw [hG9]; exact pj_Inv_wc iG8 rfl rfl (fun q hq => by cases hq) rfl
  have kG9 : pj_kpt kc_68_21_117x G0 G9 := by rw [hG9]; exact pj_kpt_c kG8 rfl
  rw [← hG9]
  rw [pj_nm_e]
  refine pj_X_of (fun r h => pj_R_to (G9, 70, [(0, .ref 21), (1, .ref 117)], [.ref 117, .ref 21], 0, 0) 70 3 (fun _ => rfl) h) ?_
  refine pj_X_of (fun r h => pj_T_gi iG9 rfl rfl h) ?_
  show pj_X _ _ G9 73 [(0, .ref 21), (1, .ref 117)] [.int (pj_fi G9 117 5), .ref 21] _
  rw [← hy4, pj_nm_e]
  rw [show pj_fi G9 117 5 = y4 from by rw [hG9, pj_fi_wc]; exact (by rw [hG8, pj_fi_wc]; exact (by rw [hG7, pj_fi_wc]; exact (by rw [hG6, pj_fi_wc]; exact (by rw [hG5, pj_fi_wv_ne _ _ _ _ _ _ (by decide)]; exact hy4.symm))))]
  refine pj_X_of (fun r h => pj_T_pf iG9 rfl rfl rfl h) ?_
  show pj_X _ _ (pj_wv G9 21 5 (.int y4)) 76 [(0, .ref 21), (1, .ref 117)] [] _
  obtain ⟨G10, hG10⟩ : ∃ H, H = pj_wv G9 21 5 (.int y4) := ⟨_, rfl⟩
  have iG10 : pj_Inv G10 := by rw [hG10]; exact pj_Inv_wi iG9 (ci := 8) rfl (fun q hq => by cases hq; exact ⟨by show (0 : Int) ≤ _; omega, by show _ ≤ (6 : Int); omega⟩)
  have kG10 : pj_kpt kc_68_21_117x G0 G10 := by rw [hG10]; exact pj_kpt_v kG9 rfl
  rw [← hG10]
  rw [pj_nm_e]
  refine pj_X_of (fun r h => pj_R_to (G10, 77, [(0, .ref 21), (1, .ref 117)], [.ref 117], 0, 0) 77 2 (fun _ => rfl) h) ?_
  refine pj_X_of (fun r h => pj_T_gr iG10 rfl rfl rfl h) ?_
  refine pj_X_of (fun r h => pj_R_to (G10, 82, [(0, .ref 21), (1, .ref 117)], [.ref 21, .int (Int32.ofInt 0), .ref 122], 0, 0) 82 3 (fun _ => rfl) h) ?_
  refine pj_X_of (fun r h => pj_T_gr iG10 rfl rfl rfl h) ?_
  refine pj_X_of (fun r h => pj_R_to (G10, 88, [(0, .ref 21), (1, .ref 117)], [.int ((Int8.ofInt 6).toInt32), .int (Int32.ofInt 0), .ref 26, .int (Int32.ofInt 0), .ref 122], 0, 0) 88 3 (fun _ => rfl) h) ?_
  refine pj_X_of (fun r h => pj_T_cp iG10 rfl rfl rfl rfl (by omega) (by omega) (by show _ = ((6 : Nat) : Int); omega) (Nat.le_of_ble_eq_true rfl) h) ?_
  show pj_X _ _ (pj_wc G10 122 26 6) 91 [(0, .ref 21), (1, .ref 117)] [] _
  obtain ⟨G11, hG11⟩ : ∃ H, H = pj_wc G10 122 26 6 := ⟨_, rfl⟩
  have iG11 : pj_Inv G11 := by rw [hG11]; exact pj_Inv_wc iG10 rfl rfl (fun q hq => by cases hq; exact ⟨rfl, by decide⟩) rfl
  have kG11 : pj_kpt kc_68_21_117x G0 G11 := by rw [hG11]; exact pj_kpt_c kG10 rfl
  rw [← hG11]
  rw [pj_nm_e]
  refine pj_X_of (fun r h => pj_R_to (G11, 93, [(0, .ref 21), (1, .ref 117)], [.ref 117, .ref 21], 0, 0) 93 3 (fun _ => rfl) h) ?_
  refine pj_X_of (fun r h => pj_T_gi iG11 rfl rfl h) ?_
  show pj_X _ _ G11 96 [(0, .ref 21), (1, .ref 117)] [.int (pj_fi G11 117 7), .ref 21] _
  obtain ⟨y12, hy12⟩ : ∃ z : Int32, z = pj_fi G11 117 7 := ⟨_, rfl⟩
  rw [← hy12]
  rw [pj_nm_e]
  have ey12 : (pj_fi G11 117 7).toInt = y12.toInt := by rw [hy12]
  refine pj_X_of (fun r h => pj_T_pf iG11 rfl rfl rfl h) ?_
  show pj_X _ _ (pj_wv G11 21 7 (.int y12)) 99 [(0, .ref 21), (1, .ref 117)] [] _
  obtain ⟨G13, hG13⟩ : ∃ H, H = pj_wv G11 21 7 (.int y12) := ⟨_, rfl⟩
  have iG13 : pj_Inv G13 := by rw [hG13]; exact pj_Inv_wi iG11 (ci := 8) rfl (fun q hq => by cases hq)
  have kG13 : pj_kpt kc_68_21_117x G0 G13 := by rw [hG13]; exact pj_kpt_v kG11 rfl
  rw [← hG13]
  rw [pj_nm_e]
  refine pj_X_of (fun r h => pj_R_to (G13, 101, [(0, .ref 21), (1, .ref 117)], [.ref 117, .ref 21], 0, 0) 101 3 (fun _ => rfl) h) ?_
  refine pj_X_of (fun r h => pj_T_gi iG13 rfl rfl h) ?_
  show pj_X _ _ G13 104 [(0, .ref 21), (1, .ref 117)] [.int (pj_fi G13 117 8), .ref 21] _
  obtain ⟨y14, hy14⟩ : ∃ z : Int32, z = pj_fi G13 117 8 := ⟨_, rfl⟩
  rw [← hy14]
  rw [pj_nm_e]
  have ey14 : (pj_fi G13 117 8).toInt = y14.toInt := by rw [hy14]
  refine pj_X_of (fun r h => pj_T_pf iG13 rfl rfl rfl h) ?_
  show pj_X _ _ (pj_wv G13 21 8 (.int y14)) 107 [(0, .ref 21), (1, .ref 117)] [] _
  obtain ⟨G15, hG15⟩ : ∃ H, H = pj_wv G13 21 8 (.int y14) := ⟨_, rfl⟩
  have iG15 : pj_Inv G15 := by rw [hG15]; exact pj_Inv_wi iG13 (ci := 8) rfl (fun q hq => by cases hq)
  have kG15 : pj_kpt kc_68_21_117x G0 G15 := by rw [hG15]; exact pj_kpt_v kG13 rfl
  rw [← hG15]
  rw [pj_nm_e]
  have q16 : (pj_fi G15 21 0).toInt = y3.toInt := by rw [show pj_fi G15 21 0 = y3 from by rw [hG15, pj_fi_wv_ne _ _ _ _ _ _ (by decide)]; exact (by rw [hG13, pj_fi_wv_ne _ _ _ _ _ _ (by decide)]; exact (by rw [hG11, pj_fi_wc]; exact (by rw [hG10, pj_fi_wv_ne _ _ _ _ _ _ (by decide)]; exact (by rw [hG9, pj_fi_wc]; exact (by rw [hG8, pj_fi_wc]; exact (by rw [hG7, pj_fi_wc]; exact (by rw [hG6, pj_fi_wc]; exact (by rw [hG5]; exact pj_fi_wi hI.1 (ci := 8) rfl _))))))))]
  have q17 : (pj_fi G15 21 5).toInt = y4.toInt := by rw [show pj_fi G15 21 5 = y4 from by rw [hG15, pj_fi_wv_ne _ _ _ _ _ _ (by decide)]; exact (by rw [hG13, pj_fi_wv_ne _ _ _ _ _ _ (by decide)]; exact (by rw [hG11, pj_fi_wc]; exact (by rw [hG10]; exact pj_fi_wi iG9.1 (ci := 8) rfl _)))]
  have q18 : (pj_fi G15 117 0).toInt = y3.toInt := by rw [show pj_fi G15 117 0 = y3 from by rw [hG15, pj_fi_wv_ne _ _ _ _ _ _ (by decide)]; exact (by rw [hG13, pj_fi_wv_ne _ _ _ _ _ _ (by decide)]; exact (by rw [hG11, pj_fi_wc]; exact (by rw [hG10, pj_fi_wv_ne _ _ _ _ _ _ (by decide)]; exact (by rw [hG9, pj_fi_wc]; exact (by rw [hG8, pj_fi_wc]; exact (by rw [hG7, pj_fi_wc]; exact (by rw [hG6, pj_fi_wc]; exact (by rw [hG5, pj_fi_wv_ne _ _ _ _ _ _ (by decide)]; exact hy3.symm))))))))]
  have q19 : (pj_fi G15 117 5).toInt = y4.toInt := by rw [show pj_fi G15 117 5 = y4 from by rw [hG15, pj_fi_wv_ne _ _ _ _ _ _ (by decide)]; exact (by rw [hG13, pj_fi_wv_ne _ _ _ _ _ _ (by decide)]; exact (by rw [hG11, pj_fi_wc]; exact (by rw [hG10, pj_fi_wv_ne _ _ _ _ _ _ (by decide)]; exact (by rw [hG9, pj_fi_wc]; exact (by rw [hG8, pj_fi_wc]; exact (by rw [hG7, pj_fi_wc]; exact (by rw [hG6, pj_fi_wc]; exact (by rw [hG5, pj_fi_wv_ne _ _ _ _ _ _ (by decide)]; exact hy4.symm))))))))]
  exact pj_X_rt rfl rfl ⟨rfl, iG15, kG15, (fun H hH => by subst hH; exact (by omega)), rfl⟩
theorem fr_68_21_117x (G0 : pj_G) (hI : pj_Inv G0) : pj_Inv (F_68_21_117x G0) ∧ pj_kpt kc_68_21_117x G0 (F_68_21_117x G0) ∧ ((pj_fi (F_68_21_117x G0) 21 0).toInt = (pj_fi G0 117 0).toInt ∧ (pj_fi (F_68_21_117x G0) 21 5).toInt = (pj_fi G0 117 5).toInt) := by
  obtain ⟨v, G', -, -, i, j, x, e⟩ := ct_68_21_117x G0 hI 
  rw [← e]
  exact ⟨i, j, x _ rfl⟩
def kc_68_21_123x : pj_KT := ([(21, 0), (21, 5), (21, 7), (21, 8)], [21, 22, 23, 24, 25, 26], [22, 23, 24, 25, 26])
noncomputable def F_68_21_123x (G0 : pj_G) : pj_G := pj_nm (pj_fi G0 123 0) (fun y3 => pj_nm (pj_wv G0 21 0 (.int y3)) (fun G5 => pj_nm (pj_wc G5 124 22 6) (fun G6 => pj_nm (pj_wc G6 125 23 6) (fun G7 => pj_nm (pj_wc G7 126 24 6) (fun G8 => pj_nm (pj_wc G8 127 25 6) (fun G9 => pj_nm (pj_fi G0 123 5) (fun y4 => pj_nm (pj_wv G9 21 5 (.int y4)) (fun G10 => pj_nm (pj_wc G10 128 26 6) (fun G11 => pj_nm (pj_fi G11 123 7) (fun y12 => pj_nm (pj_wv G11 21 7 (.int y12)) (fun G13 => pj_nm (pj_fi G13 123 8) (fun y14 => pj_nm (pj_wv G13 21 8 (.int y14)) (fun G15 => G15)))))))))))))
theorem F_68_21_123x_e (G0 : pj_G) : F_68_21_123x G0 = pj_nm (pj_fi G0 123 0) (fun y3 => pj_nm (pj_wv G0 21 0 (.int y3)) (fun G5 => pj_nm (pj_wc G5 124 22 6) (fun G6 => pj_nm (pj_wc G6 125 23 6) (fun G7 => pj_nm (pj_wc G7 126 24 6) (fun G8 => pj_nm (pj_wc G8 127 25 6) (fun G9 => pj_nm (pj_fi G0 123 5) (fun y4 => pj_nm (pj_wv G9 21 5 (.int y4)) (fun G10 => pj_nm (pj_wc G10 128 26 6) (fun G11 => pj_nm (pj_fi G11 123 7) (fun y12 => pj_nm (pj_wv G11 21 7 (.int y12)) (fun G13 => pj_nm (pj_fi G13 123 8) (fun y14 => pj_nm (pj_wv G13 21 8 (.int y14)) (fun G15 => G15))))))))))))) := rfl
theorem ct_68_21_123x (G0 : pj_G) (hI : pj_Inv G0) : pj_Y 1 68 [.ref 21, .ref 123] G0 (fun v' G' => v' = none ∧ pj_Inv G' ∧ pj_kpt kc_68_21_123x G0 G' ∧ (∀ H, G0 = H → ((pj_fi G' 21 0).toInt = (pj_fi H 123 0).toInt ∧ (pj_fi G' 21 5).toInt = (pj_fi H 123 5).toInt)) ∧ (G' = F_68_21_123x G0)) := by
  have c0_ : ((Int8.ofInt 6).toInt32).toInt = 6 := by decide
  have c1_ : (Int32.ofInt 0).toInt = 0 := by decide
  refine pj_Y_X (M := pj_m68) rfl rfl (Nat.le_of_ble_eq_true rfl) ?_
  have hK : pj_kpt kc_68_21_123x G0 G0 := pj_kpt_r _ _
  show pj_X _ _ G0 0 [(0, .ref 21), (1, .ref 123)] [] _
  rw [F_68_21_123x_e]
  obtain ⟨y1, hy1⟩ : ∃ z : Int32, z = pj_fi G0 21 0 := ⟨_, rfl⟩
  have ey1 : (pj_fi G0 21 0).toInt = y1.toInt := by rw [hy1]
  have ry1 : (0 : Int) ≤ y1.toInt ∧ y1.toInt ≤ 6 := by rw [hy1]; exact hI.2.1 21 0 (0, 6) rfl
  obtain ⟨y2, hy2⟩ : ∃ z : Int32, z = pj_fi G0 21 5 := ⟨_, rfl⟩
  have ey2 : (pj_fi G0 21 5).toInt = y2.toInt := by rw [hy2]
  have ry2 : (0 : Int) ≤ y2.toInt ∧ y2.toInt ≤ 6 := by rw [hy2]; exact hI.2.1 21 5 (0, 6) rfl
  obtain ⟨y3, hy3⟩ : ∃ z : Int32, z = pj_fi G0 123 0 := ⟨_, rfl⟩
  have ey3 : (pj_fi G0 123 0).toInt = y3.toInt := by rw [hy3]
  have ry3 : (0 : Int) ≤ y3.toInt ∧ y3.toInt ≤ 6 := by rw [hy3]; exact hI.2.1 123 0 (0, 6) rfl
  obtain ⟨y4, hy4⟩ : ∃ z : Int32, z = pj_fi G0 123 5 := ⟨_, rfl⟩
  have ey4 : (pj_fi G0 123 5).toInt = y4.toInt := by rw [hy4]
  have ry4 : (0 : Int) ≤ y4.toInt ∧ y4.toInt ≤ 6 := by rw [hy4]; exact hI.2.1 123 5 (0, 6) rfl
  refine pj_X_of (fun r h => pj_R_to (G0, 2, [(0, .ref 21), (1, .ref 123)], [.ref 123, .ref 21], 0, 0) 2 3 (fun _ => rfl) h) ?_
  refine pj_X_of (fun r h => pj_T_gi hI rfl rfl h) ?_
  show pj_X _ _ G0 5 [(0, .ref 21), (1, .ref 123)] [.int (pj_fi G0 123 0), .ref 21] _
  rw [← hy3, pj_nm_e]
  refine pj_X_of (fun r h => pj_T_pf hI rfl rfl rfl h) ?_
  show pj_X _ _ (pj_wv G0 21 0 (.int y3)) 8 [(0, .ref 21), (1, .ref 123)] [] _
  obtain ⟨G5, hG5⟩ : ∃ H, H = pj_wv G0 21 0 (.int y3) := ⟨_, rfl⟩
  have iG5 : pj_Inv G5 := by rw [hG5]; exact pj_Inv_wi hI (ci := 8) rfl (fun q hq => by cases hq; exact ⟨by show (0 : Int) ≤ _; omega, by show _ ≤ (6 : Int); omega⟩)
  have kG5 : pj_kpt kc_68_21_123x G0 G5 := by rw [hG5]; exact pj_kpt_v hK rfl
  rw [← hG5]
  rw [pj_nm_e]
  refine pj_X_of (fun r h => pj_R_to (G5, 9, [(0, .ref 21), (1, .ref 123)], [.ref 123], 0, 0) 9 2 (fun _ => rfl) h) ?_
  refine pj_X_of (fun r h => pj_T_gr iG5 rfl rfl rfl h) ?_
  refine pj_X_of (fun r h => pj_R_to (G5, 14, [(0, .ref 21), (1, .ref 123)], [.ref 21, .int (Int32.ofInt 0), .ref 124], 0, 0) 14 3 (fun _ => rfl) h) ?_
  refine pj_X_of (fun r h => pj_T_gr iG5 rfl rfl rfl h) ?_
  refine pj_X_of (fun r h => pj_R_to (G5, 20, [(0, .ref 21), (1, .ref 123)], [.int ((Int8.ofInt 6).toInt32), .int (Int32.ofInt 0), .ref 22, .int (Int32.ofInt 0), .ref 124], 0, 0) 20 3 (fun _ => rfl) h) ?_
  refine pj_X_of (fun r h => pj_T_cp iG5 rfl rfl rfl rfl (by omega) (by omega) (by show _ = ((6 : Nat) : Int); omega) (Nat.le_of_ble_eq_true rfl) h) ?_
  show pj_X _ _ (pj_wc G5 124 22 6) 23 [(0, .ref 21), (1, .ref 123)] [] _
  obtain ⟨G6, hG6⟩ : ∃ H, H = pj_wc G5 124 22 6 := ⟨_, rfl⟩
  have iG6 : pj_Inv G6 := by rw [hG6]; exact pj_Inv_wc iG5 rfl rfl (fun q hq => by cases hq; exact ⟨rfl, by decide⟩) rfl
  have kG6 : pj_kpt kc_68_21_123x G0 G6 := by rw [hG6]; exact pj_kpt_c kG5 rfl
  rw [← hG6]
  rw [pj_nm_e]
  refine pj_X_of (fun r h => pj_R_to (G6, 24, [(0, .ref 21), (1, .ref 123)], [.ref 123], 0, 0) 24 2 (fun _ => rfl) h) ?_
  refine pj_X_of (fun r h => pj_T_gr iG6 rfl rfl rfl h) ?_
  refine pj_X_of (fun r h => pj_R_to (G6, 29, [(0, .ref 21), (1, .ref 123)], [.ref 21, .int (Int32.ofInt 0), .ref 125], 0, 0) 29 3 (fun _ => rfl) h) ?_
  refine pj_X_of (fun r h => pj_T_gr iG6 rfl rfl rfl h) ?_
  refine pj_X_of (fun r h => pj_R_to (G6, 35, [(0, .ref 21), (1, .ref 123)], [.int ((Int8.ofInt 6).toInt32), .int (Int32.ofInt 0), .ref 23, .int (Int32.ofInt 0), .ref 125], 0, 0) 35 3 (fun _ => rfl) h) ?_
  refine pj_X_of (fun r h => pj_T_cp iG6 rfl rfl rfl rfl (by omega) (by omega) (by show _ = ((6 : Nat) : Int); omega) (Nat.le_of_ble_eq_true rfl) h) ?_
  show pj_X _ _ (pj_wc G6 125 23 6) 38 [(0, .ref 21), (1, .ref 123)] [] _
  obtain ⟨G7, hG7⟩ : ∃ H, H = pj_wc G6 125 23 6 := ⟨_, rfl⟩
  have iG7 : pj_Inv G7 := by rw [hG7]; exact pj_Inv_wc iG6 rfl rfl (fun q hq => by cases hq) rfl
  have kG7 : pj_kpt kc_68_21_123x G0 G7 := by rw [hG7]; exact pj_kpt_c kG6 rfl
  rw [← hG7]
  rw [pj_nm_e]
  refine pj_X_of (fun r h => pj_R_to (G7, 39, [(0, .ref 21), (1, .ref 123)], [.ref 123], 0, 0) 39 2 (fun _ => rfl) h) ?_
  refine pj_X_of (fun r h => pj_T_gr iG7 rfl rfl rfl h) ?_
  refine pj_X_of (fun r h => pj_R_to (G7, 44, [(0, .ref 21), (1, .ref 123)], [.ref 21, .int (Int32.ofInt 0), .ref 126], 0, 0) 44 3 (fun _ => rfl) h) ?_
  refine pj_X_of (fun r h => pj_T_gr iG7 rfl rfl rfl h) ?_
  refine pj_X_of (fun r h => pj_R_to (G7, 50, [(0, .ref 21), (1, .ref 123)], [.int ((Int8.ofInt 6).toInt32), .int (Int32.ofInt 0), .ref 24, .int (Int32.ofInt 0), .ref 126], 0, 0) 50 3 (fun _ => rfl) h) ?_
  refine pj_X_of (fun r h => pj_T_cp iG7 rfl rfl rfl rfl (by omega) (by omega) (by show _ = ((6 : Nat) : Int); omega) (Nat.le_of_ble_eq_true rfl) h) ?_
  show pj_X _ _ (pj_wc G7 126 24 6) 53 [(0, .ref 21), (1, .ref 123)] [] _
  obtain ⟨G8, hG8⟩ : ∃ H, H = pj_wc G7 126 24 6 := ⟨_, rfl⟩
  have iG8 : pj_Inv G8 := by rw [hG8]; exact pj_Inv_wc iG7 rfl rfl (fun q hq => by cases hq) rfl
  have kG8 : pj_kpt kc_68_21_123x G0 G8 := by rw [hG8]; exact pj_kpt_c kG7 rfl
  rw [← hG8]
  rw [pj_nm_e]
  refine pj_X_of (fun r h => pj_R_to (G8, 54, [(0, .ref 21), (1, .ref 123)], [.ref 123], 0, 0) 54 2 (fun _ => rfl) h) ?_
  refine pj_X_of (fun r h => pj_T_gr iG8 rfl rfl rfl h) ?_
  refine pj_X_of (fun r h => pj_R_to (G8, 59, [(0, .ref 21), (1, .ref 123)], [.ref 21, .int (Int32.ofInt 0), .ref 127], 0, 0) 59 3 (fun _ => rfl) h) ?_
  refine pj_X_of (fun r h => pj_T_gr iG8 rfl rfl rfl h) ?_
  refine pj_X_of (fun r h => pj_R_to (G8, 65, [(0, .ref 21), (1, .ref 123)], [.int ((Int8.ofInt 6).toInt32), .int (Int32.ofInt 0), .ref 25, .int (Int32.ofInt 0), .ref 127], 0, 0) 65 3 (fun _ => rfl) h) ?_
  refine pj_X_of (fun r h => pj_T_cp iG8 rfl rfl rfl rfl (by omega) (by omega) (by show _ = ((6 : Nat) : Int); omega) (Nat.le_of_ble_eq_true rfl) h) ?_
  show pj_X _ _ (pj_wc G8 127 25 6) 68 [(0, .ref 21), (1, .ref 123)] [] _
  obtain ⟨G9, hG9⟩ : ∃ H, H = pj_wc G8 127 25 6 := ⟨_, rfl⟩
  have iG9 : pj_Inv G9 := by rw [hG9]; exact pj_Inv_wc iG8 rfl rfl (fun q hq => by cases hq) rfl
  have kG9 : pj_kpt kc_68_21_123x G0 G9 := by rw [hG9]; exact pj_kpt_c kG8 rfl
  rw [← hG9]
  rw [pj_nm_e]
  refine pj_X_of (fun r h => pj_R_to (G9, 70, [(0, .ref 21), (1, .ref 123)], [.ref 123, .ref 21], 0, 0) 70 3 (fun _ => rfl) h) ?_
  refine pj_X_of (fun r h => pj_T_gi iG9 rfl rfl h) ?_
  show pj_X _ _ G9 73 [(0, .ref 21), (1, .ref 123)] [.int (pj_fi G9 123 5), .ref 21] _
  rw [← hy4, pj_nm_e]
  rw [show pj_fi G9 123 5 = y4 from by rw [hG9, pj_fi_wc]; exact (by rw [hG8, pj_fi_wc]; exact (by rw [hG7, pj_fi_wc]; exact (by rw [hG6, pj_fi_wc]; exact (by rw [hG5, pj_fi_wv_ne _ _ _ _ _ _ (by decide)]; exact hy4.symm))))]
  refine pj_X_of (fun r h => pj_T_pf iG9 rfl rfl rfl h) ?_
  show pj_X _ _ (pj_wv G9 21 5 (.int y4)) 76 [(0, .ref 21), (1, .ref 123)] [] _
  obtain ⟨G10, hG10⟩ : ∃ H, H = pj_wv G9 21 5 (.int y4) := ⟨_, rfl⟩
  have iG10 : pj_Inv G10 := by rw [hG10]; exact pj_Inv_wi iG9 (ci := 8) rfl (fun q hq => by cases hq; exact ⟨by show (0 : Int) ≤ _; omega, by show _ ≤ (6 : Int); omega⟩)
  have kG10 : pj_kpt kc_68_21_123x G0 G10 := by rw [hG10]; exact pj_kpt_v kG9 rfl
  rw [← hG10]
  rw [pj_nm_e]
  refine pj_X_of (fun r h => pj_R_to (G10, 77, [(0, .ref 21), (1, .ref 123)], [.ref 123], 0, 0) 77 2 (fun _ => rfl) h) ?_
  refine pj_X_of (fun r h => pj_T_gr iG10 rfl rfl rfl h) ?_
  refine pj_X_of (fun r h => pj_R_to (G10, 82, [(0, .ref 21), (1, .ref 123)], [.ref 21, .int (Int32.ofInt 0), .ref 128], 0, 0) 82 3 (fun _ => rfl) h) ?_
  refine pj_X_of (fun r h => pj_T_gr iG10 rfl rfl rfl h) ?_
  refine pj_X_of (fun r h => pj_R_to (G10, 88, [(0, .ref 21), (1, .ref 123)], [.int ((Int8.ofInt 6).toInt32), .int (Int32.ofInt 0), .ref 26, .int (Int32.ofInt 0), .ref 128], 0, 0) 88 3 (fun _ => rfl) h) ?_
  refine pj_X_of (fun r h => pj_T_cp iG10 rfl rfl rfl rfl (by omega) (by omega) (by show _ = ((6 : Nat) : Int); omega) (Nat.le_of_ble_eq_true rfl) h) ?_
  show pj_X _ _ (pj_wc G10 128 26 6) 91 [(0, .ref 21), (1, .ref 123)] [] _
  obtain ⟨G11, hG11⟩ : ∃ H, H = pj_wc G10 128 26 6 := ⟨_, rfl⟩
  have iG11 : pj_Inv G11 := by rw [hG11]; exact pj_Inv_wc iG10 rfl rfl (fun q hq => by cases hq; exact ⟨rfl, by decide⟩) rfl
  have kG11 : pj_kpt kc_68_21_123x G0 G11 := by rw [hG11]; exact pj_kpt_c kG10 rfl
  rw [← hG11]
  rw [pj_nm_e]
  refine pj_X_of (fun r h => pj_R_to (G11, 93, [(0, .ref 21), (1, .ref 123)], [.ref 123, .ref 21], 0, 0) 93 3 (fun _ => rfl) h) ?_
  refine pj_X_of (fun r h => pj_T_gi iG11 rfl rfl h) ?_
  show pj_X _ _ G11 96 [(0, .ref 21), (1, .ref 123)] [.int (pj_fi G11 123 7), .ref 21] _
  obtain ⟨y12, hy12⟩ : ∃ z : Int32, z = pj_fi G11 123 7 := ⟨_, rfl⟩
  rw [← hy12]
  rw [pj_nm_e]
  have ey12 : (pj_fi G11 123 7).toInt = y12.toInt := by rw [hy12]
  refine pj_X_of (fun r h => pj_T_pf iG11 rfl rfl rfl h) ?_
  show pj_X _ _ (pj_wv G11 21 7 (.int y12)) 99 [(0, .ref 21), (1, .ref 123)] [] _
  obtain ⟨G13, hG13⟩ : ∃ H, H = pj_wv G11 21 7 (.int y12) := ⟨_, rfl⟩
  have iG13 : pj_Inv G13 := by rw [hG13]; exact pj_Inv_wi iG11 (ci := 8) rfl (fun q hq => by cases hq)
  have kG13 : pj_kpt kc_68_21_123x G0 G13 := by rw [hG13]; exact pj_kpt_v kG11 rfl
  rw [← hG13]
  rw [pj_nm_e]
  refine pj_X_of (fun r h => pj_R_to (G13, 101, [(0, .ref 21), (1, .ref 123)], [.ref 123, .ref 21], 0, 0) 101 3 (fun _ => rfl) h) ?_
  refine pj_X_of (fun r h => pj_T_gi iG13 rfl rfl h) ?_
  show pj_X _ _ G13 104 [(0, .ref 21), (1, .ref 123)] [.int (pj_fi G13 123 8), .ref 21] _
  obtain ⟨y14, hy14⟩ : ∃ z : Int32, z = pj_fi G13 123 8 := ⟨_, rfl⟩
  rw [← hy14]
  rw [pj_nm_e]
  have ey14 : (pj_fi G13 123 8).toInt = y14.toInt := by rw [hy14]
  refine pj_X_of (fun r h => pj_T_pf iG13 rfl rfl rfl h) ?_
  show pj_X _ _ (pj_wv G13 21 8 (.int y14)) 107 [(0, .ref 21), (1, .ref 123)] [] _
  obtain ⟨G15, hG15⟩ : ∃ H, H = pj_wv G13 21 8 (.int y14) := ⟨_, rfl⟩
  have iG15 : pj_Inv G15 := by rw [hG15]; exact pj_Inv_wi iG13 (ci := 8) rfl (fun q hq => by cases hq)
  have kG15 : pj_kpt kc_68_21_123x G0 G15 := by rw [hG15]; exact pj_kpt_v kG13 rfl
  rw [← hG15]
  rw [pj_nm_e]
  have q16 : (pj_fi G15 21 0).toInt = y3.toInt := by rw [show pj_fi G15 21 0 = y3 from by rw [hG15, pj_fi_wv_ne _ _ _ _ _ _ (by decide)]; exact (by rw [hG13, pj_fi_wv_ne _ _ _ _ _ _ (by decide)]; exact (by rw [hG11, pj_fi_wc]; exact (by rw [hG10, pj_fi_wv_ne _ _ _ _ _ _ (by decide)]; exact (by rw [hG9, pj_fi_wc]; exact (by rw [hG8, pj_fi_wc]; exact (by rw [hG7, pj_fi_wc]; exact (by rw [hG6, pj_fi_wc]; exact (by rw [hG5]; exact pj_fi_wi hI.1 (ci := 8) rfl _))))))))]
  have q17 : (pj_fi G15 21 5).toInt = y4.toInt := by rw [show pj_fi G15 21 5 = y4 from by rw [hG15, pj_fi_wv_ne _ _ _ _ _ _ (by decide)]; exact (by rw [hG13, pj_fi_wv_ne _ _ _ _ _ _ (by decide)]; exact (by rw [hG11, pj_fi_wc]; exact (by rw [hG10]; exact pj_fi_wi iG9.1 (ci := 8) rfl _)))]
  have q18 : (pj_fi G15 123 0).toInt = y3.toInt := by rw [show pj_fi G15 123 0 = y3 from by rw [hG15, pj_fi_wv_ne _ _ _ _ _ _ (by decide)]; exact (by rw [hG13, pj_fi_wv_ne _ _ _ _ _ _ (by decide)]; exact (by rw [hG11, pj_fi_wc]; exact (by rw [hG10, pj_fi_wv_ne _ _ _ _ _ _ (by decide)]; exact (by rw [hG9, pj_fi_wc]; exact (by rw [hG8, pj_fi_wc]; exact (by rw [hG7, pj_fi_wc]; exact (by rw [hG6, pj_fi_wc]; exact (by rw [hG5, pj_fi_wv_ne _ _ _ _ _ _ (by decide)]; exact hy3.symm))))))))]
  have q19 : (pj_fi G15 123 5).toInt = y4.toInt := by rw [show pj_fi G15 123 5 = y4 from by rw [hG15, pj_fi_wv_ne _ _ _ _ _ _ (by decide)]; exact (by rw [hG13, pj_fi_wv_ne _ _ _ _ _ _ (by decide)]; exact (by rw [hG11, pj_fi_wc]; exact (by rw [hG10, pj_fi_wv_ne _ _ _ _ _ _ (by decide)]; exact (by rw [hG9, pj_fi_wc]; exact (by rw [hG8, pj_fi_wc]; exact (by rw [hG7, pj_fi_wc]; exact (by rw [hG6, pj_fi_wc]; exact (by rw [hG5, pj_fi_wv_ne _ _ _ _ _ _ (by decide)]; exact hy4.symm))))))))]
  exact pj_X_rt rfl rfl ⟨rfl, iG15, kG15, (fun H hH => by subst hH; exact (by omega)), rfl⟩
theorem fr_68_21_123x (G0 : pj_G) (hI : pj_Inv G0) : pj_Inv (F_68_21_123x G0) ∧ pj_kpt kc_68_21_123x G0 (F_68_21_123x G0) ∧ ((pj_fi (F_68_21_123x G0) 21 0).toInt = (pj_fi G0 123 0).toInt ∧ (pj_fi (F_68_21_123x G0) 21 5).toInt = (pj_fi G0 123 5).toInt) := by
  obtain ⟨v, G', -, -, i, j, x, e⟩ := ct_68_21_123x G0 hI 
  rw [← e]
  exact ⟨i, j, x _ rfl⟩
def kc_68_21_129x : pj_KT := ([(21, 0), (21, 5), (21, 7), (21, 8)], [21, 22, 23, 24, 25, 26], [22, 23, 24, 25, 26])
noncomputable def F_68_21_129x (G0 : pj_G) : pj_G := pj_nm (pj_fi G0 129 0) (fun y3 => pj_nm (pj_wv G0 21 0 (.int y3)) (fun G5 => pj_nm (pj_wc G5 130 22 6) (fun G6 => pj_nm (pj_wc G6 131 23 6) (fun G7 => pj_nm (pj_wc G7 132 24 6) (fun G8 => pj_nm (pj_wc G8 133 25 6) (fun G9 => pj_nm (pj_fi G0 129 5) (fun y4 => pj_nm (pj_wv G9 21 5 (.int y4)) (fun G10 => pj_nm (pj_wc G10 134 26 6) (fun G11 => pj_nm (pj_fi G11 129 7) (fun y12 => pj_nm (pj_wv G11 21 7 (.int y12)) (fun G13 => pj_nm (pj_fi G13 129 8) (fun y14 => pj_nm (pj_wv G13 21 8 (.int y14)) (fun G15 => G15)))))))))))))
theorem F_68_21_129x_e (G0 : pj_G) : F_68_21_129x G0 = pj_nm (pj_fi G0 129 0) (fun y3 => pj_nm (pj_wv G0 21 0 (.int y3)) (fun G5 => pj_nm (pj_wc G5 130 22 6) (fun G6 => pj_nm (pj_wc G6 131 23 6) (fun G7 => pj_nm (pj_wc G7 132 24 6) (fun G8 => pj_nm (pj_wc G8 133 25 6) (fun G9 => pj_nm (pj_fi G0 129 5) (fun y4 => pj_nm (pj_wv G9 21 5 (.int y4)) (fun G10 => pj_nm (pj_wc G10 134 26 6) (fun G11 => pj_nm (pj_fi G11 129 7) (fun y12 => pj_nm (pj_wv G11 21 7 (.int y12)) (fun G13 => pj_nm (pj_fi G13 129 8) (fun y14 => pj_nm (pj_wv G13 21 8 (.int y14)) (fun G15 => G15))))))))))))) := rfl
theorem ct_68_21_129x (G0 : pj_G) (hI : pj_Inv G0) : pj_Y 1 68 [.ref 21, .ref 129] G0 (fun v' G' => v' = none ∧ pj_Inv G' ∧ pj_kpt kc_68_21_129x G0 G' ∧ (∀ H, G0 = H → ((pj_fi G' 21 0).toInt = (pj_fi H 129 0).toInt ∧ (pj_fi G' 21 5).toInt = (pj_fi H 129 5).toInt)) ∧ (G' = F_68_21_129x G0)) := by
  have c0_ : ((Int8.ofInt 6).toInt32).toInt = 6 := by decide
  have c1_ : (Int32.ofInt 0).toInt = 0 := by decide
  refine pj_Y_X (M := pj_m68) rfl rfl (Nat.le_of_ble_eq_true rfl) ?_
  have hK : pj_kpt kc_68_21_129x G0 G0 := pj_kpt_r _ _
  show pj_X _ _ G0 0 [(0, .ref 21), (1, .ref 129)] [] _
  rw [F_68_21_129x_e]
  obtain ⟨y1, hy1⟩ : ∃ z : Int32, z = pj_fi G0 21 0 := ⟨_, rfl⟩
  have ey1 : (pj_fi G0 21 0).toInt = y1.toInt := by rw [hy1]
  have ry1 : (0 : Int) ≤ y1.toInt ∧ y1.toInt ≤ 6 := by rw [hy1]; exact hI.2.1 21 0 (0, 6) rfl
  obtain ⟨y2, hy2⟩ : ∃ z : Int32, z = pj_fi G0 21 5 := ⟨_, rfl⟩
  have ey2 : (pj_fi G0 21 5).toInt = y2.toInt := by rw [hy2]
  have ry2 : (0 : Int) ≤ y2.toInt ∧ y2.toInt ≤ 6 := by rw [hy2]; exact hI.2.1 21 5 (0, 6) rfl
  obtain ⟨y3, hy3⟩ : ∃ z : Int32, z = pj_fi G0 129 0 := ⟨_, rfl⟩
  have ey3 : (pj_fi G0 129 0).toInt = y3.toInt := by rw [hy3]
  have ry3 : (0 : Int) ≤ y3.toInt ∧ y3.toInt ≤ 6 := by rw [hy3]; exact hI.2.1 129 0 (0, 6) rfl
  obtain ⟨y4, hy4⟩ : ∃ z : Int32, z = pj_fi G0 129 5 := ⟨_, rfl⟩
  have ey4 : (pj_fi G0 129 5).toInt = y4.toInt := by rw [hy4]
  have ry4 : (0 : Int) ≤ y4.toInt ∧ y4.toInt ≤ 6 := by rw [hy4]; exact hI.2.1 129 5 (0, 6) rfl
  refine pj_X_of (fun r h => pj_R_to (G0, 2, [(0, .ref 21), (1, .ref 129)], [.ref 129, .ref 21], 0, 0) 2 3 (fun _ => rfl) h) ?_
  refine pj_X_of (fun r h => pj_T_gi hI rfl rfl h) ?_
  show pj_X _ _ G0 5 [(0, .ref 21), (1, .ref 129)] [.int (pj_fi G0 129 0), .ref 21] _
  rw [← hy3, pj_nm_e]
  refine pj_X_of (fun r h => pj_T_pf hI rfl rfl rfl h) ?_
  show pj_X _ _ (pj_wv G0 21 0 (.int y3)) 8 [(0, .ref 21), (1, .ref 129)] [] _
  obtain ⟨G5, hG5⟩ : ∃ H, H = pj_wv G0 21 0 (.int y3) := ⟨_, rfl⟩
  have iG5 : pj_Inv G5 := by rw [hG5]; exact pj_Inv_wi hI (ci := 8) rfl (fun q hq => by cases hq; exact ⟨by show (0 : Int) ≤ _; omega, by show _ ≤ (6 : Int); omega⟩)
  have kG5 : pj_kpt kc_68_21_129x G0 G5 := by rw [hG5]; exact pj_kpt_v hK rfl
  rw [← hG5]
  rw [pj_nm_e]
  refine pj_X_of (fun r h => pj_R_to (G5, 9, [(0, .ref 21), (1, .ref 129)], [.ref 129], 0, 0) 9 2 (fun _ => rfl) h) ?_
  refine pj_X_of (fun r h => pj_T_gr iG5 rfl rfl rfl h) ?_
  refine pj_X_of (fun r h => pj_R_to (G5, 14, [(0, .ref 21), (1, .ref 129)], [.ref 21, .int (Int32.ofInt 0), .ref 130], 0, 0) 14 3 (fun _ => rfl) h) ?_
  refine pj_X_of (fun r h => pj_T_gr iG5 rfl rfl rfl h) ?_
  refine pj_X_of (fun r h => pj_R_to (G5, 20, [(0, .ref 21), (1, .ref 129)], [.int ((Int8.ofInt 6).toInt32), .int (Int32.ofInt 0), .ref 22, .int (Int32.ofInt 0), .ref 130], 0, 0) 20 3 (fun _ => rfl) h) ?_
  refine pj_X_of (fun r h => pj_T_cp iG5 rfl rfl rfl rfl (by omega) (by omega) (by show _ = ((6 : Nat) : Int); omega) (Nat.le_of_ble_eq_true rfl) h) ?_
  show pj_X _ _ (pj_wc G5 130 22 6) 23 [(0, .ref 21), (1, .ref 129)] [] _
  obtain ⟨G6, hG6⟩ : ∃ H, H = pj_wc G5 130 22 6 := ⟨_, rfl⟩
  have iG6 : pj_Inv G6 := by rw [hG6]; exact pj_Inv_wc iG5 rfl rfl (fun q hq => by cases hq; exact ⟨rfl, by decide⟩) rfl
  have kG6 : pj_kpt kc_68_21_129x G0 G6 := by rw [hG6]; exact pj_kpt_c kG5 rfl
  rw [← hG6]
  rw [pj_nm_e]
  refine pj_X_of (fun r h => pj_R_to (G6, 24, [(0, .ref 21), (1, .ref 129)], [.ref 129], 0, 0) 24 2 (fun _ => rfl) h) ?_
  refine pj_X_of (fun r h => pj_T_gr iG6 rfl rfl rfl h) ?_
  refine pj_X_of (fun r h => pj_R_to (G6, 29, [(0, .ref 21), (1, .ref 129)], [.ref 21, .int (Int32.ofInt 0), .ref 131], 0, 0) 29 3 (fun _ => rfl) h) ?_
  refine pj_X_of (fun r h => pj_T_gr iG6 rfl rfl rfl h) ?_
  refine pj_X_of (fun r h => pj_R_to (G6, 35, [(0, .ref 21), (1, .ref 129)], [.int ((Int8.ofInt 6).toInt32), .int (Int32.ofInt 0), .ref 23, .int (Int32.ofInt 0), .ref 131], 0, 0) 35 3 (fun _ => rfl) h) ?_
  refine pj_X_of (fun r h => pj_T_cp iG6 rfl rfl rfl rfl (by omega) (by omega) (by show _ = ((6 : Nat) : Int); omega) (Nat.le_of_ble_eq_true rfl) h) ?_
  show pj_X _ _ (pj_wc G6 131 23 6) 38 [(0, .ref 21), (1, .ref 129)] [] _
  obtain ⟨G7, hG7⟩ : ∃ H, H = pj_wc G6 131 23 6 := ⟨_, rfl⟩
  have iG7 : pj_Inv G7 := by rw [hG7]; exact pj_Inv_wc iG6 rfl rfl (fun q hq => by cases hq) rfl
  have kG7 : pj_kpt kc_68_21_129x G0 G7 := by rw [hG7]; exact pj_kpt_c kG6 rfl
  rw [← hG7]
  rw [pj_nm_e]
  refine pj_X_of (fun r h => pj_R_to (G7, 39, [(0, .ref 21), (1, .ref 129)], [.ref 129], 0, 0) 39 2 (fun _ => rfl) h) ?_
  refine pj_X_of (fun r h => pj_T_gr iG7 rfl rfl rfl h) ?_
  refine pj_X_of (fun r h => pj_R_to (G7, 44, [(0, .ref 21), (1, .ref 129)], [.ref 21, .int (Int32.ofInt 0), .ref 132], 0, 0) 44 3 (fun _ => rfl) h) ?_
  refine pj_X_of (fun r h => pj_T_gr iG7 rfl rfl rfl h) ?_
  refine pj_X_of (fun r h => pj_R_to (G7, 50, [(0, .ref 21), (1, .ref 129)], [.int ((Int8.ofInt 6).toInt32), .int (Int32.ofInt 0), .ref 24, .int (Int32.ofInt 0), .ref 132], 0, 0) 50 3 (fun _ => rfl) h) ?_
  refine pj_X_of (fun r h => pj_T_cp iG7 rfl rfl rfl rfl (by omega) (by omega) (by show _ = ((6 : Nat) : Int); omega) (Nat.le_of_ble_eq_true rfl) h) ?_
  show pj_X _ _ (pj_wc G7 132 24 6) 53 [(0, .ref 21), (1, .ref 129)] [] _
  obtain ⟨G8, hG8⟩ : ∃ H, H = pj_wc G7 132 24 6 := ⟨_, rfl⟩
  have iG8 : pj_Inv G8 := by rw [hG8]; exact pj_Inv_wc iG7 rfl rfl (fun q hq => by cases hq) rfl
  have kG8 : pj_kpt kc_68_21_129x G0 G8 := by rw [hG8]; exact pj_kpt_c kG7 rfl
  rw [← hG8]
  rw [pj_nm_e]
  refine pj_X_of (fun r h => pj_R_to (G8, 54, [(0, .ref 21), (1, .ref 129)], [.ref 129], 0, 0) 54 2 (fun _ => rfl) h) ?_
  refine pj_X_of (fun r h => pj_T_gr iG8 rfl rfl rfl h) ?_
  refine pj_X_of (fun r h => pj_R_to (G8, 59, [(0, .ref 21), (1, .ref 129)], [.ref 21, .int (Int32.ofInt 0), .ref 133], 0, 0) 59 3 (fun _ => rfl) h) ?_
  refine pj_X_of (fun r h => pj_T_gr iG8 rfl rfl rfl h) ?_
  refine pj_X_of (fun r h => pj_R_to (G8, 65, [(0, .ref 21), (1, .ref 129)], [.int ((Int8.ofInt 6).toInt32), .int (Int32.ofInt 0), .ref 25, .int (Int32.ofInt 0), .ref 133], 0, 0) 65 3 (fun _ => rfl) h) ?_
  refine pj_X_of (fun r h => pj_T_cp iG8 rfl rfl rfl rfl (by omega) (by omega) (by show _ = ((6 : Nat) : Int); omega) (Nat.le_of_ble_eq_true rfl) h) ?_
  show pj_X _ _ (pj_wc G8 133 25 6) 68 [(0, .ref 21), (1, .ref 129)] [] _
  obtain ⟨G9, hG9⟩ : ∃ H, H = pj_wc G8 133 25 6 := ⟨_, rfl⟩
  have iG9 : pj_Inv G9 := by rw [hG9]; exact pj_Inv_wc iG8 rfl rfl (fun q hq => by cases hq) rfl
  have kG9 : pj_kpt kc_68_21_129x G0 G9 := by rw [hG9]; exact pj_kpt_c kG8 rfl
  rw [← hG9]
  rw [pj_nm_e]
  refine pj_X_of (fun r h => pj_R_to (G9, 70, [(0, .ref 21), (1, .ref 129)], [.ref 129, .ref 21], 0, 0) 70 3 (fun _ => rfl) h) ?_
  refine pj_X_of (fun r h => pj_T_gi iG9 rfl rfl h) ?_
  show pj_X _ _ G9 73 [(0, .ref 21), (1, .ref 129)] [.int (pj_fi G9 129 5), .ref 21] _
  rw [← hy4, pj_nm_e]
  rw [show pj_fi G9 129 5 = y4 from by rw [hG9, pj_fi_wc]; exact (by rw [hG8, pj_fi_wc]; exact (by rw [hG7, pj_fi_wc]; exact (by rw [hG6, pj_fi_wc]; exact (by rw [hG5, pj_fi_wv_ne _ _ _ _ _ _ (by decide)]; exact hy4.symm))))]
  refine pj_X_of (fun r h => pj_T_pf iG9 rfl rfl rfl h) ?_
  show pj_X _ _ (pj_wv G9 21 5 (.int y4)) 76 [(0, .ref 21), (1, .ref 129)] [] _
  obtain ⟨G10, hG10⟩ : ∃ H, H = pj_wv G9 21 5 (.int y4) := ⟨_, rfl⟩
  have iG10 : pj_Inv G10 := by rw [hG10]; exact pj_Inv_wi iG9 (ci := 8) rfl (fun q hq => by cases hq; exact ⟨by show (0 : Int) ≤ _; omega, by show _ ≤ (6 : Int); omega⟩)
  have kG10 : pj_kpt kc_68_21_129x G0 G10 := by rw [hG10]; exact pj_kpt_v kG9 rfl
  rw [← hG10]
  rw [pj_nm_e]
  refine pj_X_of (fun r h => pj_R_to (G10, 77, [(0, .ref 21), (1, .ref 129)], [.ref 129], 0, 0) 77 2 (fun _ => rfl) h) ?_
  refine pj_X_of (fun r h => pj_T_gr iG10 rfl rfl rfl h) ?_
  refine pj_X_of (fun r h => pj_R_to (G10, 82, [(0, .ref 21), (1, .ref 129)], [.ref 21, .int (Int32.ofInt 0), .ref 134], 0, 0) 82 3 (fun _ => rfl) h) ?_
  refine pj_X_of (fun r h => pj_T_gr iG10 rfl rfl rfl h) ?_
  refine pj_X_of (fun r h => pj_R_to (G10, 88, [(0, .ref 21), (1, .ref 129)], [.int ((Int8.ofInt 6).toInt32), .int (Int32.ofInt 0), .ref 26, .int (Int32.ofInt 0), .ref 134], 0, 0) 88 3 (fun _ => rfl) h) ?_
  refine pj_X_of (fun r h => pj_T_cp iG10 rfl rfl rfl rfl (by omega) (by omega) (by show _ = ((6 : Nat) : Int); omega) (Nat.le_of_ble_eq_true rfl) h) ?_
  show pj_X _ _ (pj_wc G10 134 26 6) 91 [(0, .ref 21), (1, .ref 129)] [] _
  obtain ⟨G11, hG11⟩ : ∃ H, H = pj_wc G10 134 26 6 := ⟨_, rfl⟩
  have iG11 : pj_Inv G11 := by rw [hG11]; exact pj_Inv_wc iG10 rfl rfl (fun q hq => by cases hq; exact ⟨rfl, by decide⟩) rfl
  have kG11 : pj_kpt kc_68_21_129x G0 G11 := by rw [hG11]; exact pj_kpt_c kG10 rfl
  rw [← hG11]
  rw [pj_nm_e]
  refine pj_X_of (fun r h => pj_R_to (G11, 93, [(0, .ref 21), (1, .ref 129)], [.ref 129, .ref 21], 0, 0) 93 3 (fun _ => rfl) h) ?_
  refine pj_X_of (fun r h => pj_T_gi iG11 rfl rfl h) ?_
  show pj_X _ _ G11 96 [(0, .ref 21), (1, .ref 129)] [.int (pj_fi G11 129 7), .ref 21] _
  obtain ⟨y12, hy12⟩ : ∃ z : Int32, z = pj_fi G11 129 7 := ⟨_, rfl⟩
  rw [← hy12]
  rw [pj_nm_e]
  have ey12 : (pj_fi G11 129 7).toInt = y12.toInt := by rw [hy12]
  refine pj_X_of (fun r h => pj_T_pf iG11 rfl rfl rfl h) ?_
  show pj_X _ _ (pj_wv G11 21 7 (.int y12)) 99 [(0, .ref 21), (1, .ref 129)] [] _
  obtain ⟨G13, hG13⟩ : ∃ H, H = pj_wv G11 21 7 (.int y12) := ⟨_, rfl⟩
  have iG13 : pj_Inv G13 := by rw [hG13]; exact pj_Inv_wi iG11 (ci := 8) rfl (fun q hq => by cases hq)
  have kG13 : pj_kpt kc_68_21_129x G0 G13 := by rw [hG13]; exact pj_kpt_v kG11 rfl
  rw [← hG13]
  rw [pj_nm_e]
  refine pj_X_of (fun r h => pj_R_to (G13, 101, [(0, .ref 21), (1, .ref 129)], [.ref 129, .ref 21], 0, 0) 101 3 (fun _ => rfl) h) ?_
  refine pj_X_of (fun r h => pj_T_gi iG13 rfl rfl h) ?_
  show pj_X _ _ G13 104 [(0, .ref 21), (1, .ref 129)] [.int (pj_fi G13 129 8), .ref 21] _
  obtain ⟨y14, hy14⟩ : ∃ z : Int32, z = pj_fi G13 129 8 := ⟨_, rfl⟩
  rw [← hy14]
  rw [pj_nm_e]
  have ey14 : (pj_fi G13 129 8).toInt = y14.toInt := by rw [hy14]
  refine pj_X_of (fun r h => pj_T_pf iG13 rfl rfl rfl h) ?_
  show pj_X _ _ (pj_wv G13 21 8 (.int y14)) 107 [(0, .ref 21), (1, .ref 129)] [] _
  obtain ⟨G15, hG15⟩ : ∃ H, H = pj_wv G13 21 8 (.int y14) := ⟨_, rfl⟩
  have iG15 : pj_Inv G15 := by rw [hG15]; exact pj_Inv_wi iG13 (ci := 8) rfl (fun q hq => by cases hq)
  have kG15 : pj_kpt kc_68_21_129x G0 G15 := by rw [hG15]; exact pj_kpt_v kG13 rfl
  rw [← hG15]
  rw [pj_nm_e]
  have q16 : (pj_fi G15 21 0).toInt = y3.toInt := by rw [show pj_fi G15 21 0 = y3 from by rw [hG15, pj_fi_wv_ne _ _ _ _ _ _ (by decide)]; exact (by rw [hG13, pj_fi_wv_ne _ _ _ _ _ _ (by decide)]; exact (by rw [hG11, pj_fi_wc]; exact (by rw [hG10, pj_fi_wv_ne _ _ _ _ _ _ (by decide)]; exact (by rw [hG9, pj_fi_wc]; exact (by rw [hG8, pj_fi_wc]; exact (by rw [hG7, pj_fi_wc]; exact (by rw [hG6, pj_fi_wc]; exact (by rw [hG5]; exact pj_fi_wi hI.1 (ci := 8) rfl _))))))))]
  have q17 : (pj_fi G15 21 5).toInt = y4.toInt := by rw [show pj_fi G15 21 5 = y4 from by rw [hG15, pj_fi_wv_ne _ _ _ _ _ _ (by decide)]; exact (by rw [hG13, pj_fi_wv_ne _ _ _ _ _ _ (by decide)]; exact (by rw [hG11, pj_fi_wc]; exact (by rw [hG10]; exact pj_fi_wi iG9.1 (ci := 8) rfl _)))]
  have q18 : (pj_fi G15 129 0).toInt = y3.toInt := by rw [show pj_fi G15 129 0 = y3 from by rw [hG15, pj_fi_wv_ne _ _ _ _ _ _ (by decide)]; exact (by rw [hG13, pj_fi_wv_ne _ _ _ _ _ _ (by decide)]; exact (by rw [hG11, pj_fi_wc]; exact (by rw [hG10, pj_fi_wv_ne _ _ _ _ _ _ (by decide)]; exact (by rw [hG9, pj_fi_wc]; exact (by rw [hG8, pj_fi_wc]; exact (by rw [hG7, pj_fi_wc]; exact (by rw [hG6, pj_fi_wc]; exact (by rw [hG5, pj_fi_wv_ne _ _ _ _ _ _ (by decide)]; exact hy3.symm))))))))]
  have q19 : (pj_fi G15 129 5).toInt = y4.toInt := by rw [show pj_fi G15 129 5 = y4 from by rw [hG15, pj_fi_wv_ne _ _ _ _ _ _ (by decide)]; exact (by rw [hG13, pj_fi_wv_ne _ _ _ _ _ _ (by decide)]; exact (by rw [hG11, pj_fi_wc]; exact (by rw [hG10, pj_fi_wv_ne _ _ _ _ _ _ (by decide)]; exact (by rw [hG9, pj_fi_wc]; exact (by rw [hG8, pj_fi_wc]; exact (by rw [hG7, pj_fi_wc]; exact (by rw [hG6, pj_fi_wc]; exact (by rw [hG5, pj_fi_wv_ne _ _ _ _ _ _ (by decide)]; exact hy4.symm))))))))]
  exact pj_X_rt rfl rfl ⟨rfl, iG15, kG15, (fun H hH => by subst hH; exact (by omega)), rfl⟩
theorem fr_68_21_129x (G0 : pj_G) (hI : pj_Inv G0) : pj_Inv (F_68_21_129x G0) ∧ pj_kpt kc_68_21_129x G0 (F_68_21_129x G0) ∧ ((pj_fi (F_68_21_129x G0) 21 0).toInt = (pj_fi G0 129 0).toInt ∧ (pj_fi (F_68_21_129x G0) 21 5).toInt = (pj_fi G0 129 5).toInt) := by
  obtain ⟨v, G', -, -, i, j, x, e⟩ := ct_68_21_129x G0 hI 
  rw [← e]
  exact ⟨i, j, x _ rfl⟩
def kc_68_21_135x : pj_KT := ([(21, 0), (21, 5), (21, 7), (21, 8)], [21, 22, 23, 24, 25, 26], [22, 23, 24, 25, 26])
noncomputable def F_68_21_135x (G0 : pj_G) : pj_G := pj_nm (pj_fi G0 135 0) (fun y3 => pj_nm (pj_wv G0 21 0 (.int y3)) (fun G5 => pj_nm (pj_wc G5 136 22 6) (fun G6 => pj_nm (pj_wc G6 137 23 6) (fun G7 => pj_nm (pj_wc G7 138 24 6) (fun G8 => pj_nm (pj_wc G8 139 25 6) (fun G9 => pj_nm (pj_fi G0 135 5) (fun y4 => pj_nm (pj_wv G9 21 5 (.int y4)) (fun G10 => pj_nm (pj_wc G10 140 26 6) (fun G11 => pj_nm (pj_fi G11 135 7) (fun y12 => pj_nm (pj_wv G11 21 7 (.int y12)) (fun G13 => pj_nm (pj_fi G13 135 8) (fun y14 => pj_nm (pj_wv G13 21 8 (.int y14)) (fun G15 => G15)))))))))))))
theorem F_68_21_135x_e (G0 : pj_G) : F_68_21_135x G0 = pj_nm (pj_fi G0 135 0) (fun y3 => pj_nm (pj_wv G0 21 0 (.int y3)) (fun G5 => pj_nm (pj_wc G5 136 22 6) (fun G6 => pj_nm (pj_wc G6 137 23 6) (fun G7 => pj_nm (pj_wc G7 138 24 6) (fun G8 => pj_nm (pj_wc G8 139 25 6) (fun G9 => pj_nm (pj_fi G0 135 5) (fun y4 => pj_nm (pj_wv G9 21 5 (.int y4)) (fun G10 => pj_nm (pj_wc G10 140 26 6) (fun G11 => pj_nm (pj_fi G11 135 7) (fun y12 => pj_nm (pj_wv G11 21 7 (.int y12)) (fun G13 => pj_nm (pj_fi G13 135 8) (fun y14 => pj_nm (pj_wv G13 21 8 (.int y14)) (fun G15 => G15))))))))))))) := rfl
theorem ct_68_21_135x (G0 : pj_G) (hI : pj_Inv G0) : pj_Y 1 68 [.ref 21, .ref 135] G0 (fun v' G' => v' = none ∧ pj_Inv G' ∧ pj_kpt kc_68_21_135x G0 G' ∧ (∀ H, G0 = H → ((pj_fi G' 21 0).toInt = (pj_fi H 135 0).toInt ∧ (pj_fi G' 21 5).toInt = (pj_fi H 135 5).toInt)) ∧ (G' = F_68_21_135x G0)) := by
  have c0_ : ((Int8.ofInt 6).toInt32).toInt = 6 := by decide
  have c1_ : (Int32.ofInt 0).toInt = 0 := by decide
  refine pj_Y_X (M := pj_m68) rfl rfl (Nat.le_of_ble_eq_true rfl) ?_
  have hK : pj_kpt kc_68_21_135x G0 G0 := pj_kpt_r _ _
  show pj_X _ _ G0 0 [(0, .ref 21), (1, .ref 135)] [] _
  rw [F_68_21_135x_e]
  obtain ⟨y1, hy1⟩ : ∃ z : Int32, z = pj_fi G0 21 0 := ⟨_, rfl⟩
  have ey1 : (pj_fi G0 21 0).toInt = y1.toInt := by rw [hy1]
  have ry1 : (0 : Int) ≤ y1.toInt ∧ y1.toInt ≤ 6 := by rw [hy1]; exact hI.2.1 21 0 (0, 6) rfl
  obtain ⟨y2, hy2⟩ : ∃ z : Int32, z = pj_fi G0 21 5 := ⟨_, rfl⟩
  have ey2 : (pj_fi G0 21 5).toInt = y2.toInt := by rw [hy2]
  have ry2 : (0 : Int) ≤ y2.toInt ∧ y2.toInt ≤ 6 := by rw [hy2]; exact hI.2.1 21 5 (0, 6) rfl
  obtain ⟨y3, hy3⟩ : ∃ z : Int32, z = pj_fi G0 135 0 := ⟨_, rfl⟩
  have ey3 : (pj_fi G0 135 0).toInt = y3.toInt := by rw [hy3]
  have ry3 : (0 : Int) ≤ y3.toInt ∧ y3.toInt ≤ 6 := by rw [hy3]; exact hI.2.1 135 0 (0, 6) rfl
  obtain ⟨y4, hy4⟩ : ∃ z : Int32, z = pj_fi G0 135 5 := ⟨_, rfl⟩
  have ey4 : (pj_fi G0 135 5).toInt = y4.toInt := by rw [hy4]
  have ry4 : (0 : Int) ≤ y4.toInt ∧ y4.toInt ≤ 6 := by rw [hy4]; exact hI.2.1 135 5 (0, 6) rfl
  refine pj_X_of (fun r h => pj_R_to (G0, 2, [(0, .ref 21), (1, .ref 135)], [.ref 135, .ref 21], 0, 0) 2 3 (fun _ => rfl) h) ?_
  refine pj_X_of (fun r h => pj_T_gi hI rfl rfl h) ?_
  show pj_X _ _ G0 5 [(0, .ref 21), (1, .ref 135)] [.int (pj_fi G0 135 0), .ref 21] _
  rw [← hy3, pj_nm_e]
  refine pj_X_of (fun r h => pj_T_pf hI rfl rfl rfl h) ?_
  show pj_X _ _ (pj_wv G0 21 0 (.int y3)) 8 [(0, .ref 21), (1, .ref 135)] [] _
  obtain ⟨G5, hG5⟩ : ∃ H, H = pj_wv G0 21 0 (.int y3) := ⟨_, rfl⟩
  have iG5 : pj_Inv G5 := by rw [hG5]; exact pj_Inv_wi hI (ci := 8) rfl (fun q hq => by cases hq; exact ⟨by show (0 : Int) ≤ _; omega, by show _ ≤ (6 : Int); omega⟩)
  have kG5 : pj_kpt kc_68_21_135x G0 G5 := by rw [hG5]; exact pj_kpt_v hK rfl
  rw [← hG5]
  rw [pj_nm_e]
  refine pj_X_of (fun r h => pj_R_to (G5, 9, [(0, .ref 21), (1, .ref 135)], [.ref 135], 0, 0) 9 2 (fun _ => rfl) h) ?_
  refine pj_X_of (fun r h => pj_T_gr iG5 rfl rfl rfl h) ?_
  refine pj_X_of (fun r h => pj_R_to (G5, 14, [(0, .ref 21), (1, .ref 135)], [.ref 21, .int (Int32.ofInt 0), .ref 136], 0, 0) 14 3 (fun _ => rfl) h) ?_
  refine pj_X_of (fun r h => pj_T_gr iG5 rfl rfl rfl h) ?_
  refine pj_X_of (fun r h => pj_R_to (G5, 20, [(0, .ref 21), (1, .ref 135)], [.int ((Int8.ofInt 6).toInt32), .int (Int32.ofInt 0), .ref 22, .int (Int32.ofInt 0), .ref 136], 0, 0) 20 3 (fun _ => rfl) h) ?_
  refine pj_X_of (fun r h => pj_T_cp iG5 rfl rfl rfl rfl (by omega) (by omega) (by show _ = ((6 : Nat) : Int); omega) (Nat.le_of_ble_eq_true rfl) h) ?_
  show pj_X _ _ (pj_wc G5 136 22 6) 23 [(0, .ref 21), (1, .ref 135)] [] _
  obtain ⟨G6, hG6⟩ : ∃ H, H = pj_wc G5 136 22 6 := ⟨_, rfl⟩
  have iG6 : pj_Inv G6 := by rw [hG6]; exact pj_Inv_wc iG5 rfl rfl (fun q hq => by cases hq; exact ⟨rfl, by decide⟩) rfl
  have kG6 : pj_kpt kc_68_21_135x G0 G6 := by rw [hG6]; exact pj_kpt_c kG5 rfl
  rw [← hG6]
  rw [pj_nm_e]
  refine pj_X_of (fun r h => pj_R_to (G6, 24, [(0, .ref 21), (1, .ref 135)], [.ref 135], 0, 0) 24 2 (fun _ => rfl) h) ?_
  refine pj_X_of (fun r h => pj_T_gr iG6 rfl rfl rfl h) ?_
  refine pj_X_of (fun r h => pj_R_to (G6, 29, [(0, .ref 21), (1, .ref 135)], [.ref 21, .int (Int32.ofInt 0), .ref 137], 0, 0) 29 3 (fun _ => rfl) h) ?_
  refine pj_X_of (fun r h => pj_T_gr iG6 rfl rfl rfl h) ?_
  refine pj_X_of (fun r h => pj_R_to (G6, 35, [(0, .ref 21), (1, .ref 135)], [.int ((Int8.ofInt 6).toInt32), .int (Int32.ofInt 0), .ref 23, .int (Int32.ofInt 0), .ref 137], 0, 0) 35 3 (fun _ => rfl) h) ?_
  refine pj_X_of (fun r h => pj_T_cp iG6 rfl rfl rfl rfl (by omega) (by omega) (by show _ = ((6 : Nat) : Int); omega) (Nat.le_of_ble_eq_true rfl) h) ?_
  show pj_X _ _ (pj_wc G6 137 23 6) 38 [(0, .ref 21), (1, .ref 135)] [] _
  obtain ⟨G7, hG7⟩ : ∃ H, H = pj_wc G6 137 23 6 := ⟨_, rfl⟩
  have iG7 : pj_Inv G7 := by rw [hG7]; exact pj_Inv_wc iG6 rfl rfl (fun q hq => by cases hq) rfl
  have kG7 : pj_kpt kc_68_21_135x G0 G7 := by rw [hG7]; exact pj_kpt_c kG6 rfl
  rw [← hG7]
  rw [pj_nm_e]
  refine pj_X_of (fun r h => pj_R_to (G7, 39, [(0, .ref 21), (1, .ref 135)], [.ref 135], 0, 0) 39 2 (fun _ => rfl) h) ?_
  refine pj_X_of (fun r h => pj_T_gr iG7 rfl rfl rfl h) ?_
  refine pj_X_of (fun r h => pj_R_to (G7, 44, [(0, .ref 21), (1, .ref 135)], [.ref 21, .int (Int32.ofInt 0), .ref 138], 0, 0) 44 3 (fun _ => rfl) h) ?_
  refine pj_X_of (fun r h => pj_T_gr iG7 rfl rfl rfl h) ?_
  refine pj_X_of (fun r h => pj_R_to (G7, 50, [(0, .ref 21), (1, .ref 135)], [.int ((Int8.ofInt 6).toInt32), .int (Int32.ofInt 0), .ref 24, .int (Int32.ofInt 0), .ref 138], 0, 0) 50 3 (fun _ => rfl) h) ?_
  refine pj_X_of (fun r h => pj_T_cp iG7 rfl rfl rfl rfl (by omega) (by omega) (by show _ = ((6 : Nat) : Int); omega) (Nat.le_of_ble_eq_true rfl) h) ?_
  show pj_X _ _ (pj_wc G7 138 24 6) 53 [(0, .ref 21), (1, .ref 135)] [] _
  obtain ⟨G8, hG8⟩ : ∃ H, H = pj_wc G7 138 24 6 := ⟨_, rfl⟩
  have iG8 : pj_Inv G8 := by rw [hG8]; exact pj_Inv_wc iG7 rfl rfl (fun q hq => by cases hq) rfl
  have kG8 : pj_kpt kc_68_21_135x G0 G8 := by rw [hG8]; exact pj_kpt_c kG7 rfl
  rw [← hG8]
  rw [pj_nm_e]
  refine pj_X_of (fun r h => pj_R_to (G8, 54, [(0, .ref 21), (1, .ref 135)], [.ref 135], 0, 0) 54 2 (fun _ => rfl) h) ?_
  refine pj_X_of (fun r h => pj_T_gr iG8 rfl rfl rfl h) ?_
  refine pj_X_of (fun r h => pj_R_to (G8, 59, [(0, .ref 21), (1, .ref 135)], [.ref 21, .int (Int32.ofInt 0), .ref 139], 0, 0) 59 3 (fun _ => rfl) h) ?_
  refine pj_X_of (fun r h => pj_T_gr iG8 rfl rfl rfl h) ?_
  refine pj_X_of (fun r h => pj_R_to (G8, 65, [(0, .ref 21), (1, .ref 135)], [.int ((Int8.ofInt 6).toInt32), .int (Int32.ofInt 0), .ref 25, .int (Int32.ofInt 0), .ref 139], 0, 0) 65 3 (fun _ => rfl) h) ?_
  refine pj_X_of (fun r h => pj_T_cp iG8 rfl rfl rfl rfl (by omega) (by omega) (by show _ = ((6 : Nat) : Int); omega) (Nat.le_of_ble_eq_true rfl) h) ?_
  show pj_X _ _ (pj_wc G8 139 25 6) 68 [(0, .ref 21), (1, .ref 135)] [] _
  obtain ⟨G9, hG9⟩ : ∃ H, H = pj_wc G8 139 25 6 := ⟨_, rfl⟩
  have iG9 : pj_Inv G9 := by rw [hG9]; exact pj_Inv_wc iG8 rfl rfl (fun q hq => by cases hq) rfl
  have kG9 : pj_kpt kc_68_21_135x G0 G9 := by rw [hG9]; exact pj_kpt_c kG8 rfl
  rw [← hG9]
  rw [pj_nm_e]
  refine pj_X_of (fun r h => pj_R_to (G9, 70, [(0, .ref 21), (1, .ref 135)], [.ref 135, .ref 21], 0, 0) 70 3 (fun _ => rfl) h) ?_
  refine pj_X_of (fun r h => pj_T_gi iG9 rfl rfl h) ?_
  show pj_X _ _ G9 73 [(0, .ref 21), (1, .ref 135)] [.int (pj_fi G9 135 5), .ref 21] _
  rw [← hy4, pj_nm_e]
  rw [show pj_fi G9 135 5 = y4 from by rw [hG9, pj_fi_wc]; exact (by rw [hG8, pj_fi_wc]; exact (by rw [hG7, pj_fi_wc]; exact (by rw [hG6, pj_fi_wc]; exact (by rw [hG5, pj_fi_wv_ne _ _ _ _ _ _ (by decide)]; exact hy4.symm))))]
  refine pj_X_of (fun r h => pj_T_pf iG9 rfl rfl rfl h) ?_
  show pj_X _ _ (pj_wv G9 21 5 (.int y4)) 76 [(0, .ref 21), (1, .ref 135)] [] _
  obtain ⟨G10, hG10⟩ : ∃ H, H = pj_wv G9 21 5 (.int y4) := ⟨_, rfl⟩
  have iG10 : pj_Inv G10 := by rw [hG10]; exact pj_Inv_wi iG9 (ci := 8) rfl (fun q hq => by cases hq; exact ⟨by show (0 : Int) ≤ _; omega, by show _ ≤ (6 : Int); omega⟩)
  have kG10 : pj_kpt kc_68_21_135x G0 G10 := by rw [hG10]; exact pj_kpt_v kG9 rfl
  rw [← hG10]
  rw [pj_nm_e]
  refine pj_X_of (fun r h => pj_R_to (G10, 77, [(0, .ref 21), (1, .ref 135)], [.ref 135], 0, 0) 77 2 (fun _ => rfl) h) ?_
  refine pj_X_of (fun r h => pj_T_gr iG10 rfl rfl rfl h) ?_
  refine pj_X_of (fun r h => pj_R_to (G10, 82, [(0, .ref 21), (1, .ref 135)], [.ref 21, .int (Int32.ofInt 0), .ref 140], 0, 0) 82 3 (fun _ => rfl) h) ?_
  refine pj_X_of (fun r h => pj_T_gr iG10 rfl rfl rfl h) ?_
  refine pj_X_of (fun r h => pj_R_to (G10, 88, [(0, .ref 21), (1, .ref 135)], [.int ((Int8.ofInt 6).toInt32), .int (Int32.ofInt 0), .ref 26, .int (Int32.ofInt 0), .ref 140], 0, 0) 88 3 (fun _ => rfl) h) ?_
  refine pj_X_of (fun r h => pj_T_cp iG10 rfl rfl rfl rfl (by omega) (by omega) (by show _ = ((6 : Nat) : Int); omega) (Nat.le_of_ble_eq_true rfl) h) ?_
  show pj_X _ _ (pj_wc G10 140 26 6) 91 [(0, .ref 21), (1, .ref 135)] [] _
  obtain ⟨G11, hG11⟩ : ∃ H, H = pj_wc G10 140 26 6 := ⟨_, rfl⟩
  have iG11 : pj_Inv G11 := by rw [hG11]; exact pj_Inv_wc iG10 rfl rfl (fun q hq => by cases hq; exact ⟨rfl, by decide⟩) rfl
  have kG11 : pj_kpt kc_68_21_135x G0 G11 := by rw [hG11]; exact pj_kpt_c kG10 rfl
  rw [← hG11]
  rw [pj_nm_e]
  refine pj_X_of (fun r h => pj_R_to (G11, 93, [(0, .ref 21), (1, .ref 135)], [.ref 135, .ref 21], 0, 0) 93 3 (fun _ => rfl) h) ?_
  refine pj_X_of (fun r h => pj_T_gi iG11 rfl rfl h) ?_
  show pj_X _ _ G11 96 [(0, .ref 21), (1, .ref 135)] [.int (pj_fi G11 135 7), .ref 21] _
  obtain ⟨y12, hy12⟩ : ∃ z : Int32, z = pj_fi G11 135 7 := ⟨_, rfl⟩
  rw [← hy12]
  rw [pj_nm_e]
  have ey12 : (pj_fi G11 135 7).toInt = y12.toInt := by rw [hy12]
  refine pj_X_of (fun r h => pj_T_pf iG11 rfl rfl rfl h) ?_
  show pj_X _ _ (pj_wv G11 21 7 (.int y12)) 99 [(0, .ref 21), (1, .ref 135)] [] _
  obtain ⟨G13, hG13⟩ : ∃ H, H = pj_wv G11 21 7 (.int y12) := ⟨_, rfl⟩
  have iG13 : pj_Inv G13 := by rw [hG13]; exact pj_Inv_wi iG11 (ci := 8) rfl (fun q hq => by cases hq)
  have kG13 : pj_kpt kc_68_21_135x G0 G13 := by rw [hG13]; exact pj_kpt_v kG11 rfl
  rw [← hG13]
  rw [pj_nm_e]
  refine pj_X_of (fun r h => pj_R_to (G13, 101, [(0, .ref 21), (1, .ref 135)], [.ref 135, .ref 21], 0, 0) 101 3 (fun _ => rfl) h) ?_
  refine pj_X_of (fun r h => pj_T_gi iG13 rfl rfl h) ?_
  show pj_X _ _ G13 104 [(0, .ref 21), (1, .ref 135)] [.int (pj_fi G13 135 8), .ref 21] _
  obtain ⟨y14, hy14⟩ : ∃ z : Int32, z = pj_fi G13 135 8 := ⟨_, rfl⟩
  rw [← hy14]
  rw [pj_nm_e]
  have ey14 : (pj_fi G13 135 8).toInt = y14.toInt := by rw [hy14]
  refine pj_X_of (fun r h => pj_T_pf iG13 rfl rfl rfl h) ?_
  show pj_X _ _ (pj_wv G13 21 8 (.int y14)) 107 [(0, .ref 21), (1, .ref 135)] [] _
  obtain ⟨G15, hG15⟩ : ∃ H, H = pj_wv G13 21 8 (.int y14) := ⟨_, rfl⟩
  have iG15 : pj_Inv G15 := by rw [hG15]; exact pj_Inv_wi iG13 (ci := 8) rfl (fun q hq => by cases hq)
  have kG15 : pj_kpt kc_68_21_135x G0 G15 := by rw [hG15]; exact pj_kpt_v kG13 rfl
  rw [← hG15]
  rw [pj_nm_e]
  have q16 : (pj_fi G15 21 0).toInt = y3.toInt := by rw [show pj_fi G15 21 0 = y3 from by rw [hG15, pj_fi_wv_ne _ _ _ _ _ _ (by decide)]; exact (by rw [hG13, pj_fi_wv_ne _ _ _ _ _ _ (by decide)]; exact (by rw [hG11, pj_fi_wc]; exact (by rw [hG10, pj_fi_wv_ne _ _ _ _ _ _ (by decide)]; exact (by rw [hG9, pj_fi_wc]; exact (by rw [hG8, pj_fi_wc]; exact (by rw [hG7, pj_fi_wc]; exact (by rw [hG6, pj_fi_wc]; exact (by rw [hG5]; exact pj_fi_wi hI.1 (ci := 8) rfl _))))))))]
  have q17 : (pj_fi G15 21 5).toInt = y4.toInt := by rw [show pj_fi G15 21 5 = y4 from by rw [hG15, pj_fi_wv_ne _ _ _ _ _ _ (by decide)]; exact (by rw [hG13, pj_fi_wv_ne _ _ _ _ _ _ (by decide)]; exact (by rw [hG11, pj_fi_wc]; exact (by rw [hG10]; exact pj_fi_wi iG9.1 (ci := 8) rfl _)))]
  have q18 : (pj_fi G15 135 0).toInt = y3.toInt := by rw [show pj_fi G15 135 0 = y3 from by rw [hG15, pj_fi_wv_ne _ _ _ _ _ _ (by decide)]; exact (by rw [hG13, pj_fi_wv_ne _ _ _ _ _ _ (by decide)]; exact (by rw [hG11, pj_fi_wc]; exact (by rw [hG10, pj_fi_wv_ne _ _ _ _ _ _ (by decide)]; exact (by rw [hG9, pj_fi_wc]; exact (by rw [hG8, pj_fi_wc]; exact (by rw [hG7, pj_fi_wc]; exact (by rw [hG6, pj_fi_wc]; exact (by rw [hG5, pj_fi_wv_ne _ _ _ _ _ _ (by decide)]; exact hy3.symm))))))))]
  have q19 : (pj_fi G15 135 5).toInt = y4.toInt := by rw [show pj_fi G15 135 5 = y4 from by rw [hG15, pj_fi_wv_ne _ _ _ _ _ _ (by decide)]; exact (by rw [hG13, pj_fi_wv_ne _ _ _ _ _ _ (by decide)]; exact (by rw [hG11, pj_fi_wc]; exact (by rw [hG10, pj_fi_wv_ne _ _ _ _ _ _ (by decide)]; exact (by rw [hG9, pj_fi_wc]; exact (by rw [hG8, pj_fi_wc]; exact (by rw [hG7, pj_fi_wc]; exact (by rw [hG6, pj_fi_wc]; exact (by rw [hG5, pj_fi_wv_ne _ _ _ _ _ _ (by decide)]; exact hy4.symm))))))))]
  exact pj_X_rt rfl rfl ⟨rfl, iG15, kG15, (fun H hH => by subst hH; exact (by omega)), rfl⟩
theorem fr_68_21_135x (G0 : pj_G) (hI : pj_Inv G0) : pj_Inv (F_68_21_135x G0) ∧ pj_kpt kc_68_21_135x G0 (F_68_21_135x G0) ∧ ((pj_fi (F_68_21_135x G0) 21 0).toInt = (pj_fi G0 135 0).toInt ∧ (pj_fi (F_68_21_135x G0) 21 5).toInt = (pj_fi G0 135 5).toInt) := by
  obtain ⟨v, G', -, -, i, j, x, e⟩ := ct_68_21_135x G0 hI 
  rw [← e]
  exact ⟨i, j, x _ rfl⟩
def kc_68_21_141x : pj_KT := ([(21, 0), (21, 5), (21, 7), (21, 8)], [21, 22, 23, 24, 25, 26], [22, 23, 24, 25, 26])
noncomputable def F_68_21_141x (G0 : pj_G) : pj_G := pj_nm (pj_fi G0 141 0) (fun y3 => pj_nm (pj_wv G0 21 0 (.int y3)) (fun G5 => pj_nm (pj_wc G5 142 22 6) (fun G6 => pj_nm (pj_wc G6 143 23 6) (fun G7 => pj_nm (pj_wc G7 144 24 6) (fun G8 => pj_nm (pj_wc G8 145 25 6) (fun G9 => pj_nm (pj_fi G0 141 5) (fun y4 => pj_nm (pj_wv G9 21 5 (.int y4)) (fun G10 => pj_nm (pj_wc G10 146 26 6) (fun G11 => pj_nm (pj_fi G11 141 7) (fun y12 => pj_nm (pj_wv G11 21 7 (.int y12)) (fun G13 => pj_nm (pj_fi G13 141 8) (fun y14 => pj_nm (pj_wv G13 21 8 (.int y14)) (fun G15 => G15)))))))))))))
theorem F_68_21_141x_e (G0 : pj_G) : F_68_21_141x G0 = pj_nm (pj_fi G0 141 0) (fun y3 => pj_nm (pj_wv G0 21 0 (.int y3)) (fun G5 => pj_nm (pj_wc G5 142 22 6) (fun G6 => pj_nm (pj_wc G6 143 23 6) (fun G7 => pj_nm (pj_wc G7 144 24 6) (fun G8 => pj_nm (pj_wc G8 145 25 6) (fun G9 => pj_nm (pj_fi G0 141 5) (fun y4 => pj_nm (pj_wv G9 21 5 (.int y4)) (fun G10 => pj_nm (pj_wc G10 146 26 6) (fun G11 => pj_nm (pj_fi G11 141 7) (fun y12 => pj_nm (pj_wv G11 21 7 (.int y12)) (fun G13 => pj_nm (pj_fi G13 141 8) (fun y14 => pj_nm (pj_wv G13 21 8 (.int y14)) (fun G15 => G15))))))))))))) := rfl
theorem ct_68_21_141x (G0 : pj_G) (hI : pj_Inv G0) : pj_Y 1 68 [.ref 21, .ref 141] G0 (fun v' G' => v' = none ∧ pj_Inv G' ∧ pj_kpt kc_68_21_141x G0 G' ∧ (∀ H, G0 = H → ((pj_fi G' 21 0).toInt = (pj_fi H 141 0).toInt ∧ (pj_fi G' 21 5).toInt = (pj_fi H 141 5).toInt)) ∧ (G' = F_68_21_141x G0)) := by
  have c0_ : ((Int8.ofInt 6).toInt32).toInt = 6 := by decide
  have c1_ : (Int32.ofInt 0).toInt = 0 := by decide
  refine pj_Y_X (M := pj_m68) rfl rfl (Nat.le_of_ble_eq_true rfl) ?_
  have hK : pj_kpt kc_68_21_141x G0 G0 := pj_kpt_r _ _
  show pj_X _ _ G0 0 [(0, .ref 21), (1, .ref 141)] [] _
  rw [F_68_21_141x_e]
  obtain ⟨y1, hy1⟩ : ∃ z : Int32, z = pj_fi G0 21 0 := ⟨_, rfl⟩
  have ey1 : (pj_fi G0 21 0).toInt = y1.toInt := by rw [hy1]
  have ry1 : (0 : Int) ≤ y1.toInt ∧ y1.toInt ≤ 6 := by rw [hy1]; exact hI.2.1 21 0 (0, 6) rfl
  obtain ⟨y2, hy2⟩ : ∃ z : Int32, z = pj_fi G0 21 5 := ⟨_, rfl⟩
  have ey2 : (pj_fi G0 21 5).toInt = y2.toInt := by rw [hy2]
  have ry2 : (0 : Int) ≤ y2.toInt ∧ y2.toInt ≤ 6 := by rw [hy2]; exact hI.2.1 21 5 (0, 6) rfl
  obtain ⟨y3, hy3⟩ : ∃ z : Int32, z = pj_fi G0 141 0 := ⟨_, rfl⟩
  have ey3 : (pj_fi G0 141 0).toInt = y3.toInt := by rw [hy3]
  have ry3 : (0 : Int) ≤ y3.toInt ∧ y3.toInt ≤ 6 := by rw [hy3]; exact hI.2.1 141 0 (0, 6) rfl
  obtain ⟨y4, hy4⟩ : ∃ z : Int32, z = pj_fi G0 141 5 := ⟨_, rfl⟩
  have ey4 : (pj_fi G0 141 5).toInt = y4.toInt := by rw [hy4]
  have ry4 : (0 : Int) ≤ y4.toInt ∧ y4.toInt ≤ 6 := by rw [hy4]; exact hI.2.1 141 5 (0, 6) rfl
  refine pj_X_of (fun r h => pj_R_to (G0, 2, [(0, .ref 21), (1, .ref 141)], [.ref 141, .ref 21], 0, 0) 2 3 (fun _ => rfl) h) ?_
  refine pj_X_of (fun r h => pj_T_gi hI rfl rfl h) ?_
  show pj_X _ _ G0 5 [(0, .ref 21), (1, .ref 141)] [.int (pj_fi G0 141 0), .ref 21] _
  rw [← hy3, pj_nm_e]
  refine pj_X_of (fun r h => pj_T_pf hI rfl rfl rfl h) ?_
  show pj_X _ _ (pj_wv G0 21 0 (.int y3)) 8 [(0, .ref 21), (1, .ref 141)] [] _
  obtain ⟨G5, hG5⟩ : ∃ H, H = pj_wv G0 21 0 (.int y3) := ⟨_, rfl⟩
  have iG5 : pj_Inv G5 := by rw [hG5]; exact pj_Inv_wi hI (ci := 8) rfl (fun q hq => by cases hq; exact ⟨by show (0 : Int) ≤ _; omega, by show _ ≤ (6 : Int); omega⟩)
  have kG5 : pj_kpt kc_68_21_141x G0 G5 := by rw [hG5]; exact pj_kpt_v hK rfl
  rw [← hG5]
  rw [pj_nm_e]
  refine pj_X_of (fun r h => pj_R_to (G5, 9, [(0, .ref 21), (1, .ref 141)], [.ref 141], 0, 0) 9 2 (fun _ => rfl) h) ?_
  refine pj_X_of (fun r h => pj_T_gr iG5 rfl rfl rfl h) ?_
  refine pj_X_of (fun r h => pj_R_to (G5, 14, [(0, .ref 21), (1, .ref 141)], [.ref 21, .int (Int32.ofInt 0), .ref 142], 0, 0) 14 3 (fun _ => rfl) h) ?_
  refine pj_X_of (fun r h => pj_T_gr iG5 rfl rfl rfl h) ?_
  refine pj_X_of (fun r h => pj_R_to (G5, 20, [(0, .ref 21), (1, .ref 141)], [.int ((Int8.ofInt 6).toInt32), .int (Int32.ofInt 0), .ref 22, .int (Int32.ofInt 0), .ref 142], 0, 0) 20 3 (fun _ => rfl) h) ?_
  refine pj_X_of (fun r h => pj_T_cp iG5 rfl rfl rfl rfl (by omega) (by omega) (by show _ = ((6 : Nat) : Int); omega) (Nat.le_of_ble_eq_true rfl) h) ?_
  show pj_X _ _ (pj_wc G5 142 22 6) 23 [(0, .ref 21), (1, .ref 141)] [] _
  obtain ⟨G6, hG6⟩ : ∃ H, H = pj_wc G5 142 22 6 := ⟨_, rfl⟩
  have iG6 : pj_Inv G6 := by rw [hG6]; exact pj_Inv_wc iG5 rfl rfl (fun q hq => by cases hq; exact ⟨rfl, by decide⟩) rfl
  have kG6 : pj_kpt kc_68_21_141x G0 G6 := by rw [hG6]; exact pj_kpt_c kG5 rfl
  rw [← hG6]
  rw [pj_nm_e]
  refine pj_X_of (fun r h => pj_R_to (G6, 24, [(0, .ref 21), (1, .ref 141)], [.ref 141], 0, 0) 24 2 (fun _ => rfl) h) ?_
  refine pj_X_of (fun r h => pj_T_gr iG6 rfl rfl rfl h) ?_
  refine pj_X_of (fun r h => pj_R_to (G6, 29, [(0, .ref 21), (1, .ref 141)], [.ref 21, .int (Int32.ofInt 0), .ref 143], 0, 0) 29 3 (fun _ => rfl) h) ?_
  refine pj_X_of (fun r h => pj_T_gr iG6 rfl rfl rfl h) ?_
  refine pj_X_of (fun r h => pj_R_to (G6, 35, [(0, .ref 21), (1, .ref 141)], [.int ((Int8.ofInt 6).toInt32), .int (Int32.ofInt 0), .ref 23, .int (Int32.ofInt 0), .ref 143], 0, 0) 35 3 (fun _ => rfl) h) ?_
  refine pj_X_of (fun r h => pj_T_cp iG6 rfl rfl rfl rfl (by omega) (by omega) (by show _ = ((6 : Nat) : Int); omega) (Nat.le_of_ble_eq_true rfl) h) ?_
  show pj_X _ _ (pj_wc G6 143 23 6) 38 [(0, .ref 21), (1, .ref 141)] [] _
  obtain ⟨G7, hG7⟩ : ∃ H, H = pj_wc G6 143 23 6 := ⟨_, rfl⟩
  have iG7 : pj_Inv G7 := by rw [hG7]; exact pj_Inv_wc iG6 rfl rfl (fun q hq => by cases hq) rfl
  have kG7 : pj_kpt kc_68_21_141x G0 G7 := by rw [hG7]; exact pj_kpt_c kG6 rfl
  rw [← hG7]
  rw [pj_nm_e]
  refine pj_X_of (fun r h => pj_R_to (G7, 39, [(0, .ref 21), (1, .ref 141)], [.ref 141], 0, 0) 39 2 (fun _ => rfl) h) ?_
  refine pj_X_of (fun r h => pj_T_gr iG7 rfl rfl rfl h) ?_
  refine pj_X_of (fun r h => pj_R_to (G7, 44, [(0, .ref 21), (1, .ref 141)], [.ref 21, .int (Int32.ofInt 0), .ref 144], 0, 0) 44 3 (fun _ => rfl) h) ?_
  refine pj_X_of (fun r h => pj_T_gr iG7 rfl rfl rfl h) ?_
  refine pj_X_of (fun r h => pj_R_to (G7, 50, [(0, .ref 21), (1, .ref 141)], [.int ((Int8.ofInt 6).toInt32), .int (Int32.ofInt 0), .ref 24, .int (Int32.ofInt 0), .ref 144], 0, 0) 50 3 (fun _ => rfl) h) ?_
  refine pj_X_of (fun r h => pj_T_cp iG7 rfl rfl rfl rfl (by omega) (by omega) (by show _ = ((6 : Nat) : Int); omega) (Nat.le_of_ble_eq_true rfl) h) ?_
  show pj_X _ _ (pj_wc G7 144 24 6) 53 [(0, .ref 21), (1, .ref 141)] [] _
  obtain ⟨G8, hG8⟩ : ∃ H, H = pj_wc G7 144 24 6 := ⟨_, rfl⟩
  have iG8 : pj_Inv G8 := by rw [hG8]; exact pj_Inv_wc iG7 rfl rfl (fun q hq => by cases hq) rfl
  have kG8 : pj_kpt kc_68_21_141x G0 G8 := by rw [hG8]; exact pj_kpt_c kG7 rfl
  rw [← hG8]
  rw [pj_nm_e]
  refine pj_X_of (fun r h => pj_R_to (G8, 54, [(0, .ref 21), (1, .ref 141)], [.ref 141], 0, 0) 54 2 (fun _ => rfl) h) ?_
  refine pj_X_of (fun r h => pj_T_gr iG8 rfl rfl rfl h) ?_
  refine pj_X_of (fun r h => pj_R_to (G8, 59, [(0, .ref 21), (1, .ref 141)], [.ref 21, .int (Int32.ofInt 0), .ref 145], 0, 0) 59 3 (fun _ => rfl) h) ?_
  refine pj_X_of (fun r h => pj_T_gr iG8 rfl rfl rfl h) ?_
  refine pj_X_of (fun r h => pj_R_to (G8, 65, [(0, .ref 21), (1, .ref 141)], [.int ((Int8.ofInt 6).toInt32), .int (Int32.ofInt 0), .ref 25, .int (Int32.ofInt 0), .ref 145], 0, 0) 65 3 (fun _ => rfl) h) ?_
  refine pj_X_of (fun r h => pj_T_cp iG8 rfl rfl rfl rfl (by omega) (by omega) (by show _ = ((6 : Nat) : Int); omega) (Nat.le_of_ble_eq_true rfl) h) ?_
  show pj_X _ _ (pj_wc G8 145 25 6) 68 [(0, .ref 21), (1, .ref 141)] [] _
  obtain ⟨G9, hG9⟩ : ∃ H, H = pj_wc G8 145 25 6 := ⟨_, rfl⟩
  have iG9 : pj_Inv G9 := by rw [hG9]; exact pj_Inv_wc iG8 rfl rfl (fun q hq => by cases hq) rfl
  have kG9 : pj_kpt kc_68_21_141x G0 G9 := by rw [hG9]; exact pj_kpt_c kG8 rfl
  rw [← hG9]
  rw [pj_nm_e]
  refine pj_X_of (fun r h => pj_R_to (G9, 70, [(0, .ref 21), (1, .ref 141)], [.ref 141, .ref 21], 0, 0) 70 3 (fun _ => rfl) h) ?_
  refine pj_X_of (fun r h => pj_T_gi iG9 rfl rfl h) ?_
  show pj_X _ _ G9 73 [(0, .ref 21), (1, .ref 141)] [.int (pj_fi G9 141 5), .ref 21] _
  rw [← hy4, pj_nm_e]
  rw [show pj_fi G9 141 5 = y4 from by rw [hG9, pj_fi_wc]; exact (by rw [hG8, pj_fi_wc]; exact (by rw [hG7, pj_fi_wc]; exact (by rw [hG6, pj_fi_wc]; exact (by rw [hG5, pj_fi_wv_ne _ _ _ _ _ _ (by decide)]; exact hy4.symm))))]
  refine pj_X_of (fun r h => pj_T_pf iG9 rfl rfl rfl h) ?_
  show pj_X _ _ (pj_wv G9 21 5 (.int y4)) 76 [(0, .ref 21), (1, .ref 141)] [] _
  obtain ⟨G10, hG10⟩ : ∃ H, H = pj_wv G9 21 5 (.int y4) := ⟨_, rfl⟩
  have iG10 : pj_Inv G10 := by rw [hG10]; exact pj_Inv_wi iG9 (ci := 8) rfl (fun q hq => by cases hq; exact ⟨by show (0 : Int) ≤ _; omega, by show _ ≤ (6 : Int); omega⟩)
  have kG10 : pj_kpt kc_68_21_141x G0 G10 := by rw [hG10]; exact pj_kpt_v kG9 rfl
  rw [← hG10]
  rw [pj_nm_e]
  refine pj_X_of (fun r h => pj_R_to (G10, 77, [(0, .ref 21), (1, .ref 141)], [.ref 141], 0, 0) 77 2 (fun _ => rfl) h) ?_
  refine pj_X_of (fun r h => pj_T_gr iG10 rfl rfl rfl h) ?_
  refine pj_X_of (fun r h => pj_R_to (G10, 82, [(0, .ref 21), (1, .ref 141)], [.ref 21, .int (Int32.ofInt 0), .ref 146], 0, 0) 82 3 (fun _ => rfl) h) ?_
  refine pj_X_of (fun r h => pj_T_gr iG10 rfl rfl rfl h) ?_
  refine pj_X_of (fun r h => pj_R_to (G10, 88, [(0, .ref 21), (1, .ref 141)], [.int ((Int8.ofInt 6).toInt32), .int (Int32.ofInt 0), .ref 26, .int (Int32.ofInt 0), .ref 146], 0, 0) 88 3 (fun _ => rfl) h) ?_
  refine pj_X_of (fun r h => pj_T_cp iG10 rfl rfl rfl rfl (by omega) (by omega) (by show _ = ((6 : Nat) : Int); omega) (Nat.le_of_ble_eq_true rfl) h) ?_
  show pj_X _ _ (pj_wc G10 146 26 6) 91 [(0, .ref 21), (1, .ref 141)] [] _
  obtain ⟨G11, hG11⟩ : ∃ H, H = pj_wc G10 146 26 6 := ⟨_, rfl⟩
  have iG11 : pj_Inv G11 := by rw [hG11]; exact pj_Inv_wc iG10 rfl rfl (fun q hq => by cases hq; exact ⟨rfl, by decide⟩) rfl
  have kG11 : pj_kpt kc_68_21_141x G0 G11 := by rw [hG11]; exact pj_kpt_c kG10 rfl
  rw [← hG11]
  rw [pj_nm_e]
  refine pj_X_of (fun r h => pj_R_to (G11, 93, [(0, .ref 21), (1, .ref 141)], [.ref 141, .ref 21], 0, 0) 93 3 (fun _ => rfl) h) ?_
  refine pj_X_of (fun r h => pj_T_gi iG11 rfl rfl h) ?_
  show pj_X _ _ G11 96 [(0, .ref 21), (1, .ref 141)] [.int (pj_fi G11 141 7), .ref 21] _
  obtain ⟨y12, hy12⟩ : ∃ z : Int32, z = pj_fi G11 141 7 := ⟨_, rfl⟩
  rw [← hy12]
  rw [pj_nm_e]
  have ey12 : (pj_fi G11 141 7).toInt = y12.toInt := by rw [hy12]
  refine pj_X_of (fun r h => pj_T_pf iG11 rfl rfl rfl h) ?_
  show pj_X _ _ (pj_wv G11 21 7 (.int y12)) 99 [(0, .ref 21), (1, .ref 141)] [] _
  obtain ⟨G13, hG13⟩ : ∃ H, H = pj_wv G11 21 7 (.int y12) := ⟨_, rfl⟩
  have iG13 : pj_Inv G13 := by rw [hG13]; exact pj_Inv_wi iG11 (ci := 8) rfl (fun q hq => by cases hq)
  have kG13 : pj_kpt kc_68_21_141x G0 G13 := by rw [hG13]; exact pj_kpt_v kG11 rfl
  rw [← hG13]
  rw [pj_nm_e]
  refine pj_X_of (fun r h => pj_R_to (G13, 101, [(0, .ref 21), (1, .ref 141)], [.ref 141, .ref 21], 0, 0) 101 3 (fun _ => rfl) h) ?_
  refine pj_X_of (fun r h => pj_T_gi iG13 rfl rfl h) ?_
  show pj_X _ _ G13 104 [(0, .ref 21), (1, .ref 141)] [.int (pj_fi G13 141 8), .ref 21] _
  obtain ⟨y14, hy14⟩ : ∃ z : Int32, z = pj_fi G13 141 8 := ⟨_, rfl⟩
  rw [← hy14]
  rw [pj_nm_e]
  have ey14 : (pj_fi G13 141 8).toInt = y14.toInt := by rw [hy14]
  refine pj_X_of (fun r h => pj_T_pf iG13 rfl rfl rfl h) ?_
  show pj_X _ _ (pj_wv G13 21 8 (.int y14)) 107 [(0, .ref 21), (1, .ref 141)] [] _
  obtain ⟨G15, hG15⟩ : ∃ H, H = pj_wv G13 21 8 (.int y14) := ⟨_, rfl⟩
  have iG15 : pj_Inv G15 := by rw [hG15]; exact pj_Inv_wi iG13 (ci := 8) rfl (fun q hq => by cases hq)
  have kG15 : pj_kpt kc_68_21_141x G0 G15 := by rw [hG15]; exact pj_kpt_v kG13 rfl
  rw [← hG15]
  rw [pj_nm_e]
  have q16 : (pj_fi G15 21 0).toInt = y3.toInt := by rw [show pj_fi G15 21 0 = y3 from by rw [hG15, pj_fi_wv_ne _ _ _ _ _ _ (by decide)]; exact (by rw [hG13, pj_fi_wv_ne _ _ _ _ _ _ (by decide)]; exact (by rw [hG11, pj_fi_wc]; exact (by rw [hG10, pj_fi_wv_ne _ _ _ _ _ _ (by decide)]; exact (by rw [hG9, pj_fi_wc]; exact (by rw [hG8, pj_fi_wc]; exact (by rw [hG7, pj_fi_wc]; exact (by rw [hG6, pj_fi_wc]; exact (by rw [hG5]; exact pj_fi_wi hI.1 (ci := 8) rfl _))))))))]
  have q17 : (pj_fi G15 21 5).toInt = y4.toInt := by rw [show pj_fi G15 21 5 = y4 from by rw [hG15, pj_fi_wv_ne _ _ _ _ _ _ (by decide)]; exact (by rw [hG13, pj_fi_wv_ne _ _ _ _ _ _ (by decide)]; exact (by rw [hG11, pj_fi_wc]; exact (by rw [hG10]; exact pj_fi_wi iG9.1 (ci := 8) rfl _)))]
  have q18 : (pj_fi G15 141 0).toInt = y3.toInt := by rw [show pj_fi G15 141 0 = y3 from by rw [hG15, pj_fi_wv_ne _ _ _ _ _ _ (by decide)]; exact (by rw [hG13, pj_fi_wv_ne _ _ _ _ _ _ (by decide)]; exact (by rw [hG11, pj_fi_wc]; exact (by rw [hG10, pj_fi_wv_ne _ _ _ _ _ _ (by decide)]; exact (by rw [hG9, pj_fi_wc]; exact (by rw [hG8, pj_fi_wc]; exact (by rw [hG7, pj_fi_wc]; exact (by rw [hG6, pj_fi_wc]; exact (by rw [hG5, pj_fi_wv_ne _ _ _ _ _ _ (by decide)]; exact hy3.symm))))))))]
  have q19 : (pj_fi G15 141 5).toInt = y4.toInt := by rw [show pj_fi G15 141 5 = y4 from by rw [hG15, pj_fi_wv_ne _ _ _ _ _ _ (by decide)]; exact (by rw [hG13, pj_fi_wv_ne _ _ _ _ _ _ (by decide)]; exact (by rw [hG11, pj_fi_wc]; exact (by rw [hG10, pj_fi_wv_ne _ _ _ _ _ _ (by decide)]; exact (by rw [hG9, pj_fi_wc]; exact (by rw [hG8, pj_fi_wc]; exact (by rw [hG7, pj_fi_wc]; exact (by rw [hG6, pj_fi_wc]; exact (by rw [hG5, pj_fi_wv_ne _ _ _ _ _ _ (by decide)]; exact hy4.symm))))))))]
  exact pj_X_rt rfl rfl ⟨rfl, iG15, kG15, (fun H hH => by subst hH; exact (by omega)), rfl⟩
theorem fr_68_21_141x (G0 : pj_G) (hI : pj_Inv G0) : pj_Inv (F_68_21_141x G0) ∧ pj_kpt kc_68_21_141x G0 (F_68_21_141x G0) ∧ ((pj_fi (F_68_21_141x G0) 21 0).toInt = (pj_fi G0 141 0).toInt ∧ (pj_fi (F_68_21_141x G0) 21 5).toInt = (pj_fi G0 141 5).toInt) := by
  obtain ⟨v, G', -, -, i, j, x, e⟩ := ct_68_21_141x G0 hI 
  rw [← e]
  exact ⟨i, j, x _ rfl⟩
def kc_68_21_147x : pj_KT := ([(21, 0), (21, 5), (21, 7), (21, 8)], [21, 22, 23, 24, 25, 26], [22, 23, 24, 25, 26])
noncomputable def F_68_21_147x (G0 : pj_G) : pj_G := pj_nm (pj_fi G0 147 0) (fun y3 => pj_nm (pj_wv G0 21 0 (.int y3)) (fun G5 => pj_nm (pj_wc G5 148 22 6) (fun G6 => pj_nm (pj_wc G6 149 23 6) (fun G7 => pj_nm (pj_wc G7 150 24 6) (fun G8 => pj_nm (pj_wc G8 151 25 6) (fun G9 => pj_nm (pj_fi G0 147 5) (fun y4 => pj_nm (pj_wv G9 21 5 (.int y4)) (fun G10 => pj_nm (pj_wc G10 152 26 6) (fun G11 => pj_nm (pj_fi G11 147 7) (fun y12 => pj_nm (pj_wv G11 21 7 (.int y12)) (fun G13 => pj_nm (pj_fi G13 147 8) (fun y14 => pj_nm (pj_wv G13 21 8 (.int y14)) (fun G15 => G15)))))))))))))
theorem F_68_21_147x_e (G0 : pj_G) : F_68_21_147x G0 = pj_nm (pj_fi G0 147 0) (fun y3 => pj_nm (pj_wv G0 21 0 (.int y3)) (fun G5 => pj_nm (pj_wc G5 148 22 6) (fun G6 => pj_nm (pj_wc G6 149 23 6) (fun G7 => pj_nm (pj_wc G7 150 24 6) (fun G8 => pj_nm (pj_wc G8 151 25 6) (fun G9 => pj_nm (pj_fi G0 147 5) (fun y4 => pj_nm (pj_wv G9 21 5 (.int y4)) (fun G10 => pj_nm (pj_wc G10 152 26 6) (fun G11 => pj_nm (pj_fi G11 147 7) (fun y12 => pj_nm (pj_wv G11 21 7 (.int y12)) (fun G13 => pj_nm (pj_fi G13 147 8) (fun y14 => pj_nm (pj_wv G13 21 8 (.int y14)) (fun G15 => G15))))))))))))) := rfl
theorem ct_68_21_147x (G0 : pj_G) (hI : pj_Inv G0) : pj_Y 1 68 [.ref 21, .ref 147] G0 (fun v' G' => v' = none ∧ pj_Inv G' ∧ pj_kpt kc_68_21_147x G0 G' ∧ (∀ H, G0 = H → ((pj_fi G' 21 0).toInt = (pj_fi H 147 0).toInt ∧ (pj_fi G' 21 5).toInt = (pj_fi H 147 5).toInt)) ∧ (G' = F_68_21_147x G0)) := by
  have c0_ : ((Int8.ofInt 6).toInt32).toInt = 6 := by decide
  have c1_ : (Int32.ofInt 0).toInt = 0 := by decide
  refine pj_Y_X (M := pj_m68) rfl rfl (Nat.le_of_ble_eq_true rfl) ?_
  have hK : pj_kpt kc_68_21_147x G0 G0 := pj_kpt_r _ _
  show pj_X _ _ G0 0 [(0, .ref 21), (1, .ref 147)] [] _
  rw [F_68_21_147x_e]
  obtain ⟨y1, hy1⟩ : ∃ z : Int32, z = pj_fi G0 21 0 := ⟨_, rfl⟩
  have ey1 : (pj_fi G0 21 0).toInt = y1.toInt := by rw [hy1]
  have ry1 : (0 : Int) ≤ y1.toInt ∧ y1.toInt ≤ 6 := by rw [hy1]; exact hI.2.1 21 0 (0, 6) rfl
  obtain ⟨y2, hy2⟩ : ∃ z : Int32, z = pj_fi G0 21 5 := ⟨_, rfl⟩
  have ey2 : (pj_fi G0 21 5).toInt = y2.toInt := by rw [hy2]
  have ry2 : (0 : Int) ≤ y2.toInt ∧ y2.toInt ≤ 6 := by rw [hy2]; exact hI.2.1 21 5 (0, 6) rfl
  obtain ⟨y3, hy3⟩ : ∃ z : Int32, z = pj_fi G0 147 0 := ⟨_, rfl⟩
  have ey3 : (pj_fi G0 147 0).toInt = y3.toInt := by rw [hy3]
  have ry3 : (0 : Int) ≤ y3.toInt ∧ y3.toInt ≤ 6 := by rw [hy3]; exact hI.2.1 147 0 (0, 6) rfl
  obtain ⟨y4, hy4⟩ : ∃ z : Int32, z = pj_fi G0 147 5 := ⟨_, rfl⟩
  have ey4 : (pj_fi G0 147 5).toInt = y4.toInt := by rw [hy4]
  have ry4 : (0 : Int) ≤ y4.toInt ∧ y4.toInt ≤ 6 := by rw [hy4]; exact hI.2.1 147 5 (0, 6) rfl
  refine pj_X_of (fun r h => pj_R_to (G0, 2, [(0, .ref 21), (1, .ref 147)], [.ref 147, .ref 21], 0, 0) 2 3 (fun _ => rfl) h) ?_
  refine pj_X_of (fun r h => pj_T_gi hI rfl rfl h) ?_
  show pj_X _ _ G0 5 [(0, .ref 21), (1, .ref 147)] [.int (pj_fi G0 147 0), .ref 21] _
  rw [← hy3, pj_nm_e]
  refine pj_X_of (fun r h => pj_T_pf hI rfl rfl rfl h) ?_
  show pj_X _ _ (pj_wv G0 21 0 (.int y3)) 8 [(0, .ref 21), (1, .ref 147)] [] _
  obtain ⟨G5, hG5⟩ : ∃ H, H = pj_wv G0 21 0 (.int y3) := ⟨_, rfl⟩
  have iG5 : pj_Inv G5 := by rw [hG5]; exact pj_Inv_wi hI (ci := 8) rfl (fun q hq => by cases hq; exact ⟨by show (0 : Int) ≤ _; omega, by show _ ≤ (6 : Int); omega⟩)
  have kG5 : pj_kpt kc_68_21_147x G0 G5 := by rw [hG5]; exact pj_kpt_v hK rfl
  rw [← hG5]
  rw [pj_nm_e]
  refine pj_X_of (fun r h => pj_R_to (G5, 9, [(0, .ref 21), (1, .ref 147)], [.ref 147], 0, 0) 9 2 (fun _ => rfl) h) ?_
  refine pj_X_of (fun r h => pj_T_gr iG5 rfl rfl rfl h) ?_
  refine pj_X_of (fun r h => pj_R_to (G5, 14, [(0, .ref 21), (1, .ref 147)], [.ref 21, .int (Int32.ofInt 0), .ref 148], 0, 0) 14 3 (fun _ => rfl) h) ?_
  refine pj_X_of (fun r h => pj_T_gr iG5 rfl rfl rfl h) ?_
  refine pj_X_of (fun r h => pj_R_to (G5, 20, [(0, .ref 21), (1, .ref 147)], [.int ((Int8.ofInt 6).toInt32), .int (Int32.ofInt 0), .ref 22, .int (Int32.ofInt 0), .ref 148], 0, 0) 20 3 (fun _ => rfl) h) ?_
  refine pj_X_of (fun r h => pj_T_cp iG5 rfl rfl rfl rfl (by omega) (by omega) (by show _ = ((6 : Nat) : Int); omega) (Nat.le_of_ble_eq_true rfl) h) ?_
  show pj_X _ _ (pj_wc G5 148 22 6) 23 [(0, .ref 21), (1, .ref 147)] [] _
  obtain ⟨G6, hG6⟩ : ∃ H, H = pj_wc G5 148 22 6 := ⟨_, rfl⟩
  have iG6 : pj_Inv G6 := by rw [hG6]; exact pj_Inv_wc iG5 rfl rfl (fun q hq => by cases hq; exact ⟨rfl, by decide⟩) rfl
  have kG6 : pj_kpt kc_68_21_147x G0 G6 := by rw [hG6]; exact pj_kpt_c kG5 rfl
  rw [← hG6]
  rw [pj_nm_e]
  refine pj_X_of (fun r h => pj_R_to (G6, 24, [(0, .ref 21), (1, .ref 147)], [.ref 147], 0, 0) 24 2 (fun _ => rfl) h) ?_
  refine pj_X_of (fun r h => pj_T_gr iG6 rfl rfl rfl h) ?_
  refine pj_X_of (fun r h => pj_R_to (G6, 29, [(0, .ref 21), (1, .ref 147)], [.ref 21, .int (Int32.ofInt 0), .ref 149], 0, 0) 29 3 (fun _ => rfl) h) ?_
  refine pj_X_of (fun r h => pj_T_gr iG6 rfl rfl rfl h) ?_
  refine pj_X_of (fun r h => pj_R_to (G6, 35, [(0, .ref 21), (1, .ref 147)], [.int ((Int8.ofInt 6).toInt32), .int (Int32.ofInt 0), .ref 23, .int (Int32.ofInt 0), .ref 149], 0, 0) 35 3 (fun _ => rfl) h) ?_
  refine pj_X_of (fun r h => pj_T_cp iG6 rfl rfl rfl rfl (by omega) (by omega) (by show _ = ((6 : Nat) : Int); omega) (Nat.le_of_ble_eq_true rfl) h) ?_
  show pj_X _ _ (pj_wc G6 149 23 6) 38 [(0, .ref 21), (1, .ref 147)] [] _
  obtain ⟨G7, hG7⟩ : ∃ H, H = pj_wc G6 149 23 6 := ⟨_, rfl⟩
  have iG7 : pj_Inv G7 := by rw [hG7]; exact pj_Inv_wc iG6 rfl rfl (fun q hq => by cases hq) rfl
  have kG7 : pj_kpt kc_68_21_147x G0 G7 := by rw [hG7]; exact pj_kpt_c kG6 rfl
  rw [← hG7]
  rw [pj_nm_e]
  refine pj_X_of (fun r h => pj_R_to (G7, 39, [(0, .ref 21), (1, .ref 147)], [.ref 147], 0, 0) 39 2 (fun _ => rfl) h) ?_
  refine pj_X_of (fun r h => pj_T_gr iG7 rfl rfl rfl h) ?_
  refine pj_X_of (fun r h => pj_R_to (G7, 44, [(0, .ref 21), (1, .ref 147)], [.ref 21, .int (Int32.ofInt 0), .ref 150], 0, 0) 44 3 (fun _ => rfl) h) ?_
  refine pj_X_of (fun r h => pj_T_gr iG7 rfl rfl rfl h) ?_
  refine pj_X_of (fun r h => pj_R_to (G7, 50, [(0, .ref 21), (1, .ref 147)], [.int ((Int8.ofInt 6).toInt32), .int (Int32.ofInt 0), .ref 24, .int (Int32.ofInt 0), .ref 150], 0, 0) 50 3 (fun _ => rfl) h) ?_
  refine pj_X_of (fun r h => pj_T_cp iG7 rfl rfl rfl rfl (by omega) (by omega) (by show _ = ((6 : Nat) : Int); omega) (Nat.le_of_ble_eq_true rfl) h) ?_
  show pj_X _ _ (pj_wc G7 150 24 6) 53 [(0, .ref 21), (1, .ref 147)] [] _
  obtain ⟨G8, hG8⟩ : ∃ H, H = pj_wc G7 150 24 6 := ⟨_, rfl⟩
  have iG8 : pj_Inv G8 := by rw [hG8]; exact pj_Inv_wc iG7 rfl rfl (fun q hq => by cases hq) rfl
  have kG8 : pj_kpt kc_68_21_147x G0 G8 := by rw [hG8]; exact pj_kpt_c kG7 rfl
  rw [← hG8]
  rw [pj_nm_e]
  refine pj_X_of (fun r h => pj_R_to (G8, 54, [(0, .ref 21), (1, .ref 147)], [.ref 147], 0, 0) 54 2 (fun _ => rfl) h) ?_
  refine pj_X_of (fun r h => pj_T_gr iG8 rfl rfl rfl h) ?_
  refine pj_X_of (fun r h => pj_R_to (G8, 59, [(0, .ref 21), (1, .ref 147)], [.ref 21, .int (Int32.ofInt 0), .ref 151], 0, 0) 59 3 (fun _ => rfl) h) ?_
  refine pj_X_of (fun r h => pj_T_gr iG8 rfl rfl rfl h) ?_
  refine pj_X_of (fun r h => pj_R_to (G8, 65, [(0, .ref 21), (1, .ref 147)], [.int ((Int8.ofInt 6).toInt32), .int (Int32.ofInt 0), .ref 25, .int (Int32.ofInt 0), .ref 151], 0, 0) 65 3 (fun _ => rfl) h) ?_
  refine pj_X_of (fun r h => pj_T_cp iG8 rfl rfl rfl rfl (by omega) (by omega) (by show _ = ((6 : Nat) : Int); omega) (Nat.le_of_ble_eq_true rfl) h) ?_
  show pj_X _ _ (pj_wc G8 151 25 6) 68 [(0, .ref 21), (1, .ref 147)] [] _
  obtain ⟨G9, hG9⟩ : ∃ H, H = pj_wc G8 151 25 6 := ⟨_, rfl⟩
  have iG9 : pj_Inv G9 := by rw [hG9]; exact pj_Inv_wc iG8 rfl rfl (fun q hq => by cases hq) rfl
  have kG9 : pj_kpt kc_68_21_147x G0 G9 := by rw [hG9]; exact pj_kpt_c kG8 rfl
  rw [← hG9]
  rw [pj_nm_e]
  refine pj_X_of (fun r h => pj_R_to (G9, 70, [(0, .ref 21), (1, .ref 147)], [.ref 147, .ref 21], 0, 0) 70 3 (fun _ => rfl) h) ?_
  refine pj_X_of (fun r h => pj_T_gi iG9 rfl rfl h) ?_
  show pj_X _ _ G9 73 [(0, .ref 21), (1, .ref 147)] [.int (pj_fi G9 147 5), .ref 21] _
  rw [← hy4, pj_nm_e]
  rw [show pj_fi G9 147 5 = y4 from by rw [hG9, pj_fi_wc]; exact (by rw [hG8, pj_fi_wc]; exact (by rw [hG7, pj_fi_wc]; exact (by rw [hG6, pj_fi_wc]; exact (by rw [hG5, pj_fi_wv_ne _ _ _ _ _ _ (by decide)]; exact hy4.symm))))]
  refine pj_X_of (fun r h => pj_T_pf iG9 rfl rfl rfl h) ?_
  show pj_X _ _ (pj_wv G9 21 5 (.int y4)) 76 [(0, .ref 21), (1, .ref 147)] [] _
  obtain ⟨G10, hG10⟩ : ∃ H, H = pj_wv G9 21 5 (.int y4) := ⟨_, rfl⟩
  have iG10 : pj_Inv G10 := by rw [hG10]; exact pj_Inv_wi iG9 (ci := 8) rfl (fun q hq => by cases hq; exact ⟨by show (0 : Int) ≤ _; omega, by show _ ≤ (6 : Int); omega⟩)
  have kG10 : pj_kpt kc_68_21_147x G0 G10 := by rw [hG10]; exact pj_kpt_v kG9 rfl
  rw [← hG10]
  rw [pj_nm_e]
  refine pj_X_of (fun r h => pj_R_to (G10, 77, [(0, .ref 21), (1, .ref 147)], [.ref 147], 0, 0) 77 2 (fun _ => rfl) h) ?_
  refine pj_X_of (fun r h => pj_T_gr iG10 rfl rfl rfl h) ?_
  refine pj_X_of (fun r h => pj_R_to (G10, 82, [(0, .ref 21), (1, .ref 147)], [.ref 21, .int (Int32.ofInt 0), .ref 152], 0, 0) 82 3 (fun _ => rfl) h) ?_
  refine pj_X_of (fun r h => pj_T_gr iG10 rfl rfl rfl h) ?_
  refine pj_X_of (fun r h => pj_R_to (G10, 88, [(0, .ref 21), (1, .ref 147)], [.int ((Int8.ofInt 6).toInt32), .int (Int32.ofInt 0), .ref 26, .int (Int32.ofInt 0), .ref 152], 0, 0) 88 3 (fun _ => rfl) h) ?_
  refine pj_X_of (fun r h => pj_T_cp iG10 rfl rfl rfl rfl (by omega) (by omega) (by show _ = ((6 : Nat) : Int); omega) (Nat.le_of_ble_eq_true rfl) h) ?_
  show pj_X _ _ (pj_wc G10 152 26 6) 91 [(0, .ref 21), (1, .ref 147)] [] _
  obtain ⟨G11, hG11⟩ : ∃ H, H = pj_wc G10 152 26 6 := ⟨_, rfl⟩
  have iG11 : pj_Inv G11 := by rw [hG11]; exact pj_Inv_wc iG10 rfl rfl (fun q hq => by cases hq; exact ⟨rfl, by decide⟩) rfl
  have kG11 : pj_kpt kc_68_21_147x G0 G11 := by rw [hG11]; exact pj_kpt_c kG10 rfl
  rw [← hG11]
  rw [pj_nm_e]
  refine pj_X_of (fun r h => pj_R_to (G11, 93, [(0, .ref 21), (1, .ref 147)], [.ref 147, .ref 21], 0, 0) 93 3 (fun _ => rfl) h) ?_
  refine pj_X_of (fun r h => pj_T_gi iG11 rfl rfl h) ?_
  show pj_X _ _ G11 96 [(0, .ref 21), (1, .ref 147)] [.int (pj_fi G11 147 7), .ref 21] _
  obtain ⟨y12, hy12⟩ : ∃ z : Int32, z = pj_fi G11 147 7 := ⟨_, rfl⟩
  rw [← hy12]
  rw [pj_nm_e]
  have ey12 : (pj_fi G11 147 7).toInt = y12.toInt := by rw [hy12]
  refine pj_X_of (fun r h => pj_T_pf iG11 rfl rfl rfl h) ?_
  show pj_X _ _ (pj_wv G11 21 7 (.int y12)) 99 [(0, .ref 21), (1, .ref 147)] [] _
  obtain ⟨G13, hG13⟩ : ∃ H, H = pj_wv G11 21 7 (.int y12) := ⟨_, rfl⟩
  have iG13 : pj_Inv G13 := by rw [hG13]; exact pj_Inv_wi iG11 (ci := 8) rfl (fun q hq => by cases hq)
  have kG13 : pj_kpt kc_68_21_147x G0 G13 := by rw [hG13]; exact pj_kpt_v kG11 rfl
  rw [← hG13]
  rw [pj_nm_e]
  refine pj_X_of (fun r h => pj_R_to (G13, 101, [(0, .ref 21), (1, .ref 147)], [.ref 147, .ref 21], 0, 0) 101 3 (fun _ => rfl) h) ?_
  refine pj_X_of (fun r h => pj_T_gi iG13 rfl rfl h) ?_
  show pj_X _ _ G13 104 [(0, .ref 21), (1, .ref 147)] [.int (pj_fi G13 147 8), .ref 21] _
  obtain ⟨y14, hy14⟩ : ∃ z : Int32, z = pj_fi G13 147 8 := ⟨_, rfl⟩
  rw [← hy14]
  rw [pj_nm_e]
  have ey14 : (pj_fi G13 147 8).toInt = y14.toInt := by rw [hy14]
  refine pj_X_of (fun r h => pj_T_pf iG13 rfl rfl rfl h) ?_
  show pj_X _ _ (pj_wv G13 21 8 (.int y14)) 107 [(0, .ref 21), (1, .ref 147)] [] _
  obtain ⟨G15, hG15⟩ : ∃ H, H = pj_wv G13 21 8 (.int y14) := ⟨_, rfl⟩
  have iG15 : pj_Inv G15 := by rw [hG15]; exact pj_Inv_wi iG13 (ci := 8) rfl (fun q hq => by cases hq)
  have kG15 : pj_kpt kc_68_21_147x G0 G15 := by rw [hG15]; exact pj_kpt_v kG13 rfl
  rw [← hG15]
  rw [pj_nm_e]
  have q16 : (pj_fi G15 21 0).toInt = y3.toInt := by rw [show pj_fi G15 21 0 = y3 from by rw [hG15, pj_fi_wv_ne _ _ _ _ _ _ (by decide)]; exact (by rw [hG13, pj_fi_wv_ne _ _ _ _ _ _ (by decide)]; exact (by rw [hG11, pj_fi_wc]; exact (by rw [hG10, pj_fi_wv_ne _ _ _ _ _ _ (by decide)]; exact (by rw [hG9, pj_fi_wc]; exact (by rw [hG8, pj_fi_wc]; exact (by rw [hG7, pj_fi_wc]; exact (by rw [hG6, pj_fi_wc]; exact (by rw [hG5]; exact pj_fi_wi hI.1 (ci := 8) rfl _))))))))]
  have q17 : (pj_fi G15 21 5).toInt = y4.toInt := by rw [show pj_fi G15 21 5 = y4 from by rw [hG15, pj_fi_wv_ne _ _ _ _ _ _ (by decide)]; exact (by rw [hG13, pj_fi_wv_ne _ _ _ _ _ _ (by decide)]; exact (by rw [hG11, pj_fi_wc]; exact (by rw [hG10]; exact pj_fi_wi iG9.1 (ci := 8) rfl _)))]
  have q18 : (pj_fi G15 147 0).toInt = y3.toInt := by rw [show pj_fi G15 147 0 = y3 from by rw [hG15, pj_fi_wv_ne _ _ _ _ _ _ (by decide)]; exact (by rw [hG13, pj_fi_wv_ne _ _ _ _ _ _ (by decide)]; exact (by rw [hG11, pj_fi_wc]; exact (by rw [hG10, pj_fi_wv_ne _ _ _ _ _ _ (by decide)]; exact (by rw [hG9, pj_fi_wc]; exact (by rw [hG8, pj_fi_wc]; exact (by rw [hG7, pj_fi_wc]; exact (by rw [hG6, pj_fi_wc]; exact (by rw [hG5, pj_fi_wv_ne _ _ _ _ _ _ (by decide)]; exact hy3.symm))))))))]
  have q19 : (pj_fi G15 147 5).toInt = y4.toInt := by rw [show pj_fi G15 147 5 = y4 from by rw [hG15, pj_fi_wv_ne _ _ _ _ _ _ (by decide)]; exact (by rw [hG13, pj_fi_wv_ne _ _ _ _ _ _ (by decide)]; exact (by rw [hG11, pj_fi_wc]; exact (by rw [hG10, pj_fi_wv_ne _ _ _ _ _ _ (by decide)]; exact (by rw [hG9, pj_fi_wc]; exact (by rw [hG8, pj_fi_wc]; exact (by rw [hG7, pj_fi_wc]; exact (by rw [hG6, pj_fi_wc]; exact (by rw [hG5, pj_fi_wv_ne _ _ _ _ _ _ (by decide)]; exact hy4.symm))))))))]
  exact pj_X_rt rfl rfl ⟨rfl, iG15, kG15, (fun H hH => by subst hH; exact (by omega)), rfl⟩
theorem fr_68_21_147x (G0 : pj_G) (hI : pj_Inv G0) : pj_Inv (F_68_21_147x G0) ∧ pj_kpt kc_68_21_147x G0 (F_68_21_147x G0) ∧ ((pj_fi (F_68_21_147x G0) 21 0).toInt = (pj_fi G0 147 0).toInt ∧ (pj_fi (F_68_21_147x G0) 21 5).toInt = (pj_fi G0 147 5).toInt) := by
  obtain ⟨v, G', -, -, i, j, x, e⟩ := ct_68_21_147x G0 hI 
  rw [← e]
  exact ⟨i, j, x _ rfl⟩
def kc_68_21_153x : pj_KT := ([(21, 0), (21, 5), (21, 7), (21, 8)], [21, 22, 23, 24, 25, 26], [22, 23, 24, 25, 26])
noncomputable def F_68_21_153x (G0 : pj_G) : pj_G := pj_nm (pj_fi G0 153 0) (fun y3 => pj_nm (pj_wv G0 21 0 (.int y3)) (fun G5 => pj_nm (pj_wc G5 154 22 6) (fun G6 => pj_nm (pj_wc G6 155 23 6) (fun G7 => pj_nm (pj_wc G7 156 24 6) (fun G8 => pj_nm (pj_wc G8 157 25 6) (fun G9 => pj_nm (pj_fi G0 153 5) (fun y4 => pj_nm (pj_wv G9 21 5 (.int y4)) (fun G10 => pj_nm (pj_wc G10 158 26 6) (fun G11 => pj_nm (pj_fi G11 153 7) (fun y12 => pj_nm (pj_wv G11 21 7 (.int y12)) (fun G13 => pj_nm (pj_fi G13 153 8) (fun y14 => pj_nm (pj_wv G13 21 8 (.int y14)) (fun G15 => G15)))))))))))))
theorem F_68_21_153x_e (G0 : pj_G) : F_68_21_153x G0 = pj_nm (pj_fi G0 153 0) (fun y3 => pj_nm (pj_wv G0 21 0 (.int y3)) (fun G5 => pj_nm (pj_wc G5 154 22 6) (fun G6 => pj_nm (pj_wc G6 155 23 6) (fun G7 => pj_nm (pj_wc G7 156 24 6) (fun G8 => pj_nm (pj_wc G8 157 25 6) (fun G9 => pj_nm (pj_fi G0 153 5) (fun y4 => pj_nm (pj_wv G9 21 5 (.int y4)) (fun G10 => pj_nm (pj_wc G10 158 26 6) (fun G11 => pj_nm (pj_fi G11 153 7) (fun y12 => pj_nm (pj_wv G11 21 7 (.int y12)) (fun G13 => pj_nm (pj_fi G13 153 8) (fun y14 => pj_nm (pj_wv G13 21 8 (.int y14)) (fun G15 => G15))))))))))))) := rfl
theorem ct_68_21_153x (G0 : pj_G) (hI : pj_Inv G0) : pj_Y 1 68 [.ref 21, .ref 153] G0 (fun v' G' => v' = none ∧ pj_Inv G' ∧ pj_kpt kc_68_21_153x G0 G' ∧ (∀ H, G0 = H → ((pj_fi G' 21 0).toInt = (pj_fi H 153 0).toInt ∧ (pj_fi G' 21 5).toInt = (pj_fi H 153 5).toInt)) ∧ (G' = F_68_21_153x G0)) := by
  have c0_ : ((Int8.ofInt 6).toInt32).toInt = 6 := by decide
  have c1_ : (Int32.ofInt 0).toInt = 0 := by decide
  refine pj_Y_X (M := pj_m68) rfl rfl (Nat.le_of_ble_eq_true rfl) ?_
  have hK : pj_kpt kc_68_21_153x G0 G0 := pj_kpt_r _ _
  show pj_X _ _ G0 0 [(0, .ref 21), (1, .ref 153)] [] _
  rw [F_68_21_153x_e]
  obtain ⟨y1, hy1⟩ : ∃ z : Int32, z = pj_fi G0 21 0 := ⟨_, rfl⟩
  have ey1 : (pj_fi G0 21 0).toInt = y1.toInt := by rw [hy1]
  have ry1 : (0 : Int) ≤ y1.toInt ∧ y1.toInt ≤ 6 := by rw [hy1]; exact hI.2.1 21 0 (0, 6) rfl
  obtain ⟨y2, hy2⟩ : ∃ z : Int32, z = pj_fi G0 21 5 := ⟨_, rfl⟩
  have ey2 : (pj_fi G0 21 5).toInt = y2.toInt := by rw [hy2]
  have ry2 : (0 : Int) ≤ y2.toInt ∧ y2.toInt ≤ 6 := by rw [hy2]; exact hI.2.1 21 5 (0, 6) rfl
  obtain ⟨y3, hy3⟩ : ∃ z : Int32, z = pj_fi G0 153 0 := ⟨_, rfl⟩
  have ey3 : (pj_fi G0 153 0).toInt = y3.toInt := by rw [hy3]
  have ry3 : (0 : Int) ≤ y3.toInt ∧ y3.toInt ≤ 6 := by rw [hy3]; exact hI.2.1 153 0 (0, 6) rfl
  obtain ⟨y4, hy4⟩ : ∃ z : Int32, z = pj_fi G0 153 5 := ⟨_, rfl⟩
  have ey4 : (pj_fi G0 153 5).toInt = y4.toInt := by rw [hy4]
  have ry4 : (0 : Int) ≤ y4.toInt ∧ y4.toInt ≤ 6 := by rw [hy4]; exact hI.2.1 153 5 (0, 6) rfl
  refine pj_X_of (fun r h => pj_R_to (G0, 2, [(0, .ref 21), (1, .ref 153)], [.ref 153, .ref 21], 0, 0) 2 3 (fun _ => rfl) h) ?_
  refine pj_X_of (fun r h => pj_T_gi hI rfl rfl h) ?_
  show pj_X _ _ G0 5 [(0, .ref 21), (1, .ref 153)] [.int (pj_fi G0 153 0), .ref 21] _
  rw [← hy3, pj_nm_e]
  refine pj_X_of (fun r h => pj_T_pf hI rfl rfl rfl h) ?_
  show pj_X _ _ (pj_wv G0 21 0 (.int y3)) 8 [(0, .ref 21), (1, .ref 153)] [] _
  obtain ⟨G5, hG5⟩ : ∃ H, H = pj_wv G0 21 0 (.int y3) := ⟨_, rfl⟩
  have iG5 : pj_Inv G5 := by rw [hG5]; exact pj_Inv_wi hI (ci := 8) rfl (fun q hq => by cases hq; exact ⟨by show (0 : Int) ≤ _; omega, by show _ ≤ (6 : Int); omega⟩)
  have kG5 : pj_kpt kc_68_21_153x G0 G5 := by rw [hG5]; exact pj_kpt_v hK rfl
  rw [← hG5]
  rw [pj_nm_e]
  refine pj_X_of (fun r h => pj_R_to (G5, 9, [(0, .ref 21), (1, .ref 153)], [.ref 153], 0, 0) 9 2 (fun _ => rfl) h) ?_
  refine pj_X_of (fun r h => pj_T_gr iG5 rfl rfl rfl h) ?_
  refine pj_X_of (fun r h => pj_R_to (G5, 14, [(0, .ref 21), (1, .ref 153)], [.ref 21, .int (Int32.ofInt 0), .ref 154], 0, 0) 14 3 (fun _ => rfl) h) ?_
  refine pj_X_of (fun r h => pj_T_gr iG5 rfl rfl rfl h) ?_
  refine pj_X_of (fun r h => pj_R_to (G5, 20, [(0, .ref 21), (1, .ref 153)], [.int ((Int8.ofInt 6).toInt32), .int (Int32.ofInt 0), .ref 22, .int (Int32.ofInt 0), .ref 154], 0, 0) 20 3 (fun _ => rfl) h) ?_
  refine pj_X_of (fun r h => pj_T_cp iG5 rfl rfl rfl rfl (by omega) (by omega) (by show _ = ((6 : Nat) : Int); omega) (Nat.le_of_ble_eq_true rfl) h) ?_
  show pj_X _ _ (pj_wc G5 154 22 6) 23 [(0, .ref 21), (1, .ref 153)] [] _
  obtain ⟨G6, hG6⟩ : ∃ H, H = pj_wc G5 154 22 6 := ⟨_, rfl⟩
  have iG6 : pj_Inv G6 := by rw [hG6]; exact pj_Inv_wc iG5 rfl rfl (fun q hq => by cases hq; exact ⟨rfl, by decide⟩) rfl
  have kG6 : pj_kpt kc_68_21_153x G0 G6 := by rw [hG6]; exact pj_kpt_c kG5 rfl
  rw [← hG6]
  rw [pj_nm_e]
  refine pj_X_of (fun r h => pj_R_to (G6, 24, [(0, .ref 21), (1, .ref 153)], [.ref 153], 0, 0) 24 2 (fun _ => rfl) h) ?_
  refine pj_X_of (fun r h => pj_T_gr iG6 rfl rfl rfl h) ?_
  refine pj_X_of (fun r h => pj_R_to (G6, 29, [(0, .ref 21), (1, .ref 153)], [.ref 21, .int (Int32.ofInt 0), .ref 155], 0, 0) 29 3 (fun _ => rfl) h) ?_
  refine pj_X_of (fun r h => pj_T_gr iG6 rfl rfl rfl h) ?_
  refine pj_X_of (fun r h => pj_R_to (G6, 35, [(0, .ref 21), (1, .ref 153)], [.int ((Int8.ofInt 6).toInt32), .int (Int32.ofInt 0), .ref 23, .int (Int32.ofInt 0), .ref 155], 0, 0) 35 3 (fun _ => rfl) h) ?_
  refine pj_X_of (fun r h => pj_T_cp iG6 rfl rfl rfl rfl (by omega) (by omega) (by show _ = ((6 : Nat) : Int); omega) (Nat.le_of_ble_eq_true rfl) h) ?_
  show pj_X _ _ (pj_wc G6 155 23 6) 38 [(0, .ref 21), (1, .ref 153)] [] _
  obtain ⟨G7, hG7⟩ : ∃ H, H = pj_wc G6 155 23 6 := ⟨_, rfl⟩
  have iG7 : pj_Inv G7 := by rw [hG7]; exact pj_Inv_wc iG6 rfl rfl (fun q hq => by cases hq) rfl
  have kG7 : pj_kpt kc_68_21_153x G0 G7 := by rw [hG7]; exact pj_kpt_c kG6 rfl
  rw [← hG7]
  rw [pj_nm_e]
  refine pj_X_of (fun r h => pj_R_to (G7, 39, [(0, .ref 21), (1, .ref 153)], [.ref 153], 0, 0) 39 2 (fun _ => rfl) h) ?_
  refine pj_X_of (fun r h => pj_T_gr iG7 rfl rfl rfl h) ?_
  refine pj_X_of (fun r h => pj_R_to (G7, 44, [(0, .ref 21), (1, .ref 153)], [.ref 21, .int (Int32.ofInt 0), .ref 156], 0, 0) 44 3 (fun _ => rfl) h) ?_
  refine pj_X_of (fun r h => pj_T_gr iG7 rfl rfl rfl h) ?_
  refine pj_X_of (fun r h => pj_R_to (G7, 50, [(0, .ref 21), (1, .ref 153)], [.int ((Int8.ofInt 6).toInt32), .int (Int32.ofInt 0), .ref 24, .int (Int32.ofInt 0), .ref 156], 0, 0) 50 3 (fun _ => rfl) h) ?_
  refine pj_X_of (fun r h => pj_T_cp iG7 rfl rfl rfl rfl (by omega) (by omega) (by show _ = ((6 : Nat) : Int); omega) (Nat.le_of_ble_eq_true rfl) h) ?_
  show pj_X _ _ (pj_wc G7 156 24 6) 53 [(0, .ref 21), (1, .ref 153)] [] _
  obtain ⟨G8, hG8⟩ : ∃ H, H = pj_wc G7 156 24 6 := ⟨_, rfl⟩
  have iG8 : pj_Inv G8 := by rw [hG8]; exact pj_Inv_wc iG7 rfl rfl (fun q hq => by cases hq) rfl
  have kG8 : pj_kpt kc_68_21_153x G0 G8 := by rw [hG8]; exact pj_kpt_c kG7 rfl
  rw [← hG8]
  rw [pj_nm_e]
  refine pj_X_of (fun r h => pj_R_to (G8, 54, [(0, .ref 21), (1, .ref 153)], [.ref 153], 0, 0) 54 2 (fun _ => rfl) h) ?_
  refine pj_X_of (fun r h => pj_T_gr iG8 rfl rfl rfl h) ?_
  refine pj_X_of (fun r h => pj_R_to (G8, 59, [(0, .ref 21), (1, .ref 153)], [.ref 21, .int (Int32.ofInt 0), .ref 157], 0, 0) 59 3 (fun _ => rfl) h) ?_
  refine pj_X_of (fun r h => pj_T_gr iG8 rfl rfl rfl h) ?_
  refine pj_X_of (fun r h => pj_R_to (G8, 65, [(0, .ref 21), (1, .ref 153)], [.int ((Int8.ofInt 6).toInt32), .int (Int32.ofInt 0), .ref 25, .int (Int32.ofInt 0), .ref 157], 0, 0) 65 3 (fun _ => rfl) h) ?_
  refine pj_X_of (fun r h => pj_T_cp iG8 rfl rfl rfl rfl (by omega) (by omega) (by show _ = ((6 : Nat) : Int); omega) (Nat.le_of_ble_eq_true rfl) h) ?_
  show pj_X _ _ (pj_wc G8 157 25 6) 68 [(0, .ref 21), (1, .ref 153)] [] _
  obtain ⟨G9, hG9⟩ : ∃ H, H = pj_wc G8 157 25 6 := ⟨_, rfl⟩
  have iG9 : pj_Inv G9 := by rw [hG9]; exact pj_Inv_wc iG8 rfl rfl (fun q hq => by cases hq) rfl
  have kG9 : pj_kpt kc_68_21_153x G0 G9 := by rw [hG9]; exact pj_kpt_c kG8 rfl
  rw [← hG9]
  rw [pj_nm_e]
  refine pj_X_of (fun r h => pj_R_to (G9, 70, [(0, .ref 21), (1, .ref 153)], [.ref 153, .ref 21], 0, 0) 70 3 (fun _ => rfl) h) ?_
  refine pj_X_of (fun r h => pj_T_gi iG9 rfl rfl h) ?_
  show pj_X _ _ G9 73 [(0, .ref 21), (1, .ref 153)] [.int (pj_fi G9 153 5), .ref 21] _
  rw [← hy4, pj_nm_e]
  rw [show pj_fi G9 153 5 = y4 from by rw [hG9, pj_fi_wc]; exact (by rw [hG8, pj_fi_wc]; exact (by rw [hG7, pj_fi_wc]; exact (by rw [hG6, pj_fi_wc]; exact (by rw [hG5, pj_fi_wv_ne _ _ _ _ _ _ (by decide)]; exact hy4.symm))))]
  refine pj_X_of (fun r h => pj_T_pf iG9 rfl rfl rfl h) ?_
  show pj_X _ _ (pj_wv G9 21 5 (.int y4)) 76 [(0, .ref 21), (1, .ref 153)] [] _
  obtain ⟨G10, hG10⟩ : ∃ H, H = pj_wv G9 21 5 (.int y4) := ⟨_, rfl⟩
  have iG10 : pj_Inv G10 := by rw [hG10]; exact pj_Inv_wi iG9 (ci := 8) rfl (fun q hq => by cases hq; exact ⟨by show (0 : Int) ≤ _; omega, by show _ ≤ (6 : Int); omega⟩)
  have kG10 : pj_kpt kc_68_21_153x G0 G10 := by rw [hG10]; exact pj_kpt_v kG9 rfl
  rw [← hG10]
  rw [pj_nm_e]
  refine pj_X_of (fun r h => pj_R_to (G10, 77, [(0, .ref 21), (1, .ref 153)], [.ref 153], 0, 0) 77 2 (fun _ => rfl) h) ?_
  refine pj_X_of (fun r h => pj_T_gr iG10 rfl rfl rfl h) ?_
  refine pj_X_of (fun r h => pj_R_to (G10, 82, [(0, .ref 21), (1, .ref 153)], [.ref 21, .int (Int32.ofInt 0), .ref 158], 0, 0) 82 3 (fun _ => rfl) h) ?_
  refine pj_X_of (fun r h => pj_T_gr iG10 rfl rfl rfl h) ?_
  refine pj_X_of (fun r h => pj_R_to (G10, 88, [(0, .ref 21), (1, .ref 153)], [.int ((Int8.ofInt 6).toInt32), .int (Int32.ofInt 0), .ref 26, .int (Int32.ofInt 0), .ref 158], 0, 0) 88 3 (fun _ => rfl) h) ?_
  refine pj_X_of (fun r h => pj_T_cp iG10 rfl rfl rfl rfl (by omega) (by omega) (by show _ = ((6 : Nat) : Int); omega) (Nat.le_of_ble_eq_true rfl) h) ?_
  show pj_X _ _ (pj_wc G10 158 26 6) 91 [(0, .ref 21), (1, .ref 153)] [] _
  obtain ⟨G11, hG11⟩ : ∃ H, H = pj_wc G10 158 26 6 := ⟨_, rfl⟩
  have iG11 : pj_Inv G11 := by rw [hG11]; exact pj_Inv_wc iG10 rfl rfl (fun q hq => by cases hq; exact ⟨rfl, by decide⟩) rfl
  have kG11 : pj_kpt kc_68_21_153x G0 G11 := by rw [hG11]; exact pj_kpt_c kG10 rfl
  rw [← hG11]
  rw [pj_nm_e]
  refine pj_X_of (fun r h => pj_R_to (G11, 93, [(0, .ref 21), (1, .ref 153)], [.ref 153, .ref 21], 0, 0) 93 3 (fun _ => rfl) h) ?_
  refine pj_X_of (fun r h => pj_T_gi iG11 rfl rfl h) ?_
  show pj_X _ _ G11 96 [(0, .ref 21), (1, .ref 153)] [.int (pj_fi G11 153 7), .ref 21] _
  obtain ⟨y12, hy12⟩ : ∃ z : Int32, z = pj_fi G11 153 7 := ⟨_, rfl⟩
  rw [← hy12]
  rw [pj_nm_e]
  have ey12 : (pj_fi G11 153 7).toInt = y12.toInt := by rw [hy12]
  refine pj_X_of (fun r h => pj_T_pf iG11 rfl rfl rfl h) ?_
  show pj_X _ _ (pj_wv G11 21 7 (.int y12)) 99 [(0, .ref 21), (1, .ref 153)] [] _
  obtain ⟨G13, hG13⟩ : ∃ H, H = pj_wv G11 21 7 (.int y12) := ⟨_, rfl⟩
  have iG13 : pj_Inv G13 := by rw [hG13]; exact pj_Inv_wi iG11 (ci := 8) rfl (fun q hq => by cases hq)
  have kG13 : pj_kpt kc_68_21_153x G0 G13 := by rw [hG13]; exact pj_kpt_v kG11 rfl
  rw [← hG13]
  rw [pj_nm_e]
  refine pj_X_of (fun r h => pj_R_to (G13, 101, [(0, .ref 21), (1, .ref 153)], [.ref 153, .ref 21], 0, 0) 101 3 (fun _ => rfl) h) ?_
  refine pj_X_of (fun r h => pj_T_gi iG13 rfl rfl h) ?_
  show pj_X _ _ G13 104 [(0, .ref 21), (1, .ref 153)] [.int (pj_fi G13 153 8), .ref 21] _
  obtain ⟨y14, hy14⟩ : ∃ z : Int32, z = pj_fi G13 153 8 := ⟨_, rfl⟩
  rw [← hy14]
  rw [pj_nm_e]
  have ey14 : (pj_fi G13 153 8).toInt = y14.toInt := by rw [hy14]
  refine pj_X_of (fun r h => pj_T_pf iG13 rfl rfl rfl h) ?_
  show pj_X _ _ (pj_wv G13 21 8 (.int y14)) 107 [(0, .ref 21), (1, .ref 153)] [] _
  obtain ⟨G15, hG15⟩ : ∃ H, H = pj_wv G13 21 8 (.int y14) := ⟨_, rfl⟩
  have iG15 : pj_Inv G15 := by rw [hG15]; exact pj_Inv_wi iG13 (ci := 8) rfl (fun q hq => by cases hq)
  have kG15 : pj_kpt kc_68_21_153x G0 G15 := by rw [hG15]; exact pj_kpt_v kG13 rfl
  rw [← hG15]
  rw [pj_nm_e]
  have q16 : (pj_fi G15 21 0).toInt = y3.toInt := by rw [show pj_fi G15 21 0 = y3 from by rw [hG15, pj_fi_wv_ne _ _ _ _ _ _ (by decide)]; exact (by rw [hG13, pj_fi_wv_ne _ _ _ _ _ _ (by decide)]; exact (by rw [hG11, pj_fi_wc]; exact (by rw [hG10, pj_fi_wv_ne _ _ _ _ _ _ (by decide)]; exact (by rw [hG9, pj_fi_wc]; exact (by rw [hG8, pj_fi_wc]; exact (by rw [hG7, pj_fi_wc]; exact (by rw [hG6, pj_fi_wc]; exact (by rw [hG5]; exact pj_fi_wi hI.1 (ci := 8) rfl _))))))))]
  have q17 : (pj_fi G15 21 5).toInt = y4.toInt := by rw [show pj_fi G15 21 5 = y4 from by rw [hG15, pj_fi_wv_ne _ _ _ _ _ _ (by decide)]; exact (by rw [hG13, pj_fi_wv_ne _ _ _ _ _ _ (by decide)]; exact (by rw [hG11, pj_fi_wc]; exact (by rw [hG10]; exact pj_fi_wi iG9.1 (ci := 8) rfl _)))]
  have q18 : (pj_fi G15 153 0).toInt = y3.toInt := by rw [show pj_fi G15 153 0 = y3 from by rw [hG15, pj_fi_wv_ne _ _ _ _ _ _ (by decide)]; exact (by rw [hG13, pj_fi_wv_ne _ _ _ _ _ _ (by decide)]; exact (by rw [hG11, pj_fi_wc]; exact (by rw [hG10, pj_fi_wv_ne _ _ _ _ _ _ (by decide)]; exact (by rw [hG9, pj_fi_wc]; exact (by rw [hG8, pj_fi_wc]; exact (by rw [hG7, pj_fi_wc]; exact (by rw [hG6, pj_fi_wc]; exact (by rw [hG5, pj_fi_wv_ne _ _ _ _ _ _ (by decide)]; exact hy3.symm))))))))]
  have q19 : (pj_fi G15 153 5).toInt = y4.toInt := by rw [show pj_fi G15 153 5 = y4 from by rw [hG15, pj_fi_wv_ne _ _ _ _ _ _ (by decide)]; exact (by rw [hG13, pj_fi_wv_ne _ _ _ _ _ _ (by decide)]; exact (by rw [hG11, pj_fi_wc]; exact (by rw [hG10, pj_fi_wv_ne _ _ _ _ _ _ (by decide)]; exact (by rw [hG9, pj_fi_wc]; exact (by rw [hG8, pj_fi_wc]; exact (by rw [hG7, pj_fi_wc]; exact (by rw [hG6, pj_fi_wc]; exact (by rw [hG5, pj_fi_wv_ne _ _ _ _ _ _ (by decide)]; exact hy4.symm))))))))]
  exact pj_X_rt rfl rfl ⟨rfl, iG15, kG15, (fun H hH => by subst hH; exact (by omega)), rfl⟩
theorem fr_68_21_153x (G0 : pj_G) (hI : pj_Inv G0) : pj_Inv (F_68_21_153x G0) ∧ pj_kpt kc_68_21_153x G0 (F_68_21_153x G0) ∧ ((pj_fi (F_68_21_153x G0) 21 0).toInt = (pj_fi G0 153 0).toInt ∧ (pj_fi (F_68_21_153x G0) 21 5).toInt = (pj_fi G0 153 5).toInt) := by
  obtain ⟨v, G', -, -, i, j, x, e⟩ := ct_68_21_153x G0 hI 
  rw [← e]
  exact ⟨i, j, x _ rfl⟩
def kc_68_21_159x : pj_KT := ([(21, 0), (21, 5), (21, 7), (21, 8)], [21, 22, 23, 24, 25, 26], [22, 23, 24, 25, 26])
noncomputable def F_68_21_159x (G0 : pj_G) : pj_G := pj_nm (pj_fi G0 159 0) (fun y3 => pj_nm (pj_wv G0 21 0 (.int y3)) (fun G5 => pj_nm (pj_wc G5 160 22 6) (fun G6 => pj_nm (pj_wc G6 161 23 6) (fun G7 => pj_nm (pj_wc G7 162 24 6) (fun G8 => pj_nm (pj_wc G8 163 25 6) (fun G9 => pj_nm (pj_fi G0 159 5) (fun y4 => pj_nm (pj_wv G9 21 5 (.int y4)) (fun G10 => pj_nm (pj_wc G10 164 26 6) (fun G11 => pj_nm (pj_fi G11 159 7) (fun y12 => pj_nm (pj_wv G11 21 7 (.int y12)) (fun G13 => pj_nm (pj_fi G13 159 8) (fun y14 => pj_nm (pj_wv G13 21 8 (.int y14)) (fun G15 => G15)))))))))))))
theorem F_68_21_159x_e (G0 : pj_G) : F_68_21_159x G0 = pj_nm (pj_fi G0 159 0) (fun y3 => pj_nm (pj_wv G0 21 0 (.int y3)) (fun G5 => pj_nm (pj_wc G5 160 22 6) (fun G6 => pj_nm (pj_wc G6 161 23 6) (fun G7 => pj_nm (pj_wc G7 162 24 6) (fun G8 => pj_nm (pj_wc G8 163 25 6) (fun G9 => pj_nm (pj_fi G0 159 5) (fun y4 => pj_nm (pj_wv G9 21 5 (.int y4)) (fun G10 => pj_nm (pj_wc G10 164 26 6) (fun G11 => pj_nm (pj_fi G11 159 7) (fun y12 => pj_nm (pj_wv G11 21 7 (.int y12)) (fun G13 => pj_nm (pj_fi G13 159 8) (fun y14 => pj_nm (pj_wv G13 21 8 (.int y14)) (fun G15 => G15))))))))))))) := rfl
theorem ct_68_21_159x (G0 : pj_G) (hI : pj_Inv G0) : pj_Y 1 68 [.ref 21, .ref 159] G0 (fun v' G' => v' = none ∧ pj_Inv G' ∧ pj_kpt kc_68_21_159x G0 G' ∧ (∀ H, G0 = H → ((pj_fi G' 21 0).toInt = (pj_fi H 159 0).toInt ∧ (pj_fi G' 21 5).toInt = (pj_fi H 159 5).toInt)) ∧ (G' = F_68_21_159x G0)) := by
  have c0_ : ((Int8.ofInt 6).toInt32).toInt = 6 := by decide
  have c1_ : (Int32.ofInt 0).toInt = 0 := by decide
  refine pj_Y_X (M := pj_m68) rfl rfl (Nat.le_of_ble_eq_true rfl) ?_
  have hK : pj_kpt kc_68_21_159x G0 G0 := pj_kpt_r _ _
  show pj_X _ _ G0 0 [(0, .ref 21), (1, .ref 159)] [] _
  rw [F_68_21_159x_e]
  obtain ⟨y1, hy1⟩ : ∃ z : Int32, z = pj_fi G0 21 0 := ⟨_, rfl⟩
  have ey1 : (pj_fi G0 21 0).toInt = y1.toInt := by rw [hy1]
  have ry1 : (0 : Int) ≤ y1.toInt ∧ y1.toInt ≤ 6 := by rw [hy1]; exact hI.2.1 21 0 (0, 6) rfl
  obtain ⟨y2, hy2⟩ : ∃ z : Int32, z = pj_fi G0 21 5 := ⟨_, rfl⟩
  have ey2 : (pj_fi G0 21 5).toInt = y2.toInt := by rw [hy2]
  have ry2 : (0 : Int) ≤ y2.toInt ∧ y2.toInt ≤ 6 := by rw [hy2]; exact hI.2.1 21 5 (0, 6) rfl
  obtain ⟨y3, hy3⟩ : ∃ z : Int32, z = pj_fi G0 159 0 := ⟨_, rfl⟩
  have ey3 : (pj_fi G0 159 0).toInt = y3.toInt := by rw [hy3]
  have ry3 : (0 : Int) ≤ y3.toInt ∧ y3.toInt ≤ 6 := by rw [hy3]; exact hI.2.1 159 0 (0, 6) rfl
  obtain ⟨y4, hy4⟩ : ∃ z : Int32, z = pj_fi G0 159 5 := ⟨_, rfl⟩
  have ey4 : (pj_fi G0 159 5).toInt = y4.toInt := by rw [hy4]
  have ry4 : (0 : Int) ≤ y4.toInt ∧ y4.toInt ≤ 6 := by rw [hy4]; exact hI.2.1 159 5 (0, 6) rfl
  refine pj_X_of (fun r h => pj_R_to (G0, 2, [(0, .ref 21), (1, .ref 159)], [.ref 159, .ref 21], 0, 0) 2 3 (fun _ => rfl) h) ?_
  refine pj_X_of (fun r h => pj_T_gi hI rfl rfl h) ?_
  show pj_X _ _ G0 5 [(0, .ref 21), (1, .ref 159)] [.int (pj_fi G0 159 0), .ref 21] _
  rw [← hy3, pj_nm_e]
  refine pj_X_of (fun r h => pj_T_pf hI rfl rfl rfl h) ?_
  show pj_X _ _ (pj_wv G0 21 0 (.int y3)) 8 [(0, .ref 21), (1, .ref 159)] [] _
  obtain ⟨G5, hG5⟩ : ∃ H, H = pj_wv G0 21 0 (.int y3) := ⟨_, rfl⟩
  have iG5 : pj_Inv G5 := by rw [hG5]; exact pj_Inv_wi hI (ci := 8) rfl (fun q hq => by cases hq; exact ⟨by show (0 : Int) ≤ _; omega, by show _ ≤ (6 : Int); omega⟩)
  have kG5 : pj_kpt kc_68_21_159x G0 G5 := by rw [hG5]; exact pj_kpt_v hK rfl
  rw [← hG5]
  rw [pj_nm_e]
  refine pj_X_of (fun r h => pj_R_to (G5, 9, [(0, .ref 21), (1, .ref 159)], [.ref 159], 0, 0) 9 2 (fun _ => rfl) h) ?_
  refine pj_X_of (fun r h => pj_T_gr iG5 rfl rfl rfl h) ?_
  refine pj_X_of (fun r h => pj_R_to (G5, 14, [(0, .ref 21), (1, .ref 159)], [.ref 21, .int (Int32.ofInt 0), .ref 160], 0, 0) 14 3 (fun _ => rfl) h) ?_
  refine pj_X_of (fun r h => pj_T_gr iG5 rfl rfl rfl h) ?_
  refine pj_X_of (fun r h => pj_R_to (G5, 20, [(0, .ref 21), (1, .ref 159)], [.int ((Int8.ofInt 6).toInt32), .int (Int32.ofInt 0), .ref 22, .int (Int32.ofInt 0), .ref 160], 0, 0) 20 3 (fun _ => rfl) h) ?_
  refine pj_X_of (fun r h => pj_T_cp iG5 rfl rfl rfl rfl (by omega) (by omega) (by show _ = ((6 : Nat) : Int); omega) (Nat.le_of_ble_eq_true rfl) h) ?_
  show pj_X _ _ (pj_wc G5 160 22 6) 23 [(0, .ref 21), (1, .ref 159)] [] _
  obtain ⟨G6, hG6⟩ : ∃ H, H = pj_wc G5 160 22 6 := ⟨_, rfl⟩
  have iG6 : pj_Inv G6 := by rw [hG6]; exact pj_Inv_wc iG5 rfl rfl (fun q hq => by cases hq; exact ⟨rfl, by decide⟩) rfl
  have kG6 : pj_kpt kc_68_21_159x G0 G6 := by rw [hG6]; exact pj_kpt_c kG5 rfl
  rw [← hG6]
  rw [pj_nm_e]
  refine pj_X_of (fun r h => pj_R_to (G6, 24, [(0, .ref 21), (1, .ref 159)], [.ref 159], 0, 0) 24 2 (fun _ => rfl) h) ?_
  refine pj_X_of (fun r h => pj_T_gr iG6 rfl rfl rfl h) ?_
  refine pj_X_of (fun r h => pj_R_to (G6, 29, [(0, .ref 21), (1, .ref 159)], [.ref 21, .int (Int32.ofInt 0), .ref 161], 0, 0) 29 3 (fun _ => rfl) h) ?_
  refine pj_X_of (fun r h => pj_T_gr iG6 rfl rfl rfl h) ?_
  refine pj_X_of (fun r h => pj_R_to (G6, 35, [(0, .ref 21), (1, .ref 159)], [.int ((Int8.ofInt 6).toInt32), .int (Int32.ofInt 0), .ref 23, .int (Int32.ofInt 0), .ref 161], 0, 0) 35 3 (fun _ => rfl) h) ?_
  refine pj_X_of (fun r h => pj_T_cp iG6 rfl rfl rfl rfl (by omega) (by omega) (by show _ = ((6 : Nat) : Int); omega) (Nat.le_of_ble_eq_true rfl) h) ?_
  show pj_X _ _ (pj_wc G6 161 23 6) 38 [(0, .ref 21), (1, .ref 159)] [] _
  obtain ⟨G7, hG7⟩ : ∃ H, H = pj_wc G6 161 23 6 := ⟨_, rfl⟩
  have iG7 : pj_Inv G7 := by rw [hG7]; exact pj_Inv_wc iG6 rfl rfl (fun q hq => by cases hq) rfl
  have kG7 : pj_kpt kc_68_21_159x G0 G7 := by rw [hG7]; exact pj_kpt_c kG6 rfl
  rw [← hG7]
  rw [pj_nm_e]
  refine pj_X_of (fun r h => pj_R_to (G7, 39, [(0, .ref 21), (1, .ref 159)], [.ref 159], 0, 0) 39 2 (fun _ => rfl) h) ?_
  refine pj_X_of (fun r h => pj_T_gr iG7 rfl rfl rfl h) ?_
  refine pj_X_of (fun r h => pj_R_to (G7, 44, [(0, .ref 21), (1, .ref 159)], [.ref 21, .int (Int32.ofInt 0), .ref 162], 0, 0) 44 3 (fun _ => rfl) h) ?_
  refine pj_X_of (fun r h => pj_T_gr iG7 rfl rfl rfl h) ?_
  refine pj_X_of (fun r h => pj_R_to (G7, 50, [(0, .ref 21), (1, .ref 159)], [.int ((Int8.ofInt 6).toInt32), .int (Int32.ofInt 0), .ref 24, .int (Int32.ofInt 0), .ref 162], 0, 0) 50 3 (fun _ => rfl) h) ?_
  refine pj_X_of (fun r h => pj_T_cp iG7 rfl rfl rfl rfl (by omega) (by omega) (by show _ = ((6 : Nat) : Int); omega) (Nat.le_of_ble_eq_true rfl) h) ?_
  show pj_X _ _ (pj_wc G7 162 24 6) 53 [(0, .ref 21), (1, .ref 159)] [] _
  obtain ⟨G8, hG8⟩ : ∃ H, H = pj_wc G7 162 24 6 := ⟨_, rfl⟩
  have iG8 : pj_Inv G8 := by rw [hG8]; exact pj_Inv_wc iG7 rfl rfl (fun q hq => by cases hq) rfl
  have kG8 : pj_kpt kc_68_21_159x G0 G8 := by rw [hG8]; exact pj_kpt_c kG7 rfl
  rw [← hG8]
  rw [pj_nm_e]
  refine pj_X_of (fun r h => pj_R_to (G8, 54, [(0, .ref 21), (1, .ref 159)], [.ref 159], 0, 0) 54 2 (fun _ => rfl) h) ?_
  refine pj_X_of (fun r h => pj_T_gr iG8 rfl rfl rfl h) ?_
  refine pj_X_of (fun r h => pj_R_to (G8, 59, [(0, .ref 21), (1, .ref 159)], [.ref 21, .int (Int32.ofInt 0), .ref 163], 0, 0) 59 3 (fun _ => rfl) h) ?_
  refine pj_X_of (fun r h => pj_T_gr iG8 rfl rfl rfl h) ?_
  refine pj_X_of (fun r h => pj_R_to (G8, 65, [(0, .ref 21), (1, .ref 159)], [.int ((Int8.ofInt 6).toInt32), .int (Int32.ofInt 0), .ref 25, .int (Int32.ofInt 0), .ref 163], 0, 0) 65 3 (fun _ => rfl) h) ?_
  refine pj_X_of (fun r h => pj_T_cp iG8 rfl rfl rfl rfl (by omega) (by omega) (by show _ = ((6 : Nat) : Int); omega) (Nat.le_of_ble_eq_true rfl) h) ?_
  show pj_X _ _ (pj_wc G8 163 25 6) 68 [(0, .ref 21), (1, .ref 159)] [] _
  obtain ⟨G9, hG9⟩ : ∃ H, H = pj_wc G8 163 25 6 := ⟨_, rfl⟩
  have iG9 : pj_Inv G9 := by rw [hG9]; exact pj_Inv_wc iG8 rfl rfl (fun q hq => by cases hq) rfl
  have kG9 : pj_kpt kc_68_21_159x G0 G9 := by rw [hG9]; exact pj_kpt_c kG8 rfl
  rw [← hG9]
  rw [pj_nm_e]
  refine pj_X_of (fun r h => pj_R_to (G9, 70, [(0, .ref 21), (1, .ref 159)], [.ref 159, .ref 21], 0, 0) 70 3 (fun _ => rfl) h) ?_
  refine pj_X_of (fun r h => pj_T_gi iG9 rfl rfl h) ?_
  show pj_X _ _ G9 73 [(0, .ref 21), (1, .ref 159)] [.int (pj_fi G9 159 5), .ref 21] _
  rw [← hy4, pj_nm_e]
  rw [show pj_fi G9 159 5 = y4 from by rw [hG9, pj_fi_wc]; exact (by rw [hG8, pj_fi_wc]; exact (by rw [hG7, pj_fi_wc]; exact (by rw [hG6, pj_fi_wc]; exact (by rw [hG5, pj_fi_wv_ne _ _ _ _ _ _ (by decide)]; exact hy4.symm))))]
  refine pj_X_of (fun r h => pj_T_pf iG9 rfl rfl rfl h) ?_
  show pj_X _ _ (pj_wv G9 21 5 (.int y4)) 76 [(0, .ref 21), (1, .ref 159)] [] _
  obtain ⟨G10, hG10⟩ : ∃ H, H = pj_wv G9 21 5 (.int y4) := ⟨_, rfl⟩
  have iG10 : pj_Inv G10 := by rw [hG10]; exact pj_Inv_wi iG9 (ci := 8) rfl (fun q hq => by cases hq; exact ⟨by show (0 : Int) ≤ _; omega, by show _ ≤ (6 : Int); omega⟩)
  have kG10 : pj_kpt kc_68_21_159x G0 G10 := by rw [hG10]; exact pj_kpt_v kG9 rfl
  rw [← hG10]
  rw [pj_nm_e]
  refine pj_X_of (fun r h => pj_R_to (G10, 77, [(0, .ref 21), (1, .ref 159)], [.ref 159], 0, 0) 77 2 (fun _ => rfl) h) ?_
  refine pj_X_of (fun r h => pj_T_gr iG10 rfl rfl rfl h) ?_
  refine pj_X_of (fun r h => pj_R_to (G10, 82, [(0, .ref 21), (1, .ref 159)], [.ref 21, .int (Int32.ofInt 0), .ref 164], 0, 0) 82 3 (fun _ => rfl) h) ?_
  refine pj_X_of (fun r h => pj_T_gr iG10 rfl rfl rfl h) ?_
  refine pj_X_of (fun r h => pj_R_to (G10, 88, [(0, .ref 21), (1, .ref 159)], [.int ((Int8.ofInt 6).toInt32), .int (Int32.ofInt 0), .ref 26, .int (Int32.ofInt 0), .ref 164], 0, 0) 88 3 (fun _ => rfl) h) ?_
  refine pj_X_of (fun r h => pj_T_cp iG10 rfl rfl rfl rfl (by omega) (by omega) (by show _ = ((6 : Nat) : Int); omega) (Nat.le_of_ble_eq_true rfl) h) ?_
  show pj_X _ _ (pj_wc G10 164 26 6) 91 [(0, .ref 21), (1, .ref 159)] [] _
  obtain ⟨G11, hG11⟩ : ∃ H, H = pj_wc G10 164 26 6 := ⟨_, rfl⟩
  have iG11 : pj_Inv G11 := by rw [hG11]; exact pj_Inv_wc iG10 rfl rfl (fun q hq => by cases hq; exact ⟨rfl, by decide⟩) rfl
  have kG11 : pj_kpt kc_68_21_159x G0 G11 := by rw [hG11]; exact pj_kpt_c kG10 rfl
  rw [← hG11]
  rw [pj_nm_e]
  refine pj_X_of (fun r h => pj_R_to (G11, 93, [(0, .ref 21), (1, .ref 159)], [.ref 159, .ref 21], 0, 0) 93 3 (fun _ => rfl) h) ?_
  refine pj_X_of (fun r h => pj_T_gi iG11 rfl rfl h) ?_
  show pj_X _ _ G11 96 [(0, .ref 21), (1, .ref 159)] [.int (pj_fi G11 159 7), .ref 21] _
  obtain ⟨y12, hy12⟩ : ∃ z : Int32, z = pj_fi G11 159 7 := ⟨_, rfl⟩
  rw [← hy12]
  rw [pj_nm_e]
  have ey12 : (pj_fi G11 159 7).toInt = y12.toInt := by rw [hy12]
  refine pj_X_of (fun r h => pj_T_pf iG11 rfl rfl rfl h) ?_
  show pj_X _ _ (pj_wv G11 21 7 (.int y12)) 99 [(0, .ref 21), (1, .ref 159)] [] _
  obtain ⟨G13, hG13⟩ : ∃ H, H = pj_wv G11 21 7 (.int y12) := ⟨_, rfl⟩
  have iG13 : pj_Inv G13 := by rw [hG13]; exact pj_Inv_wi iG11 (ci := 8) rfl (fun q hq => by cases hq)
  have kG13 : pj_kpt kc_68_21_159x G0 G13 := by rw [hG13]; exact pj_kpt_v kG11 rfl
  rw [← hG13]
  rw [pj_nm_e]
  refine pj_X_of (fun r h => pj_R_to (G13, 101, [(0, .ref 21), (1, .ref 159)], [.ref 159, .ref 21], 0, 0) 101 3 (fun _ => rfl) h) ?_
  refine pj_X_of (fun r h => pj_T_gi iG13 rfl rfl h) ?_
  show pj_X _ _ G13 104 [(0, .ref 21), (1, .ref 159)] [.int (pj_fi G13 159 8), .ref 21] _
  obtain ⟨y14, hy14⟩ : ∃ z : Int32, z = pj_fi G13 159 8 := ⟨_, rfl⟩
  rw [← hy14]
  rw [pj_nm_e]
  have ey14 : (pj_fi G13 159 8).toInt = y14.toInt := by rw [hy14]
  refine pj_X_of (fun r h => pj_T_pf iG13 rfl rfl rfl h) ?_
  show pj_X _ _ (pj_wv G13 21 8 (.int y14)) 107 [(0, .ref 21), (1, .ref 159)] [] _
  obtain ⟨G15, hG15⟩ : ∃ H, H = pj_wv G13 21 8 (.int y14) := ⟨_, rfl⟩
  have iG15 : pj_Inv G15 := by rw [hG15]; exact pj_Inv_wi iG13 (ci := 8) rfl (fun q hq => by cases hq)
  have kG15 : pj_kpt kc_68_21_159x G0 G15 := by rw [hG15]; exact pj_kpt_v kG13 rfl
  rw [← hG15]
  rw [pj_nm_e]
  have q16 : (pj_fi G15 21 0).toInt = y3.toInt := by rw [show pj_fi G15 21 0 = y3 from by rw [hG15, pj_fi_wv_ne _ _ _ _ _ _ (by decide)]; exact (by rw [hG13, pj_fi_wv_ne _ _ _ _ _ _ (by decide)]; exact (by rw [hG11, pj_fi_wc]; exact (by rw [hG10, pj_fi_wv_ne _ _ _ _ _ _ (by decide)]; exact (by rw [hG9, pj_fi_wc]; exact (by rw [hG8, pj_fi_wc]; exact (by rw [hG7, pj_fi_wc]; exact (by rw [hG6, pj_fi_wc]; exact (by rw [hG5]; exact pj_fi_wi hI.1 (ci := 8) rfl _))))))))]
  have q17 : (pj_fi G15 21 5).toInt = y4.toInt := by rw [show pj_fi G15 21 5 = y4 from by rw [hG15, pj_fi_wv_ne _ _ _ _ _ _ (by decide)]; exact (by rw [hG13, pj_fi_wv_ne _ _ _ _ _ _ (by decide)]; exact (by rw [hG11, pj_fi_wc]; exact (by rw [hG10]; exact pj_fi_wi iG9.1 (ci := 8) rfl _)))]
  have q18 : (pj_fi G15 159 0).toInt = y3.toInt := by rw [show pj_fi G15 159 0 = y3 from by rw [hG15, pj_fi_wv_ne _ _ _ _ _ _ (by decide)]; exact (by rw [hG13, pj_fi_wv_ne _ _ _ _ _ _ (by decide)]; exact (by rw [hG11, pj_fi_wc]; exact (by rw [hG10, pj_fi_wv_ne _ _ _ _ _ _ (by decide)]; exact (by rw [hG9, pj_fi_wc]; exact (by rw [hG8, pj_fi_wc]; exact (by rw [hG7, pj_fi_wc]; exact (by rw [hG6, pj_fi_wc]; exact (by rw [hG5, pj_fi_wv_ne _ _ _ _ _ _ (by decide)]; exact hy3.symm))))))))]
  have q19 : (pj_fi G15 159 5).toInt = y4.toInt := by rw [show pj_fi G15 159 5 = y4 from by rw [hG15, pj_fi_wv_ne _ _ _ _ _ _ (by decide)]; exact (by rw [hG13, pj_fi_wv_ne _ _ _ _ _ _ (by decide)]; exact (by rw [hG11, pj_fi_wc]; exact (by rw [hG10, pj_fi_wv_ne _ _ _ _ _ _ (by decide)]; exact (by rw [hG9, pj_fi_wc]; exact (by rw [hG8, pj_fi_wc]; exact (by rw [hG7, pj_fi_wc]; exact (by rw [hG6, pj_fi_wc]; exact (by rw [hG5, pj_fi_wv_ne _ _ _ _ _ _ (by decide)]; exact hy4.symm))))))))]
  exact pj_X_rt rfl rfl ⟨rfl, iG15, kG15, (fun H hH => by subst hH; exact (by omega)), rfl⟩
theorem fr_68_21_159x (G0 : pj_G) (hI : pj_Inv G0) : pj_Inv (F_68_21_159x G0) ∧ pj_kpt kc_68_21_159x G0 (F_68_21_159x G0) ∧ ((pj_fi (F_68_21_159x G0) 21 0).toInt = (pj_fi G0 159 0).toInt ∧ (pj_fi (F_68_21_159x G0) 21 5).toInt = (pj_fi G0 159 5).toInt) := by
  obtain ⟨v, G', -, -, i, j, x, e⟩ := ct_68_21_159x G0 hI 
  rw [← e]
  exact ⟨i, j, x _ rfl⟩
def kc_68_21_165x : pj_KT := ([(21, 0), (21, 5), (21, 7), (21, 8)], [21, 22, 23, 24, 25, 26], [22, 23, 24, 25, 26])
noncomputable def F_68_21_165x (G0 : pj_G) : pj_G := pj_nm (pj_fi G0 165 0) (fun y3 => pj_nm (pj_wv G0 21 0 (.int y3)) (fun G5 => pj_nm (pj_wc G5 166 22 6) (fun G6 => pj_nm (pj_wc G6 167 23 6) (fun G7 => pj_nm (pj_wc G7 168 24 6) (fun G8 => pj_nm (pj_wc G8 169 25 6) (fun G9 => pj_nm (pj_fi G0 165 5) (fun y4 => pj_nm (pj_wv G9 21 5 (.int y4)) (fun G10 => pj_nm (pj_wc G10 170 26 6) (fun G11 => pj_nm (pj_fi G11 165 7) (fun y12 => pj_nm (pj_wv G11 21 7 (.int y12)) (fun G13 => pj_nm (pj_fi G13 165 8) (fun y14 => pj_nm (pj_wv G13 21 8 (.int y14)) (fun G15 => G15)))))))))))))
theorem F_68_21_165x_e (G0 : pj_G) : F_68_21_165x G0 = pj_nm (pj_fi G0 165 0) (fun y3 => pj_nm (pj_wv G0 21 0 (.int y3)) (fun G5 => pj_nm (pj_wc G5 166 22 6) (fun G6 => pj_nm (pj_wc G6 167 23 6) (fun G7 => pj_nm (pj_wc G7 168 24 6) (fun G8 => pj_nm (pj_wc G8 169 25 6) (fun G9 => pj_nm (pj_fi G0 165 5) (fun y4 => pj_nm (pj_wv G9 21 5 (.int y4)) (fun G10 => pj_nm (pj_wc G10 170 26 6) (fun G11 => pj_nm (pj_fi G11 165 7) (fun y12 => pj_nm (pj_wv G11 21 7 (.int y12)) (fun G13 => pj_nm (pj_fi G13 165 8) (fun y14 => pj_nm (pj_wv G13 21 8 (.int y14)) (fun G15 => G15))))))))))))) := rfl
theorem ct_68_21_165x (G0 : pj_G) (hI : pj_Inv G0) : pj_Y 1 68 [.ref 21, .ref 165] G0 (fun v' G' => v' = none ∧ pj_Inv G' ∧ pj_kpt kc_68_21_165x G0 G' ∧ (∀ H, G0 = H → ((pj_fi G' 21 0).toInt = (pj_fi H 165 0).toInt ∧ (pj_fi G' 21 5).toInt = (pj_fi H 165 5).toInt)) ∧ (G' = F_68_21_165x G0)) := by
  have c0_ : ((Int8.ofInt 6).toInt32).toInt = 6 := by decide
  have c1_ : (Int32.ofInt 0).toInt = 0 := by decide
  refine pj_Y_X (M := pj_m68) rfl rfl (Nat.le_of_ble_eq_true rfl) ?_
  have hK : pj_kpt kc_68_21_165x G0 G0 := pj_kpt_r _ _
  show pj_X _ _ G0 0 [(0, .ref 21), (1, .ref 165)] [] _
  rw [F_68_21_165x_e]
  obtain ⟨y1, hy1⟩ : ∃ z : Int32, z = pj_fi G0 21 0 := ⟨_, rfl⟩
  have ey1 : (pj_fi G0 21 0).toInt = y1.toInt := by rw [hy1]
  have ry1 : (0 : Int) ≤ y1.toInt ∧ y1.toInt ≤ 6 := by rw [hy1]; exact hI.2.1 21 0 (0, 6) rfl
  obtain ⟨y2, hy2⟩ : ∃ z : Int32, z = pj_fi G0 21 5 := ⟨_, rfl⟩
  have ey2 : (pj_fi G0 21 5).toInt = y2.toInt := by rw [hy2]
  have ry2 : (0 : Int) ≤ y2.toInt ∧ y2.toInt ≤ 6 := by rw [hy2]; exact hI.2.1 21 5 (0, 6) rfl
  obtain ⟨y3, hy3⟩ : ∃ z : Int32, z = pj_fi G0 165 0 := ⟨_, rfl⟩
  have ey3 : (pj_fi G0 165 0).toInt = y3.toInt := by rw [hy3]
  have ry3 : (0 : Int) ≤ y3.toInt ∧ y3.toInt ≤ 6 := by rw [hy3]; exact hI.2.1 165 0 (0, 6) rfl
  obtain ⟨y4, hy4⟩ : ∃ z : Int32, z = pj_fi G0 165 5 := ⟨_, rfl⟩
  have ey4 : (pj_fi G0 165 5).toInt = y4.toInt := by rw [hy4]
  have ry4 : (0 : Int) ≤ y4.toInt ∧ y4.toInt ≤ 6 := by rw [hy4]; exact hI.2.1 165 5 (0, 6) rfl
  refine pj_X_of (fun r h => pj_R_to (G0, 2, [(0, .ref 21), (1, .ref 165)], [.ref 165, .ref 21], 0, 0) 2 3 (fun _ => rfl) h) ?_
  refine pj_X_of (fun r h => pj_T_gi hI rfl rfl h) ?_
  show pj_X _ _ G0 5 [(0, .ref 21), (1, .ref 165)] [.int (pj_fi G0 165 0), .ref 21] _
  rw [← hy3, pj_nm_e]
  refine pj_X_of (fun r h => pj_T_pf hI rfl rfl rfl h) ?_
  show pj_X _ _ (pj_wv G0 21 0 (.int y3)) 8 [(0, .ref 21), (1, .ref 165)] [] _
  obtain ⟨G5, hG5⟩ : ∃ H, H = pj_wv G0 21 0 (.int y3) := ⟨_, rfl⟩
  have iG5 : pj_Inv G5 := by rw [hG5]; exact pj_Inv_wi hI (ci := 8) rfl (fun q hq => by cases hq; exact ⟨by show (0 : Int) ≤ _; omega, by show _ ≤ (6 : Int); omega⟩)
  have kG5 : pj_kpt kc_68_21_165x G0 G5 := by rw [hG5]; exact pj_kpt_v hK rfl
  rw [← hG5]
  rw [pj_nm_e]
  refine pj_X_of (fun r h => pj_R_to (G5, 9, [(0, .ref 21), (1, .ref 165)], [.ref 165], 0, 0) 9 2 (fun _ => rfl) h) ?_
  refine pj_X_of (fun r h => pj_T_gr iG5 rfl rfl rfl h) ?_
  refine pj_X_of (fun r h => pj_R_to (G5, 14, [(0, .ref 21), (1, .ref 165)], [.ref 21, .int (Int32.ofInt 0), .ref 166], 0, 0) 14 3 (fun _ => rfl) h) ?_
  refine pj_X_of (fun r h => pj_T_gr iG5 rfl rfl rfl h) ?_
  refine pj_X_of (fun r h => pj_R_to (G5, 20, [(0, .ref 21), (1, .ref 165)], [.int ((Int8.ofInt 6).toInt32), .int (Int32.ofInt 0), .ref 22, .int (Int32.ofInt 0), .ref 166], 0, 0) 20 3 (fun _ => rfl) h) ?_
  refine pj_X_of (fun r h => pj_T_cp iG5 rfl rfl rfl rfl (by omega) (by omega) (by show _ = ((6 : Nat) : Int); omega) (Nat.le_of_ble_eq_true rfl) h) ?_
  show pj_X _ _ (pj_wc G5 166 22 6) 23 [(0, .ref 21), (1, .ref 165)] [] _
  obtain ⟨G6, hG6⟩ : ∃ H, H = pj_wc G5 166 22 6 := ⟨_, rfl⟩
  have iG6 : pj_Inv G6 := by rw [hG6]; exact pj_Inv_wc iG5 rfl rfl (fun q hq => by cases hq; exact ⟨rfl, by decide⟩) rfl
  have kG6 : pj_kpt kc_68_21_165x G0 G6 := by rw [hG6]; exact pj_kpt_c kG5 rfl
  rw [← hG6]
  rw [pj_nm_e]
  refine pj_X_of (fun r h => pj_R_to (G6, 24, [(0, .ref 21), (1, .ref 165)], [.ref 165], 0, 0) 24 2 (fun _ => rfl) h) ?_
  refine pj_X_of (fun r h => pj_T_gr iG6 rfl rfl rfl h) ?_
  refine pj_X_of (fun r h => pj_R_to (G6, 29, [(0, .ref 21), (1, .ref 165)], [.ref 21, .int (Int32.ofInt 0), .ref 167], 0, 0) 29 3 (fun _ => rfl) h) ?_
  refine pj_X_of (fun r h => pj_T_gr iG6 rfl rfl rfl h) ?_
  refine pj_X_of (fun r h => pj_R_to (G6, 35, [(0, .ref 21), (1, .ref 165)], [.int ((Int8.ofInt 6).toInt32), .int (Int32.ofInt 0), .ref 23, .int (Int32.ofInt 0), .ref 167], 0, 0) 35 3 (fun _ => rfl) h) ?_
  refine pj_X_of (fun r h => pj_T_cp iG6 rfl rfl rfl rfl (by omega) (by omega) (by show _ = ((6 : Nat) : Int); omega) (Nat.le_of_ble_eq_true rfl) h) ?_
  show pj_X _ _ (pj_wc G6 167 23 6) 38 [(0, .ref 21), (1, .ref 165)] [] _
  obtain ⟨G7, hG7⟩ : ∃ H, H = pj_wc G6 167 23 6 := ⟨_, rfl⟩
  have iG7 : pj_Inv G7 := by rw [hG7]; exact pj_Inv_wc iG6 rfl rfl (fun q hq => by cases hq) rfl
  have kG7 : pj_kpt kc_68_21_165x G0 G7 := by rw [hG7]; exact pj_kpt_c kG6 rfl
  rw [← hG7]
  rw [pj_nm_e]
  refine pj_X_of (fun r h => pj_R_to (G7, 39, [(0, .ref 21), (1, .ref 165)], [.ref 165], 0, 0) 39 2 (fun _ => rfl) h) ?_
  refine pj_X_of (fun r h => pj_T_gr iG7 rfl rfl rfl h) ?_
  refine pj_X_of (fun r h => pj_R_to (G7, 44, [(0, .ref 21), (1, .ref 165)], [.ref 21, .int (Int32.ofInt 0), .ref 168], 0, 0) 44 3 (fun _ => rfl) h) ?_
  refine pj_X_of (fun r h => pj_T_gr iG7 rfl rfl rfl h) ?_
  refine pj_X_of (fun r h => pj_R_to (G7, 50, [(0, .ref 21), (1, .ref 165)], [.int ((Int8.ofInt 6).toInt32), .int (Int32.ofInt 0), .ref 24, .int (Int32.ofInt 0), .ref 168], 0, 0) 50 3 (fun _ => rfl) h) ?_
  refine pj_X_of (fun r h => pj_T_cp iG7 rfl rfl rfl rfl (by omega) (by omega) (by show _ = ((6 : Nat) : Int); omega) (Nat.le_of_ble_eq_true rfl) h) ?_
  show pj_X _ _ (pj_wc G7 168 24 6) 53 [(0, .ref 21), (1, .ref 165)] [] _
  obtain ⟨G8, hG8⟩ : ∃ H, H = pj_wc G7 168 24 6 := ⟨_, rfl⟩
  have iG8 : pj_Inv G8 := by rw [hG8]; exact pj_Inv_wc iG7 rfl rfl (fun q hq => by cases hq) rfl
  have kG8 : pj_kpt kc_68_21_165x G0 G8 := by rw [hG8]; exact pj_kpt_c kG7 rfl
  rw [← hG8]
  rw [pj_nm_e]
  refine pj_X_of (fun r h => pj_R_to (G8, 54, [(0, .ref 21), (1, .ref 165)], [.ref 165], 0, 0) 54 2 (fun _ => rfl) h) ?_
  refine pj_X_of (fun r h => pj_T_gr iG8 rfl rfl rfl h) ?_
  refine pj_X_of (fun r h => pj_R_to (G8, 59, [(0, .ref 21), (1, .ref 165)], [.ref 21, .int (Int32.ofInt 0), .ref 169], 0, 0) 59 3 (fun _ => rfl) h) ?_
  refine pj_X_of (fun r h => pj_T_gr iG8 rfl rfl rfl h) ?_
  refine pj_X_of (fun r h => pj_R_to (G8, 65, [(0, .ref 21), (1, .ref 165)], [.int ((Int8.ofInt 6).toInt32), .int (Int32.ofInt 0), .ref 25, .int (Int32.ofInt 0), .ref 169], 0, 0) 65 3 (fun _ => rfl) h) ?_
  refine pj_X_of (fun r h => pj_T_cp iG8 rfl rfl rfl rfl (by omega) (by omega) (by show _ = ((6 : Nat) : Int); omega) (Nat.le_of_ble_eq_true rfl) h) ?_
  show pj_X _ _ (pj_wc G8 169 25 6) 68 [(0, .ref 21), (1, .ref 165)] [] _
  obtain ⟨G9, hG9⟩ : ∃ H, H = pj_wc G8 169 25 6 := ⟨_, rfl⟩
  have iG9 : pj_Inv G9 := by rw [hG9]; exact pj_Inv_wc iG8 rfl rfl (fun q hq => by cases hq) rfl
  have kG9 : pj_kpt kc_68_21_165x G0 G9 := by rw [hG9]; exact pj_kpt_c kG8 rfl
  rw [← hG9]
  rw [pj_nm_e]
  refine pj_X_of (fun r h => pj_R_to (G9, 70, [(0, .ref 21), (1, .ref 165)], [.ref 165, .ref 21], 0, 0) 70 3 (fun _ => rfl) h) ?_
  refine pj_X_of (fun r h => pj_T_gi iG9 rfl rfl h) ?_
  show pj_X _ _ G9 73 [(0, .ref 21), (1, .ref 165)] [.int (pj_fi G9 165 5), .ref 21] _
  rw [← hy4, pj_nm_e]
  rw [show pj_fi G9 165 5 = y4 from by rw [hG9, pj_fi_wc]; exact (by rw [hG8, pj_fi_wc]; exact (by rw [hG7, pj_fi_wc]; exact (by rw [hG6, pj_fi_wc]; exact (by rw [hG5, pj_fi_wv_ne _ _ _ _ _ _ (by decide)]; exact hy4.symm))))]
  refine pj_X_of (fun r h => pj_T_pf iG9 rfl rfl rfl h) ?_
  show pj_X _ _ (pj_wv G9 21 5 (.int y4)) 76 [(0, .ref 21), (1, .ref 165)] [] _
  obtain ⟨G10, hG10⟩ : ∃ H, H = pj_wv G9 21 5 (.int y4) := ⟨_, rfl⟩
  have iG10 : pj_Inv G10 := by rw [hG10]; exact pj_Inv_wi iG9 (ci := 8) rfl (fun q hq => by cases hq; exact ⟨by show (0 : Int) ≤ _; omega, by show _ ≤ (6 : Int); omega⟩)
  have kG10 : pj_kpt kc_68_21_165x G0 G10 := by rw [hG10]; exact pj_kpt_v kG9 rfl
  rw [← hG10]
  rw [pj_nm_e]
  refine pj_X_of (fun r h => pj_R_to (G10, 77, [(0, .ref 21), (1, .ref 165)], [.ref 165], 0, 0) 77 2 (fun _ => rfl) h) ?_
  refine pj_X_of (fun r h => pj_T_gr iG10 rfl rfl rfl h) ?_
  refine pj_X_of (fun r h => pj_R_to (G10, 82, [(0, .ref 21), (1, .ref 165)], [.ref 21, .int (Int32.ofInt 0), .ref 170], 0, 0) 82 3 (fun _ => rfl) h) ?_
  refine pj_X_of (fun r h => pj_T_gr iG10 rfl rfl rfl h) ?_
  refine pj_X_of (fun r h => pj_R_to (G10, 88, [(0, .ref 21), (1, .ref 165)], [.int ((Int8.ofInt 6).toInt32), .int (Int32.ofInt 0), .ref 26, .int (Int32.ofInt 0), .ref 170], 0, 0) 88 3 (fun _ => rfl) h) ?_
  refine pj_X_of (fun r h => pj_T_cp iG10 rfl rfl rfl rfl (by omega) (by omega) (by show _ = ((6 : Nat) : Int); omega) (Nat.le_of_ble_eq_true rfl) h) ?_
  show pj_X _ _ (pj_wc G10 170 26 6) 91 [(0, .ref 21), (1, .ref 165)] [] _
  obtain ⟨G11, hG11⟩ : ∃ H, H = pj_wc G10 170 26 6 := ⟨_, rfl⟩
  have iG11 : pj_Inv G11 := by rw [hG11]; exact pj_Inv_wc iG10 rfl rfl (fun q hq => by cases hq; exact ⟨rfl, by decide⟩) rfl
  have kG11 : pj_kpt kc_68_21_165x G0 G11 := by rw [hG11]; exact pj_kpt_c kG10 rfl
  rw [← hG11]
  rw [pj_nm_e]
  refine pj_X_of (fun r h => pj_R_to (G11, 93, [(0, .ref 21), (1, .ref 165)], [.ref 165, .ref 21], 0, 0) 93 3 (fun _ => rfl) h) ?_
  refine pj_X_of (fun r h => pj_T_gi iG11 rfl rfl h) ?_
  show pj_X _ _ G11 96 [(0, .ref 21), (1, .ref 165)] [.int (pj_fi G11 165 7), .ref 21] _
  obtain ⟨y12, hy12⟩ : ∃ z : Int32, z = pj_fi G11 165 7 := ⟨_, rfl⟩
  rw [← hy12]
  rw [pj_nm_e]
  have ey12 : (pj_fi G11 165 7).toInt = y12.toInt := by rw [hy12]
  refine pj_X_of (fun r h => pj_T_pf iG11 rfl rfl rfl h) ?_
  show pj_X _ _ (pj_wv G11 21 7 (.int y12)) 99 [(0, .ref 21), (1, .ref 165)] [] _
  obtain ⟨G13, hG13⟩ : ∃ H, H = pj_wv G11 21 7 (.int y12) := ⟨_, rfl⟩
  have iG13 : pj_Inv G13 := by rw [hG13]; exact pj_Inv_wi iG11 (ci := 8) rfl (fun q hq => by cases hq)
  have kG13 : pj_kpt kc_68_21_165x G0 G13 := by rw [hG13]; exact pj_kpt_v kG11 rfl
  rw [← hG13]
  rw [pj_nm_e]
  refine pj_X_of (fun r h => pj_R_to (G13, 101, [(0, .ref 21), (1, .ref 165)], [.ref 165, .ref 21], 0, 0) 101 3 (fun _ => rfl) h) ?_
  refine pj_X_of (fun r h => pj_T_gi iG13 rfl rfl h) ?_
  show pj_X _ _ G13 104 [(0, .ref 21), (1, .ref 165)] [.int (pj_fi G13 165 8), .ref 21] _
  obtain ⟨y14, hy14⟩ : ∃ z : Int32, z = pj_fi G13 165 8 := ⟨_, rfl⟩
  rw [← hy14]
  rw [pj_nm_e]
  have ey14 : (pj_fi G13 165 8).toInt = y14.toInt := by rw [hy14]
  refine pj_X_of (fun r h => pj_T_pf iG13 rfl rfl rfl h) ?_
  show pj_X _ _ (pj_wv G13 21 8 (.int y14)) 107 [(0, .ref 21), (1, .ref 165)] [] _
  obtain ⟨G15, hG15⟩ : ∃ H, H = pj_wv G13 21 8 (.int y14) := ⟨_, rfl⟩
  have iG15 : pj_Inv G15 := by rw [hG15]; exact pj_Inv_wi iG13 (ci := 8) rfl (fun q hq => by cases hq)
  have kG15 : pj_kpt kc_68_21_165x G0 G15 := by rw [hG15]; exact pj_kpt_v kG13 rfl
  rw [← hG15]
  rw [pj_nm_e]
  have q16 : (pj_fi G15 21 0).toInt = y3.toInt := by rw [show pj_fi G15 21 0 = y3 from by rw [hG15, pj_fi_wv_ne _ _ _ _ _ _ (by decide)]; exact (by rw [hG13, pj_fi_wv_ne _ _ _ _ _ _ (by decide)]; exact (by rw [hG11, pj_fi_wc]; exact (by rw [hG10, pj_fi_wv_ne _ _ _ _ _ _ (by decide)]; exact (by rw [hG9, pj_fi_wc]; exact (by rw [hG8, pj_fi_wc]; exact (by rw [hG7, pj_fi_wc]; exact (by rw [hG6, pj_fi_wc]; exact (by rw [hG5]; exact pj_fi_wi hI.1 (ci := 8) rfl _))))))))]
  have q17 : (pj_fi G15 21 5).toInt = y4.toInt := by rw [show pj_fi G15 21 5 = y4 from by rw [hG15, pj_fi_wv_ne _ _ _ _ _ _ (by decide)]; exact (by rw [hG13, pj_fi_wv_ne _ _ _ _ _ _ (by decide)]; exact (by rw [hG11, pj_fi_wc]; exact (by rw [hG10]; exact pj_fi_wi iG9.1 (ci := 8) rfl _)))]
  have q18 : (pj_fi G15 165 0).toInt = y3.toInt := by rw [show pj_fi G15 165 0 = y3 from by rw [hG15, pj_fi_wv_ne _ _ _ _ _ _ (by decide)]; exact (by rw [hG13, pj_fi_wv_ne _ _ _ _ _ _ (by decide)]; exact (by rw [hG11, pj_fi_wc]; exact (by rw [hG10, pj_fi_wv_ne _ _ _ _ _ _ (by decide)]; exact (by rw [hG9, pj_fi_wc]; exact (by rw [hG8, pj_fi_wc]; exact (by rw [hG7, pj_fi_wc]; exact (by rw [hG6, pj_fi_wc]; exact (by rw [hG5, pj_fi_wv_ne _ _ _ _ _ _ (by decide)]; exact hy3.symm))))))))]
  have q19 : (pj_fi G15 165 5).toInt = y4.toInt := by rw [show pj_fi G15 165 5 = y4 from by rw [hG15, pj_fi_wv_ne _ _ _ _ _ _ (by decide)]; exact (by rw [hG13, pj_fi_wv_ne _ _ _ _ _ _ (by decide)]; exact (by rw [hG11, pj_fi_wc]; exact (by rw [hG10, pj_fi_wv_ne _ _ _ _ _ _ (by decide)]; exact (by rw [hG9, pj_fi_wc]; exact (by rw [hG8, pj_fi_wc]; exact (by rw [hG7, pj_fi_wc]; exact (by rw [hG6, pj_fi_wc]; exact (by rw [hG5, pj_fi_wv_ne _ _ _ _ _ _ (by decide)]; exact hy4.symm))))))))]
  exact pj_X_rt rfl rfl ⟨rfl, iG15, kG15, (fun H hH => by subst hH; exact (by omega)), rfl⟩
theorem fr_68_21_165x (G0 : pj_G) (hI : pj_Inv G0) : pj_Inv (F_68_21_165x G0) ∧ pj_kpt kc_68_21_165x G0 (F_68_21_165x G0) ∧ ((pj_fi (F_68_21_165x G0) 21 0).toInt = (pj_fi G0 165 0).toInt ∧ (pj_fi (F_68_21_165x G0) 21 5).toInt = (pj_fi G0 165 5).toInt) := by
  obtain ⟨v, G', -, -, i, j, x, e⟩ := ct_68_21_165x G0 hI 
  rw [← e]
  exact ⟨i, j, x _ rfl⟩
def kc_68_39_21x : pj_KT := ([(39, 0), (39, 5), (39, 7), (39, 8)], [39, 40, 41, 42, 43, 44], [40, 41, 42, 43, 44])
noncomputable def F_68_39_21x (G0 : pj_G) : pj_G := pj_nm (pj_fi G0 21 0) (fun y3 => pj_nm (pj_wv G0 39 0 (.int y3)) (fun G5 => pj_nm (pj_wc G5 22 40 6) (fun G6 => pj_nm (pj_wc G6 23 41 6) (fun G7 => pj_nm (pj_wc G7 24 42 6) (fun G8 => pj_nm (pj_wc G8 25 43 6) (fun G9 => pj_nm (pj_fi G0 21 5) (fun y4 => pj_nm (pj_wv G9 39 5 (.int y4)) (fun G10 => pj_nm (pj_wc G10 26 44 6) (fun G11 => pj_nm (pj_fi G11 21 7) (fun y12 => pj_nm (pj_wv G11 39 7 (.int y12)) (fun G13 => pj_nm (pj_fi G13 21 8) (fun y14 => pj_nm (pj_wv G13 39 8 (.int y14)) (fun G15 => G15)))))))))))))
theorem F_68_39_21x_e (G0 : pj_G) : F_68_39_21x G0 = pj_nm (pj_fi G0 21 0) (fun y3 => pj_nm (pj_wv G0 39 0 (.int y3)) (fun G5 => pj_nm (pj_wc G5 22 40 6) (fun G6 => pj_nm (pj_wc G6 23 41 6) (fun G7 => pj_nm (pj_wc G7 24 42 6) (fun G8 => pj_nm (pj_wc G8 25 43 6) (fun G9 => pj_nm (pj_fi G0 21 5) (fun y4 => pj_nm (pj_wv G9 39 5 (.int y4)) (fun G10 => pj_nm (pj_wc G10 26 44 6) (fun G11 => pj_nm (pj_fi G11 21 7) (fun y12 => pj_nm (pj_wv G11 39 7 (.int y12)) (fun G13 => pj_nm (pj_fi G13 21 8) (fun y14 => pj_nm (pj_wv G13 39 8 (.int y14)) (fun G15 => G15))))))))))))) := rfl
theorem ct_68_39_21x (G0 : pj_G) (hI : pj_Inv G0) : pj_Y 1 68 [.ref 39, .ref 21] G0 (fun v' G' => v' = none ∧ pj_Inv G' ∧ pj_kpt kc_68_39_21x G0 G' ∧ (∀ H, G0 = H → ((pj_fi G' 39 0).toInt = (pj_fi H 21 0).toInt ∧ (pj_fi G' 39 5).toInt = (pj_fi H 21 5).toInt)) ∧ (G' = F_68_39_21x G0)) := by
  have c0_ : ((Int8.ofInt 6).toInt32).toInt = 6 := by decide
  have c1_ : (Int32.ofInt 0).toInt = 0 := by decide
  refine pj_Y_X (M := pj_m68) rfl rfl (Nat.le_of_ble_eq_true rfl) ?_
  have hK : pj_kpt kc_68_39_21x G0 G0 := pj_kpt_r _ _
  show pj_X _ _ G0 0 [(0, .ref 39), (1, .ref 21)] [] _
  rw [F_68_39_21x_e]
  obtain ⟨y1, hy1⟩ : ∃ z : Int32, z = pj_fi G0 39 0 := ⟨_, rfl⟩
  have ey1 : (pj_fi G0 39 0).toInt = y1.toInt := by rw [hy1]
  have ry1 : (0 : Int) ≤ y1.toInt ∧ y1.toInt ≤ 6 := by rw [hy1]; exact hI.2.1 39 0 (0, 6) rfl
  obtain ⟨y2, hy2⟩ : ∃ z : Int32, z = pj_fi G0 39 5 := ⟨_, rfl⟩
  have ey2 : (pj_fi G0 39 5).toInt = y2.toInt := by rw [hy2]
  have ry2 : (0 : Int) ≤ y2.toInt ∧ y2.toInt ≤ 6 := by rw [hy2]; exact hI.2.1 39 5 (0, 6) rfl
  obtain ⟨y3, hy3⟩ : ∃ z : Int32, z = pj_fi G0 21 0 := ⟨_, rfl⟩
  have ey3 : (pj_fi G0 21 0).toInt = y3.toInt := by rw [hy3]
  have ry3 : (0 : Int) ≤ y3.toInt ∧ y3.toInt ≤ 6 := by rw [hy3]; exact hI.2.1 21 0 (0, 6) rfl
  obtain ⟨y4, hy4⟩ : ∃ z : Int32, z = pj_fi G0 21 5 := ⟨_, rfl⟩
  have ey4 : (pj_fi G0 21 5).toInt = y4.toInt := by rw [hy4]
  have ry4 : (0 : Int) ≤ y4.toInt ∧ y4.toInt ≤ 6 := by rw [hy4]; exact hI.2.1 21 5 (0, 6) rfl
  refine pj_X_of (fun r h => pj_R_to (G0, 2, [(0, .ref 39), (1, .ref 21)], [.ref 21, .ref 39], 0, 0) 2 3 (fun _ => rfl) h) ?_
  refine pj_X_of (fun r h => pj_T_gi hI rfl rfl h) ?_
  show pj_X _ _ G0 5 [(0, .ref 39), (1, .ref 21)] [.int (pj_fi G0 21 0), .ref 39] _
  rw [← hy3, pj_nm_e]
  refine pj_X_of (fun r h => pj_T_pf hI rfl rfl rfl h) ?_
  show pj_X _ _ (pj_wv G0 39 0 (.int y3)) 8 [(0, .ref 39), (1, .ref 21)] [] _
  obtain ⟨G5, hG5⟩ : ∃ H, H = pj_wv G0 39 0 (.int y3) := ⟨_, rfl⟩
  have iG5 : pj_Inv G5 := by rw [hG5]; exact pj_Inv_wi hI (ci := 8) rfl (fun q hq => by cases hq; exact ⟨by show (0 : Int) ≤ _; omega, by show _ ≤ (6 : Int); omega⟩)
  have kG5 : pj_kpt kc_68_39_21x G0 G5 := by rw [hG5]; exact pj_kpt_v hK rfl
  rw [← hG5]
  rw [pj_nm_e]
  refine pj_X_of (fun r h => pj_R_to (G5, 9, [(0, .ref 39), (1, .ref 21)], [.ref 21], 0, 0) 9 2 (fun _ => rfl) h) ?_
  refine pj_X_of (fun r h => pj_T_gr iG5 rfl rfl rfl h) ?_
  refine pj_X_of (fun r h => pj_R_to (G5, 14, [(0, .ref 39), (1, .ref 21)], [.ref 39, .int (Int32.ofInt 0), .ref 22], 0, 0) 14 3 (fun _ => rfl) h) ?_
  refine pj_X_of (fun r h => pj_T_gr iG5 rfl rfl rfl h) ?_
  refine pj_X_of (fun r h => pj_R_to (G5, 20, [(0, .ref 39), (1, .ref 21)], [.int ((Int8.ofInt 6).toInt32), .int (Int32.ofInt 0), .ref 40, .int (Int32.ofInt 0), .ref 22], 0, 0) 20 3 (fun _ => rfl) h) ?_
  refine pj_X_of (fun r h => pj_T_cp iG5 rfl rfl rfl rfl (by omega) (by omega) (by show _ = ((6 : Nat) : Int); omega) (Nat.le_of_ble_eq_true rfl) h) ?_
  show pj_X _ _ (pj_wc G5 22 40 6) 23 [(0, .ref 39), (1, .ref 21)] [] _
  obtain ⟨G6, hG6⟩ : ∃ H, H = pj_wc G5 22 40 6 := ⟨_, rfl⟩
  have iG6 : pj_Inv G6 := by rw [hG6]; exact pj_Inv_wc iG5 rfl rfl (fun q hq => by cases hq; exact ⟨rfl, by decide⟩) rfl
  have kG6 : pj_kpt kc_68_39_21x G0 G6 := by rw [hG6]; exact pj_kpt_c kG5 rfl
  rw [← hG6]
  rw [pj_nm_e]
  refine pj_X_of (fun r h => pj_R_to (G6, 24, [(0, .ref 39), (1, .ref 21)], [.ref 21], 0, 0) 24 2 (fun _ => rfl) h) ?_
  refine pj_X_of (fun r h => pj_T_gr iG6 rfl rfl rfl h) ?_
  refine pj_X_of (fun r h => pj_R_to (G6, 29, [(0, .ref 39), (1, .ref 21)], [.ref 39, .int (Int32.ofInt 0), .ref 23], 0, 0) 29 3 (fun _ => rfl) h) ?_
  refine pj_X_of (fun r h => pj_T_gr iG6 rfl rfl rfl h) ?_
  refine pj_X_of (fun r h => pj_R_to (G6, 35, [(0, .ref 39), (1, .ref 21)], [.int ((Int8.ofInt 6).toInt32), .int (Int32.ofInt 0), .ref 41, .int (Int32.ofInt 0), .ref 23], 0, 0) 35 3 (fun _ => rfl) h) ?_
  refine pj_X_of (fun r h => pj_T_cp iG6 rfl rfl rfl rfl (by omega) (by omega) (by show _ = ((6 : Nat) : Int); omega) (Nat.le_of_ble_eq_true rfl) h) ?_
  show pj_X _ _ (pj_wc G6 23 41 6) 38 [(0, .ref 39), (1, .ref 21)] [] _
  obtain ⟨G7, hG7⟩ : ∃ H, H = pj_wc G6 23 41 6 := ⟨_, rfl⟩
  have iG7 : pj_Inv G7 := by rw [hG7]; exact pj_Inv_wc iG6 rfl rfl (fun q hq => by cases hq) rfl
  have kG7 : pj_kpt kc_68_39_21x G0 G7 := by rw [hG7]; exact pj_kpt_c kG6 rfl
  rw [← hG7]
  rw [pj_nm_e]
  refine pj_X_of (fun r h => pj_R_to (G7, 39, [(0, .ref 39), (1, .ref 21)], [.ref 21], 0, 0) 39 2 (fun _ => rfl) h) ?_
  refine pj_X_of (fun r h => pj_T_gr iG7 rfl rfl rfl h) ?_
  refine pj_X_of (fun r h => pj_R_to (G7, 44, [(0, .ref 39), (1, .ref 21)], [.ref 39, .int (Int32.ofInt 0), .ref 24], 0, 0) 44 3 (fun _ => rfl) h) ?_
  refine pj_X_of (fun r h => pj_T_gr iG7 rfl rfl rfl h) ?_
  refine pj_X_of (fun r h => pj_R_to (G7, 50, [(0, .ref 39), (1, .ref 21)], [.int ((Int8.ofInt 6).toInt32), .int (Int32.ofInt 0), .ref 42, .int (Int32.ofInt 0), .ref 24], 0, 0) 50 3 (fun _ => rfl) h) ?_
  refine pj_X_of (fun r h => pj_T_cp iG7 rfl rfl rfl rfl (by omega) (by omega) (by show _ = ((6 : Nat) : Int); omega) (Nat.le_of_ble_eq_true rfl) h) ?_
  show pj_X _ _ (pj_wc G7 24 42 6) 53 [(0, .ref 39), (1, .ref 21)] [] _
  obtain ⟨G8, hG8⟩ : ∃ H, H = pj_wc G7 24 42 6 := ⟨_, rfl⟩
  have iG8 : pj_Inv G8 := by rw [hG8]; exact pj_Inv_wc iG7 rfl rfl (fun q hq => by cases hq) rfl
  have kG8 : pj_kpt kc_68_39_21x G0 G8 := by rw [hG8]; exact pj_kpt_c kG7 rfl
  rw [← hG8]
  rw [pj_nm_e]
  refine pj_X_of (fun r h => pj_R_to (G8, 54, [(0, .ref 39), (1, .ref 21)], [.ref 21], 0, 0) 54 2 (fun _ => rfl) h) ?_
  refine pj_X_of (fun r h => pj_T_gr iG8 rfl rfl rfl h) ?_
  refine pj_X_of (fun r h => pj_R_to (G8, 59, [(0, .ref 39), (1, .ref 21)], [.ref 39, .int (Int32.ofInt 0), .ref 25], 0, 0) 59 3 (fun _ => rfl) h) ?_
  refine pj_X_of (fun r h => pj_T_gr iG8 rfl rfl rfl h) ?_
  refine pj_X_of (fun r h => pj_R_to (G8, 65, [(0, .ref 39), (1, .ref 21)], [.int ((Int8.ofInt 6).toInt32), .int (Int32.ofInt 0), .ref 43, .int (Int32.ofInt 0), .ref 25], 0, 0) 65 3 (fun _ => rfl) h) ?_
  refine pj_X_of (fun r h => pj_T_cp iG8 rfl rfl rfl rfl (by omega) (by omega) (by show _ = ((6 : Nat) : Int); omega) (Nat.le_of_ble_eq_true rfl) h) ?_
  show pj_X _ _ (pj_wc G8 25 43 6) 68 [(0, .ref 39), (1, .ref 21)] [] _
  obtain ⟨G9, hG9⟩ : ∃ H, H = pj_wc G8 25 43 6 := ⟨_, rfl⟩
  have iG9 : pj_Inv G9 := by rw [hG9]; exact pj_Inv_wc iG8 rfl rfl (fun q hq => by cases hq) rfl
  have kG9 : pj_kpt kc_68_39_21x G0 G9 := by rw [hG9]; exact pj_kpt_c kG8 rfl
  rw [← hG9]
  rw [pj_nm_e]
  refine pj_X_of (fun r h => pj_R_to (G9, 70, [(0, .ref 39), (1, .ref 21)], [.ref 21, .ref 39], 0, 0) 70 3 (fun _ => rfl) h) ?_
  refine pj_X_of (fun r h => pj_T_gi iG9 rfl rfl h) ?_
  show pj_X _ _ G9 73 [(0, .ref 39), (1, .ref 21)] [.int (pj_fi G9 21 5), .ref 39] _
  rw [← hy4, pj_nm_e]
  rw [show pj_fi G9 21 5 = y4 from by rw [hG9, pj_fi_wc]; exact (by rw [hG8, pj_fi_wc]; exact (by rw [hG7, pj_fi_wc]; exact (by rw [hG6, pj_fi_wc]; exact (by rw [hG5, pj_fi_wv_ne _ _ _ _ _ _ (by decide)]; exact hy4.symm))))]
  refine pj_X_of (fun r h => pj_T_pf iG9 rfl rfl rfl h) ?_
  show pj_X _ _ (pj_wv G9 39 5 (.int y4)) 76 [(0, .ref 39), (1, .ref 21)] [] _
  obtain ⟨G10, hG10⟩ : ∃ H, H = pj_wv G9 39 5 (.int y4) := ⟨_, rfl⟩
  have iG10 : pj_Inv G10 := by rw [hG10]; exact pj_Inv_wi iG9 (ci := 8) rfl (fun q hq => by cases hq; exact ⟨by show (0 : Int) ≤ _; omega, by show _ ≤ (6 : Int); omega⟩)
  have kG10 : pj_kpt kc_68_39_21x G0 G10 := by rw [hG10]; exact pj_kpt_v kG9 rfl
  rw [← hG10]
  rw [pj_nm_e]
  refine pj_X_of (fun r h => pj_R_to (G10, 77, [(0, .ref 39), (1, .ref 21)], [.ref 21], 0, 0) 77 2 (fun _ => rfl) h) ?_
  refine pj_X_of (fun r h => pj_T_gr iG10 rfl rfl rfl h) ?_
  refine pj_X_of (fun r h => pj_R_to (G10, 82, [(0, .ref 39), (1, .ref 21)], [.ref 39, .int (Int32.ofInt 0), .ref 26], 0, 0) 82 3 (fun _ => rfl) h) ?_
  refine pj_X_of (fun r h => pj_T_gr iG10 rfl rfl rfl h) ?_
  refine pj_X_of (fun r h => pj_R_to (G10, 88, [(0, .ref 39), (1, .ref 21)], [.int ((Int8.ofInt 6).toInt32), .int (Int32.ofInt 0), .ref 44, .int (Int32.ofInt 0), .ref 26], 0, 0) 88 3 (fun _ => rfl) h) ?_
  refine pj_X_of (fun r h => pj_T_cp iG10 rfl rfl rfl rfl (by omega) (by omega) (by show _ = ((6 : Nat) : Int); omega) (Nat.le_of_ble_eq_true rfl) h) ?_
  show pj_X _ _ (pj_wc G10 26 44 6) 91 [(0, .ref 39), (1, .ref 21)] [] _
  obtain ⟨G11, hG11⟩ : ∃ H, H = pj_wc G10 26 44 6 := ⟨_, rfl⟩
  have iG11 : pj_Inv G11 := by rw [hG11]; exact pj_Inv_wc iG10 rfl rfl (fun q hq => by cases hq; exact ⟨rfl, by decide⟩) rfl
  have kG11 : pj_kpt kc_68_39_21x G0 G11 := by rw [hG11]; exact pj_kpt_c kG10 rfl
  rw [← hG11]
  rw [pj_nm_e]
  refine pj_X_of (fun r h => pj_R_to (G11, 93, [(0, .ref 39), (1, .ref 21)], [.ref 21, .ref 39], 0, 0) 93 3 (fun _ => rfl) h) ?_
  refine pj_X_of (fun r h => pj_T_gi iG11 rfl rfl h) ?_
  show pj_X _ _ G11 96 [(0, .ref 39), (1, .ref 21)] [.int (pj_fi G11 21 7), .ref 39] _
  obtain ⟨y12, hy12⟩ : ∃ z : Int32, z = pj_fi G11 21 7 := ⟨_, rfl⟩
  rw [← hy12]
  rw [pj_nm_e]
  have ey12 : (pj_fi G11 21 7).toInt = y12.toInt := by rw [hy12]
  refine pj_X_of (fun r h => pj_T_pf iG11 rfl rfl rfl h) ?_
  show pj_X _ _ (pj_wv G11 39 7 (.int y12)) 99 [(0, .ref 39), (1, .ref 21)] [] _
  obtain ⟨G13, hG13⟩ : ∃ H, H = pj_wv G11 39 7 (.int y12) := ⟨_, rfl⟩
  have iG13 : pj_Inv G13 := by rw [hG13]; exact pj_Inv_wi iG11 (ci := 8) rfl (fun q hq => by cases hq)
  have kG13 : pj_kpt kc_68_39_21x G0 G13 := by rw [hG13]; exact pj_kpt_v kG11 rfl
  rw [← hG13]
  rw [pj_nm_e]
  refine pj_X_of (fun r h => pj_R_to (G13, 101, [(0, .ref 39), (1, .ref 21)], [.ref 21, .ref 39], 0, 0) 101 3 (fun _ => rfl) h) ?_
  refine pj_X_of (fun r h => pj_T_gi iG13 rfl rfl h) ?_
  show pj_X _ _ G13 104 [(0, .ref 39), (1, .ref 21)] [.int (pj_fi G13 21 8), .ref 39] _
  obtain ⟨y14, hy14⟩ : ∃ z : Int32, z = pj_fi G13 21 8 := ⟨_, rfl⟩
  rw [← hy14]
  rw [pj_nm_e]
  have ey14 : (pj_fi G13 21 8).toInt = y14.toInt := by rw [hy14]
  refine pj_X_of (fun r h => pj_T_pf iG13 rfl rfl rfl h) ?_
  show pj_X _ _ (pj_wv G13 39 8 (.int y14)) 107 [(0, .ref 39), (1, .ref 21)] [] _
  obtain ⟨G15, hG15⟩ : ∃ H, H = pj_wv G13 39 8 (.int y14) := ⟨_, rfl⟩
  have iG15 : pj_Inv G15 := by rw [hG15]; exact pj_Inv_wi iG13 (ci := 8) rfl (fun q hq => by cases hq)
  have kG15 : pj_kpt kc_68_39_21x G0 G15 := by rw [hG15]; exact pj_kpt_v kG13 rfl
  rw [← hG15]
  rw [pj_nm_e]
  have q16 : (pj_fi G15 39 0).toInt = y3.toInt := by rw [show pj_fi G15 39 0 = y3 from by rw [hG15, pj_fi_wv_ne _ _ _ _ _ _ (by decide)]; exact (by rw [hG13, pj_fi_wv_ne _ _ _ _ _ _ (by decide)]; exact (by rw [hG11, pj_fi_wc]; exact (by rw [hG10, pj_fi_wv_ne _ _ _ _ _ _ (by decide)]; exact (by rw [hG9, pj_fi_wc]; exact (by rw [hG8, pj_fi_wc]; exact (by rw [hG7, pj_fi_wc]; exact (by rw [hG6, pj_fi_wc]; exact (by rw [hG5]; exact pj_fi_wi hI.1 (ci := 8) rfl _))))))))]
  have q17 : (pj_fi G15 39 5).toInt = y4.toInt := by rw [show pj_fi G15 39 5 = y4 from by rw [hG15, pj_fi_wv_ne _ _ _ _ _ _ (by decide)]; exact (by rw [hG13, pj_fi_wv_ne _ _ _ _ _ _ (by decide)]; exact (by rw [hG11, pj_fi_wc]; exact (by rw [hG10]; exact pj_fi_wi iG9.1 (ci := 8) rfl _)))]
  have q18 : (pj_fi G15 21 0).toInt = y3.toInt := by rw [show pj_fi G15 21 0 = y3 from by rw [hG15, pj_fi_wv_ne _ _ _ _ _ _ (by decide)]; exact (by rw [hG13, pj_fi_wv_ne _ _ _ _ _ _ (by decide)]; exact (by rw [hG11, pj_fi_wc]; exact (by rw [hG10, pj_fi_wv_ne _ _ _ _ _ _ (by decide)]; exact (by rw [hG9, pj_fi_wc]; exact (by rw [hG8, pj_fi_wc]; exact (by rw [hG7, pj_fi_wc]; exact (by rw [hG6, pj_fi_wc]; exact (by rw [hG5, pj_fi_wv_ne _ _ _ _ _ _ (by decide)]; exact hy3.symm))))))))]
  have q19 : (pj_fi G15 21 5).toInt = y4.toInt := by rw [show pj_fi G15 21 5 = y4 from by rw [hG15, pj_fi_wv_ne _ _ _ _ _ _ (by decide)]; exact (by rw [hG13, pj_fi_wv_ne _ _ _ _ _ _ (by decide)]; exact (by rw [hG11, pj_fi_wc]; exact (by rw [hG10, pj_fi_wv_ne _ _ _ _ _ _ (by decide)]; exact (by rw [hG9, pj_fi_wc]; exact (by rw [hG8, pj_fi_wc]; exact (by rw [hG7, pj_fi_wc]; exact (by rw [hG6, pj_fi_wc]; exact (by rw [hG5, pj_fi_wv_ne _ _ _ _ _ _ (by decide)]; exact hy4.symm))))))))]
  exact pj_X_rt rfl rfl ⟨rfl, iG15, kG15, (fun H hH => by subst hH; exact (by omega)), rfl⟩
theorem fr_68_39_21x (G0 : pj_G) (hI : pj_Inv G0) : pj_Inv (F_68_39_21x G0) ∧ pj_kpt kc_68_39_21x G0 (F_68_39_21x G0) ∧ ((pj_fi (F_68_39_21x G0) 39 0).toInt = (pj_fi G0 21 0).toInt ∧ (pj_fi (F_68_39_21x G0) 39 5).toInt = (pj_fi G0 21 5).toInt) := by
  obtain ⟨v, G', -, -, i, j, x, e⟩ := ct_68_39_21x G0 hI 
  rw [← e]
  exact ⟨i, j, x _ rfl⟩
