def kc_60x : pj_KT := ([(27, 3)], [27, 28, 29], [28, 29])
noncomputable def F_60x (G0 : pj_G) (sp : Int32) : pj_G := pj_nm (pj_fi G0 27 3) (fun y1 => cond (pj_c1 .ge y1 ((Int8.ofInt 40).toInt32)) (G0) (cond (pj_rb G0 27 2 28) (pj_nm (pj_wa G0 28 y1.toInt.toNat sp) (fun G4 => pj_nm (y1 + (Int32.ofInt 1)) (fun z5 => pj_nm (pj_wv G4 27 3 (.int z5)) (fun G6 => G6)))) (pj_nm (pj_wa G0 29 y1.toInt.toNat sp) (fun G7 => pj_nm (y1 + (Int32.ofInt 1)) (fun z8 => pj_nm (pj_wv G7 27 3 (.int z8)) (fun G9 => G9))))))
theorem F_60x_e (G0 : pj_G) (sp : Int32) : F_60x G0 sp = pj_nm (pj_fi G0 27 3) (fun y1 => cond (pj_c1 .ge y1 ((Int8.ofInt 40).toInt32)) (G0) (cond (pj_rb G0 27 2 28) (pj_nm (pj_wa G0 28 y1.toInt.toNat sp) (fun G4 => pj_nm (y1 + (Int32.ofInt 1)) (fun z5 => pj_nm (pj_wv G4 27 3 (.int z5)) (fun G6 => G6)))) (pj_nm (pj_wa G0 29 y1.toInt.toNat sp) (fun G7 => pj_nm (y1 + (Int32.ofInt 1)) (fun z8 => pj_nm (pj_wv G7 27 3 (.int z8)) (fun G9 => G9)))))) := rfl
theorem ct_60x (G0 : pj_G) (hI : pj_Inv G0) (sp : Int32) (p0_ : 0 ≤ sp.toInt ∧ sp.toInt ≤ 3255 ∧ (sp.toInt ≤ 1006 ∨ 2000 ≤ sp.toInt)) : pj_Y 1 60 [.ref 27, .int sp] G0 (fun v' G' => v' = none ∧ pj_Inv G' ∧ pj_kpt kc_60x G0 G' ∧ (∀ H, G0 = H → (pr_kc H G')) ∧ (G' = F_60x G0 sp)) := by
  have c0_ : ((Int8.ofInt 40).toInt32).toInt = 40 := by decide
  have c1_ : (Int32.ofInt 1).toInt = 1 := by decide
  refine pj_Y_X (M := pj_m60) rfl rfl (Nat.le_of_ble_eq_true rfl) ?_
  have hK : pj_kpt kc_60x G0 G0 := pj_kpt_r _ _
  show pj_X _ _ G0 0 [(0, .ref 27), (1, .int sp)] [] _
  rw [F_60x_e]
  refine pj_X_of (fun r h => pj_R_to (G0, 1, [(0, .ref 27), (1, .int sp)], [.ref 27], 0, 0) 1 2 (fun _ => rfl) h) ?_
  refine pj_X_of (fun r h => pj_T_gi hI rfl rfl h) ?_
  show pj_X _ _ G0 4 [(0, .ref 27), (1, .int sp)] [.int (pj_fi G0 27 3)] _
  obtain ⟨y1, hy1⟩ : ∃ z : Int32, z = pj_fi G0 27 3 := ⟨_, rfl⟩
  refine pj_X_eqi hy1.symm ?_
  rw [← hy1, pj_nm_e]
  have ey1 : (pj_fi G0 27 3).toInt = y1.toInt := by rw [hy1]
  have ry1 : (0 : Int) ≤ y1.toInt ∧ y1.toInt ≤ 40 := by rw [hy1]; exact hI.2.1 27 3 (0, 40) rfl
  refine pj_X_of (fun r h => pj_R_to (G0, 6, [(0, .ref 27), (1, .int sp)], [.int ((Int8.ofInt 40).toInt32), .int y1], 0, 0) 6 2 (fun _ => rfl) h) ?_
  cases b2 : pj_c1 .ge y1 ((Int8.ofInt 40).toInt32) with
  | true =>
    rw [pj_cT]
    have ub2 := pj_u_geT b2
    refine pj_X_of (fun r h => pj_R_icT 29 rfl rfl b2 h) ?_
    exact pj_X_rt rfl rfl ⟨rfl, hI, hK, (fun H hH => by subst hH; exact ((pr_kc_r _))), rfl⟩
  | false =>
    rw [pj_cF]
    have ub2 := pj_u_geF b2
    refine pj_X_of (fun r h => pj_R_icF rfl b2 h) ?_
    refine pj_X_of (fun r h => pj_R_to (G0, 10, [(0, .ref 27), (1, .int sp)], [.ref 27], 0, 0) 10 2 (fun _ => rfl) h) ?_
    refine pj_X_gm hI rfl rfl (fun q3 => ?_) (fun q3 => ?_)
    · rw [show pj_rb G0 27 2 28 = true from pj_rb_t q3, pj_cT]
      refine pj_X_of (fun r h => pj_R_to (G0, 14, [(0, .ref 27), (1, .int sp)], [.ref 27, .ref 28], 0, 0) 14 2 (fun _ => rfl) h) ?_
      refine pj_X_of (fun r h => pj_T_gi hI rfl rfl h) ?_
      show pj_X _ _ G0 17 [(0, .ref 27), (1, .int sp)] [.int (pj_fi G0 27 3), .ref 28] _
      refine pj_X_eqi (show pj_fi G0 27 3 = y1 from hy1.symm) ?_
      refine pj_X_of (fun r h => pj_R_to (G0, 18, [(0, .ref 27), (1, .int sp)], [.int sp, .int y1, .ref 28], 0, 0) 18 2 (fun _ => rfl) h) ?_
      refine pj_X_of (fun r h => pj_T_is hI rfl rfl (by omega) (by omega) h) ?_
      show pj_X _ _ (pj_wa G0 28 y1.toInt.toNat sp) 19 [(0, .ref 27), (1, .int sp)] [] _
      obtain ⟨G4, hG4⟩ : ∃ H, H = pj_wa G0 28 y1.toInt.toNat sp := ⟨_, rfl⟩
      have iG4 : pj_Inv G4 := by rw [hG4]; exact pj_Inv_wa hI rfl (fun q hq => by cases hq; exact ⟨by show (0 : Int) ≤ _; omega, by show _ ≤ (3255 : Int); omega, by show _ ≤ (1006 : Int) ∨ (2000 : Int) ≤ _; omega⟩) (fun n hn => by cases hn)
      have kG4 : pj_kpt kc_60x G0 G4 := by rw [hG4]; exact pj_kpt_a hK rfl
      rw [← hG4]
      rw [pj_nm_e]
      refine pj_X_of (fun r h => pj_R_to (G4, 21, [(0, .ref 27), (1, .int sp)], [.ref 27, .ref 27], 0, 0) 21 3 (fun _ => rfl) h) ?_
      refine pj_X_of (fun r h => pj_T_gi iG4 rfl rfl h) ?_
      show pj_X _ _ G4 24 [(0, .ref 27), (1, .int sp)] [.int (pj_fi G4 27 3), .ref 27] _
      refine pj_X_eqi (show pj_fi G4 27 3 = y1 from by rw [hG4, pj_fi_wa]; exact hy1.symm) ?_
      refine pj_X_of (fun r h => pj_R_to (G4, 26, [(0, .ref 27), (1, .int sp)], [.int (y1 + (Int32.ofInt 1)), .ref 27], 0, 0) 26 3 (fun _ => rfl) h) ?_
      obtain ⟨z5, hz5⟩ : ∃ z : Int32, z = y1 + (Int32.ofInt 1) := ⟨_, rfl⟩
      refine pj_X_eqi hz5.symm ?_
      rw [← hz5, pj_nm_e]
      have fz5_0 : z5.toInt = y1.toInt + (Int32.ofInt 1).toInt := by rw [hz5]; exact pj_addI (by have := pj_i32 y1; have := pj_i32 (Int32.ofInt 1); omega) (by have := pj_i32 y1; have := pj_i32 (Int32.ofInt 1); omega)
      refine pj_X_of (fun r h => pj_T_pf iG4 rfl rfl rfl h) ?_
      show pj_X _ _ (pj_wv G4 27 3 (.int z5)) 29 [(0, .ref 27), (1, .int sp)] [] _
      obtain ⟨G6, hG6⟩ : ∃ H, H = pj_wv G4 27 3 (.int z5) := ⟨_, rfl⟩
      have iG6 : pj_Inv G6 := by rw [hG6]; exact pj_Inv_wi iG4 (ci := 7) rfl (fun q hq => by cases hq; exact ⟨by show (0 : Int) ≤ _; omega, by show _ ≤ (40 : Int); omega⟩)
      have kG6 : pj_kpt kc_60x G0 G6 := by rw [hG6]; exact pj_kpt_v kG4 rfl
      rw [← hG6]
      rw [pj_nm_e]
      exact pj_X_rt rfl rfl ⟨rfl, iG6, kG6, (fun H hH => by subst hH; exact ((pr_kc_t (show pr_kc G0 G4 from by rw [hG4]; exact pr_kc28 (by assumption) _ _) (show pr_kc G4 G6 from by rw [hG6]; exact pr_kcv _ _)))), rfl⟩
    · rw [show pj_rb G0 27 2 28 = false from pj_rb_f q3 rfl, pj_cF]
      refine pj_X_of (fun r h => pj_R_to (G0, 14, [(0, .ref 27), (1, .int sp)], [.ref 27, .ref 29], 0, 0) 14 2 (fun _ => rfl) h) ?_
      refine pj_X_of (fun r h => pj_T_gi hI rfl rfl h) ?_
      show pj_X _ _ G0 17 [(0, .ref 27), (1, .int sp)] [.int (pj_fi G0 27 3), .ref 29] _
      refine pj_X_eqi (show pj_fi G0 27 3 = y1 from hy1.symm) ?_
      refine pj_X_of (fun r h => pj_R_to (G0, 18, [(0, .ref 27), (1, .int sp)], [.int sp, .int y1, .ref 29], 0, 0) 18 2 (fun _ => rfl) h) ?_
      refine pj_X_of (fun r h => pj_T_is hI rfl rfl (by omega) (by omega) h) ?_
      show pj_X _ _ (pj_wa G0 29 y1.toInt.toNat sp) 19 [(0, .ref 27), (1, .int sp)] [] _
      obtain ⟨G7, hG7⟩ : ∃ H, H = pj_wa G0 29 y1.toInt.toNat sp := ⟨_, rfl⟩
      have iG7 : pj_Inv G7 := by rw [hG7]; exact pj_Inv_wa hI rfl (fun q hq => by cases hq; exact ⟨by show (0 : Int) ≤ _; omega, by show _ ≤ (3255 : Int); omega, by show _ ≤ (1006 : Int) ∨ (2000 : Int) ≤ _; omega⟩) (fun n hn => by cases hn)
      have kG7 : pj_kpt kc_60x G0 G7 := by rw [hG7]; exact pj_kpt_a hK rfl
      rw [← hG7]
      rw [pj_nm_e]
      refine pj_X_of (fun r h => pj_R_to (G7, 21, [(0, .ref 27), (1, .int sp)], [.ref 27, .ref 27], 0, 0) 21 3 (fun _ => rfl) h) ?_
      refine pj_X_of (fun r h => pj_T_gi iG7 rfl rfl h) ?_
      show pj_X _ _ G7 24 [(0, .ref 27), (1, .int sp)] [.int (pj_fi G7 27 3), .ref 27] _
      refine pj_X_eqi (show pj_fi G7 27 3 = y1 from by rw [hG7, pj_fi_wa]; exact hy1.symm) ?_
      refine pj_X_of (fun r h => pj_R_to (G7, 26, [(0, .ref 27), (1, .int sp)], [.int (y1 + (Int32.ofInt 1)), .ref 27], 0, 0) 26 3 (fun _ => rfl) h) ?_
      obtain ⟨z8, hz8⟩ : ∃ z : Int32, z = y1 + (Int32.ofInt 1) := ⟨_, rfl⟩
      refine pj_X_eqi hz8.symm ?_
      rw [← hz8, pj_nm_e]
      have fz8_0 : z8.toInt = y1.toInt + (Int32.ofInt 1).toInt := by rw [hz8]; exact pj_addI (by have := pj_i32 y1; have := pj_i32 (Int32.ofInt 1); omega) (by have := pj_i32 y1; have := pj_i32 (Int32.ofInt 1); omega)
      refine pj_X_of (fun r h => pj_T_pf iG7 rfl rfl rfl h) ?_
      show pj_X _ _ (pj_wv G7 27 3 (.int z8)) 29 [(0, .ref 27), (1, .int sp)] [] _
      obtain ⟨G9, hG9⟩ : ∃ H, H = pj_wv G7 27 3 (.int z8) := ⟨_, rfl⟩
      have iG9 : pj_Inv G9 := by rw [hG9]; exact pj_Inv_wi iG7 (ci := 7) rfl (fun q hq => by cases hq; exact ⟨by show (0 : Int) ≤ _; omega, by show _ ≤ (40 : Int); omega⟩)
      have kG9 : pj_kpt kc_60x G0 G9 := by rw [hG9]; exact pj_kpt_v kG7 rfl
      rw [← hG9]
      rw [pj_nm_e]
      exact pj_X_rt rfl rfl ⟨rfl, iG9, kG9, (fun H hH => by subst hH; exact ((pr_kc_t (show pr_kc G0 G7 from by rw [hG7]; exact pr_kc29 (by assumption) _ _) (show pr_kc G7 G9 from by rw [hG9]; exact pr_kcv _ _)))), rfl⟩
theorem fr_60x (G0 : pj_G) (hI : pj_Inv G0) (sp : Int32) (p0_ : 0 ≤ sp.toInt ∧ sp.toInt ≤ 3255 ∧ (sp.toInt ≤ 1006 ∨ 2000 ≤ sp.toInt)) : pj_Inv (F_60x G0 sp) ∧ pj_kpt kc_60x G0 (F_60x G0 sp) ∧ (pr_kc G0 (F_60x G0 sp)) := by
  obtain ⟨v, G', -, -, i, j, x, e⟩ := ct_60x G0 hI sp p0_
  rw [← e]
  exact ⟨i, j, x _ rfl⟩
def kc_59x : pj_KT := ([(27, 0), (27, 1), (27, 2)], [27], [])
noncomputable def F_59x (G0 : pj_G) : pj_G := cond (pj_rb G0 27 0 28) (cond (pj_rb G0 27 2 28) (pj_nm (pj_wv G0 27 0 (.ref 28)) (fun G3 => pj_nm (pj_fi G3 27 3) (fun y4 => pj_nm (pj_wv G3 27 1 (.int y4)) (fun G5 => pj_nm (pj_wv G5 27 2 (.ref 28)) (fun G6 => G6))))) (pj_nm (pj_wv G0 27 0 (.ref 29)) (fun G7 => pj_nm (pj_fi G7 27 3) (fun y8 => pj_nm (pj_wv G7 27 1 (.int y8)) (fun G9 => pj_nm (pj_wv G9 27 2 (.ref 28)) (fun G10 => G10)))))) (cond (pj_rb G0 27 2 28) (pj_nm (pj_wv G0 27 0 (.ref 28)) (fun G12 => pj_nm (pj_fi G12 27 3) (fun y13 => pj_nm (pj_wv G12 27 1 (.int y13)) (fun G14 => pj_nm (pj_wv G14 27 2 (.ref 29)) (fun G15 => G15))))) (pj_nm (pj_wv G0 27 0 (.ref 29)) (fun G16 => pj_nm (pj_fi G16 27 3) (fun y17 => pj_nm (pj_wv G16 27 1 (.int y17)) (fun G18 => pj_nm (pj_wv G18 27 2 (.ref 29)) (fun G19 => G19))))))
theorem F_59x_e (G0 : pj_G) : F_59x G0 = cond (pj_rb G0 27 0 28) (cond (pj_rb G0 27 2 28) (pj_nm (pj_wv G0 27 0 (.ref 28)) (fun G3 => pj_nm (pj_fi G3 27 3) (fun y4 => pj_nm (pj_wv G3 27 1 (.int y4)) (fun G5 => pj_nm (pj_wv G5 27 2 (.ref 28)) (fun G6 => G6))))) (pj_nm (pj_wv G0 27 0 (.ref 29)) (fun G7 => pj_nm (pj_fi G7 27 3) (fun y8 => pj_nm (pj_wv G7 27 1 (.int y8)) (fun G9 => pj_nm (pj_wv G9 27 2 (.ref 28)) (fun G10 => G10)))))) (cond (pj_rb G0 27 2 28) (pj_nm (pj_wv G0 27 0 (.ref 28)) (fun G12 => pj_nm (pj_fi G12 27 3) (fun y13 => pj_nm (pj_wv G12 27 1 (.int y13)) (fun G14 => pj_nm (pj_wv G14 27 2 (.ref 29)) (fun G15 => G15))))) (pj_nm (pj_wv G0 27 0 (.ref 29)) (fun G16 => pj_nm (pj_fi G16 27 3) (fun y17 => pj_nm (pj_wv G16 27 1 (.int y17)) (fun G18 => pj_nm (pj_wv G18 27 2 (.ref 29)) (fun G19 => G19)))))) := rfl
theorem ct_59x (G0 : pj_G) (hI : pj_Inv G0) : pj_Y 1 59 [.ref 27] G0 (fun v' G' => v' = none ∧ pj_Inv G' ∧ pj_kpt kc_59x G0 G' ∧ (G' = F_59x G0)) := by
  refine pj_Y_X (M := pj_m59) rfl rfl (Nat.le_of_ble_eq_true rfl) ?_
  have hK : pj_kpt kc_59x G0 G0 := pj_kpt_r _ _
  show pj_X _ _ G0 0 [(0, .ref 27)] [] _
  rw [F_59x_e]
  refine pj_X_of (fun r h => pj_R_to (G0, 1, [(0, .ref 27)], [.ref 27], 0, 0) 1 2 (fun _ => rfl) h) ?_
  refine pj_X_gm hI rfl rfl (fun q1 => ?_) (fun q1 => ?_)
  · rw [show pj_rb G0 27 0 28 = true from pj_rb_t q1, pj_cT]
    refine pj_X_of (fun r h => pj_R_to (G0, 7, [(1, .ref 28), (0, .ref 27)], [.ref 27, .ref 27], 0, 0) 7 4 (fun _ => rfl) h) ?_
    refine pj_X_gm hI rfl rfl (fun q2 => ?_) (fun q2 => ?_)
    · rw [show pj_rb G0 27 2 28 = true from pj_rb_t q2, pj_cT]
      refine pj_X_of (fun r h => pj_T_pf hI rfl rfl rfl h) ?_
      show pj_X _ _ (pj_wv G0 27 0 (.ref 28)) 13 [(1, .ref 28), (0, .ref 27)] [] _
      obtain ⟨G3, hG3⟩ : ∃ H, H = pj_wv G0 27 0 (.ref 28) := ⟨_, rfl⟩
      have iG3 : pj_Inv G3 := by rw [hG3]; exact pj_Inv_wv hI (ci := 7) rfl rfl rfl
      have kG3 : pj_kpt kc_59x G0 G3 := by rw [hG3]; exact pj_kpt_v hK rfl
      rw [← hG3]
      rw [pj_nm_e]
      refine pj_X_of (fun r h => pj_R_to (G3, 15, [(1, .ref 28), (0, .ref 27)], [.ref 27, .ref 27], 0, 0) 15 3 (fun _ => rfl) h) ?_
      refine pj_X_of (fun r h => pj_T_gi iG3 rfl rfl h) ?_
      show pj_X _ _ G3 18 [(1, .ref 28), (0, .ref 27)] [.int (pj_fi G3 27 3), .ref 27] _
      obtain ⟨y4, hy4⟩ : ∃ z : Int32, z = pj_fi G3 27 3 := ⟨_, rfl⟩
      refine pj_X_eqi hy4.symm ?_
      rw [← hy4, pj_nm_e]
      have ey4 : (pj_fi G3 27 3).toInt = y4.toInt := by rw [hy4]
      have ry4 : (0 : Int) ≤ y4.toInt ∧ y4.toInt ≤ 40 := by rw [hy4]; exact iG3.2.1 27 3 (0, 40) rfl
      refine pj_X_of (fun r h => pj_T_pf iG3 rfl rfl rfl h) ?_
      show pj_X _ _ (pj_wv G3 27 1 (.int y4)) 21 [(1, .ref 28), (0, .ref 27)] [] _
      obtain ⟨G5, hG5⟩ : ∃ H, H = pj_wv G3 27 1 (.int y4) := ⟨_, rfl⟩
      have iG5 : pj_Inv G5 := by rw [hG5]; exact pj_Inv_wi iG3 (ci := 7) rfl (fun q hq => by cases hq; exact ⟨by show (0 : Int) ≤ _; omega, by show _ ≤ (40 : Int); omega⟩)
      have kG5 : pj_kpt kc_59x G0 G5 := by rw [hG5]; exact pj_kpt_v kG3 rfl
      rw [← hG5]
      rw [pj_nm_e]
      refine pj_X_of (fun r h => pj_R_to (G5, 23, [(1, .ref 28), (0, .ref 27)], [.ref 28, .ref 27], 0, 0) 23 3 (fun _ => rfl) h) ?_
      refine pj_X_of (fun r h => pj_T_pf iG5 rfl rfl rfl h) ?_
      show pj_X _ _ (pj_wv G5 27 2 (.ref 28)) 26 [(1, .ref 28), (0, .ref 27)] [] _
      obtain ⟨G6, hG6⟩ : ∃ H, H = pj_wv G5 27 2 (.ref 28) := ⟨_, rfl⟩
      have iG6 : pj_Inv G6 := by rw [hG6]; exact pj_Inv_wv iG5 (ci := 7) rfl rfl rfl
      have kG6 : pj_kpt kc_59x G0 G6 := by rw [hG6]; exact pj_kpt_v kG5 rfl
      rw [← hG6]
      rw [pj_nm_e]
      exact pj_X_rt rfl rfl ⟨rfl, iG6, kG6, rfl⟩
    · rw [show pj_rb G0 27 2 28 = false from pj_rb_f q2 rfl, pj_cF]
      refine pj_X_of (fun r h => pj_T_pf hI rfl rfl rfl h) ?_
      show pj_X _ _ (pj_wv G0 27 0 (.ref 29)) 13 [(1, .ref 28), (0, .ref 27)] [] _
      obtain ⟨G7, hG7⟩ : ∃ H, H = pj_wv G0 27 0 (.ref 29) := ⟨_, rfl⟩
      have iG7 : pj_Inv G7 := by rw [hG7]; exact pj_Inv_wv hI (ci := 7) rfl rfl rfl
      have kG7 : pj_kpt kc_59x G0 G7 := by rw [hG7]; exact pj_kpt_v hK rfl
      rw [← hG7]
      rw [pj_nm_e]
      refine pj_X_of (fun r h => pj_R_to (G7, 15, [(1, .ref 28), (0, .ref 27)], [.ref 27, .ref 27], 0, 0) 15 3 (fun _ => rfl) h) ?_
      refine pj_X_of (fun r h => pj_T_gi iG7 rfl rfl h) ?_
      show pj_X _ _ G7 18 [(1, .ref 28), (0, .ref 27)] [.int (pj_fi G7 27 3), .ref 27] _
      obtain ⟨y8, hy8⟩ : ∃ z : Int32, z = pj_fi G7 27 3 := ⟨_, rfl⟩
      refine pj_X_eqi hy8.symm ?_
      rw [← hy8, pj_nm_e]
      have ey8 : (pj_fi G7 27 3).toInt = y8.toInt := by rw [hy8]
      have ry8 : (0 : Int) ≤ y8.toInt ∧ y8.toInt ≤ 40 := by rw [hy8]; exact iG7.2.1 27 3 (0, 40) rfl
      refine pj_X_of (fun r h => pj_T_pf iG7 rfl rfl rfl h) ?_
      show pj_X _ _ (pj_wv G7 27 1 (.int y8)) 21 [(1, .ref 28), (0, .ref 27)] [] _
      obtain ⟨G9, hG9⟩ : ∃ H, H = pj_wv G7 27 1 (.int y8) := ⟨_, rfl⟩
      have iG9 : pj_Inv G9 := by rw [hG9]; exact pj_Inv_wi iG7 (ci := 7) rfl (fun q hq => by cases hq; exact ⟨by show (0 : Int) ≤ _; omega, by show _ ≤ (40 : Int); omega⟩)
      have kG9 : pj_kpt kc_59x G0 G9 := by rw [hG9]; exact pj_kpt_v kG7 rfl
      rw [← hG9]
      rw [pj_nm_e]
      refine pj_X_of (fun r h => pj_R_to (G9, 23, [(1, .ref 28), (0, .ref 27)], [.ref 28, .ref 27], 0, 0) 23 3 (fun _ => rfl) h) ?_
      refine pj_X_of (fun r h => pj_T_pf iG9 rfl rfl rfl h) ?_
      show pj_X _ _ (pj_wv G9 27 2 (.ref 28)) 26 [(1, .ref 28), (0, .ref 27)] [] _
      obtain ⟨G10, hG10⟩ : ∃ H, H = pj_wv G9 27 2 (.ref 28) := ⟨_, rfl⟩
      have iG10 : pj_Inv G10 := by rw [hG10]; exact pj_Inv_wv iG9 (ci := 7) rfl rfl rfl
      have kG10 : pj_kpt kc_59x G0 G10 := by rw [hG10]; exact pj_kpt_v kG9 rfl
      rw [← hG10]
      rw [pj_nm_e]
      exact pj_X_rt rfl rfl ⟨rfl, iG10, kG10, rfl⟩
  · rw [show pj_rb G0 27 0 28 = false from pj_rb_f q1 rfl, pj_cF]
    refine pj_X_of (fun r h => pj_R_to (G0, 7, [(1, .ref 29), (0, .ref 27)], [.ref 27, .ref 27], 0, 0) 7 4 (fun _ => rfl) h) ?_
    refine pj_X_gm hI rfl rfl (fun q11 => ?_) (fun q11 => ?_)
    · rw [show pj_rb G0 27 2 28 = true from pj_rb_t q11, pj_cT]
      refine pj_X_of (fun r h => pj_T_pf hI rfl rfl rfl h) ?_
      show pj_X _ _ (pj_wv G0 27 0 (.ref 28)) 13 [(1, .ref 29), (0, .ref 27)] [] _
      obtain ⟨G12, hG12⟩ : ∃ H, H = pj_wv G0 27 0 (.ref 28) := ⟨_, rfl⟩
      have iG12 : pj_Inv G12 := by rw [hG12]; exact pj_Inv_wv hI (ci := 7) rfl rfl rfl
      have kG12 : pj_kpt kc_59x G0 G12 := by rw [hG12]; exact pj_kpt_v hK rfl
      rw [← hG12]
      rw [pj_nm_e]
      refine pj_X_of (fun r h => pj_R_to (G12, 15, [(1, .ref 29), (0, .ref 27)], [.ref 27, .ref 27], 0, 0) 15 3 (fun _ => rfl) h) ?_
      refine pj_X_of (fun r h => pj_T_gi iG12 rfl rfl h) ?_
      show pj_X _ _ G12 18 [(1, .ref 29), (0, .ref 27)] [.int (pj_fi G12 27 3), .ref 27] _
      obtain ⟨y13, hy13⟩ : ∃ z : Int32, z = pj_fi G12 27 3 := ⟨_, rfl⟩
      refine pj_X_eqi hy13.symm ?_
      rw [← hy13, pj_nm_e]
      have ey13 : (pj_fi G12 27 3).toInt = y13.toInt := by rw [hy13]
      have ry13 : (0 : Int) ≤ y13.toInt ∧ y13.toInt ≤ 40 := by rw [hy13]; exact iG12.2.1 27 3 (0, 40) rfl
      refine pj_X_of (fun r h => pj_T_pf iG12 rfl rfl rfl h) ?_
      show pj_X _ _ (pj_wv G12 27 1 (.int y13)) 21 [(1, .ref 29), (0, .ref 27)] [] _
      obtain ⟨G14, hG14⟩ : ∃ H, H = pj_wv G12 27 1 (.int y13) := ⟨_, rfl⟩
      have iG14 : pj_Inv G14 := by rw [hG14]; exact pj_Inv_wi iG12 (ci := 7) rfl (fun q hq => by cases hq; exact ⟨by show (0 : Int) ≤ _; omega, by show _ ≤ (40 : Int); omega⟩)
      have kG14 : pj_kpt kc_59x G0 G14 := by rw [hG14]; exact pj_kpt_v kG12 rfl
      rw [← hG14]
      rw [pj_nm_e]
      refine pj_X_of (fun r h => pj_R_to (G14, 23, [(1, .ref 29), (0, .ref 27)], [.ref 29, .ref 27], 0, 0) 23 3 (fun _ => rfl) h) ?_
      refine pj_X_of (fun r h => pj_T_pf iG14 rfl rfl rfl h) ?_
      show pj_X _ _ (pj_wv G14 27 2 (.ref 29)) 26 [(1, .ref 29), (0, .ref 27)] [] _
      obtain ⟨G15, hG15⟩ : ∃ H, H = pj_wv G14 27 2 (.ref 29) := ⟨_, rfl⟩
      have iG15 : pj_Inv G15 := by rw [hG15]; exact pj_Inv_wv iG14 (ci := 7) rfl rfl rfl
      have kG15 : pj_kpt kc_59x G0 G15 := by rw [hG15]; exact pj_kpt_v kG14 rfl
      rw [← hG15]
      rw [pj_nm_e]
      exact pj_X_rt rfl rfl ⟨rfl, iG15, kG15, rfl⟩
    · rw [show pj_rb G0 27 2 28 = false from pj_rb_f q11 rfl, pj_cF]
      refine pj_X_of (fun r h => pj_T_pf hI rfl rfl rfl h) ?_
      show pj_X _ _ (pj_wv G0 27 0 (.ref 29)) 13 [(1, .ref 29), (0, .ref 27)] [] _
      obtain ⟨G16, hG16⟩ : ∃ H, H = pj_wv G0 27 0 (.ref 29) := ⟨_, rfl⟩
      have iG16 : pj_Inv G16 := by rw [hG16]; exact pj_Inv_wv hI (ci := 7) rfl rfl rfl
      have kG16 : pj_kpt kc_59x G0 G16 := by rw [hG16]; exact pj_kpt_v hK rfl
      rw [← hG16]
      rw [pj_nm_e]
      refine pj_X_of (fun r h => pj_R_to (G16, 15, [(1, .ref 29), (0, .ref 27)], [.ref 27, .ref 27], 0, 0) 15 3 (fun _ => rfl) h) ?_
      refine pj_X_of (fun r h => pj_T_gi iG16 rfl rfl h) ?_
      show pj_X _ _ G16 18 [(1, .ref 29), (0, .ref 27)] [.int (pj_fi G16 27 3), .ref 27] _
      obtain ⟨y17, hy17⟩ : ∃ z : Int32, z = pj_fi G16 27 3 := ⟨_, rfl⟩
      refine pj_X_eqi hy17.symm ?_
      rw [← hy17, pj_nm_e]
      have ey17 : (pj_fi G16 27 3).toInt = y17.toInt := by rw [hy17]
      have ry17 : (0 : Int) ≤ y17.toInt ∧ y17.toInt ≤ 40 := by rw [hy17]; exact iG16.2.1 27 3 (0, 40) rfl
      refine pj_X_of (fun r h => pj_T_pf iG16 rfl rfl rfl h) ?_
      show pj_X _ _ (pj_wv G16 27 1 (.int y17)) 21 [(1, .ref 29), (0, .ref 27)] [] _
      obtain ⟨G18, hG18⟩ : ∃ H, H = pj_wv G16 27 1 (.int y17) := ⟨_, rfl⟩
      have iG18 : pj_Inv G18 := by rw [hG18]; exact pj_Inv_wi iG16 (ci := 7) rfl (fun q hq => by cases hq; exact ⟨by show (0 : Int) ≤ _; omega, by show _ ≤ (40 : Int); omega⟩)
      have kG18 : pj_kpt kc_59x G0 G18 := by rw [hG18]; exact pj_kpt_v kG16 rfl
      rw [← hG18]
      rw [pj_nm_e]
      refine pj_X_of (fun r h => pj_R_to (G18, 23, [(1, .ref 29), (0, .ref 27)], [.ref 29, .ref 27], 0, 0) 23 3 (fun _ => rfl) h) ?_
      refine pj_X_of (fun r h => pj_T_pf iG18 rfl rfl rfl h) ?_
      show pj_X _ _ (pj_wv G18 27 2 (.ref 29)) 26 [(1, .ref 29), (0, .ref 27)] [] _
      obtain ⟨G19, hG19⟩ : ∃ H, H = pj_wv G18 27 2 (.ref 29) := ⟨_, rfl⟩
      have iG19 : pj_Inv G19 := by rw [hG19]; exact pj_Inv_wv iG18 (ci := 7) rfl rfl rfl
      have kG19 : pj_kpt kc_59x G0 G19 := by rw [hG19]; exact pj_kpt_v kG18 rfl
      rw [← hG19]
      rw [pj_nm_e]
      exact pj_X_rt rfl rfl ⟨rfl, iG19, kG19, rfl⟩
theorem fr_59x (G0 : pj_G) (hI : pj_Inv G0) : pj_Inv (F_59x G0) ∧ pj_kpt kc_59x G0 (F_59x G0) := by
  obtain ⟨v, G', -, -, i, j, e⟩ := ct_59x G0 hI 
  rw [← e]
  exact ⟨i, j⟩
def kc_64_4x : pj_KT := ([(2, 3), (2, 4), (27, 3)], [2, 27, 28, 29], [28, 29])
noncomputable def F_64_4x (G0 : pj_G) (dp : Int32) : pj_G := pj_nm (F_85x G0) (fun y3 => cond (pj_c1 .eq y3 0) (pj_bd (F_84_s8x G0) (fun y6 G7 => cond (pj_c1 .ne y6 (Int32.ofInt (-1))) (pj_nm ((y6.toUInt32 % 65536).toInt32) (fun z11 => pj_nm (F_291_s8x G7 z11) (fun y13 => pj_nm (((Int16.ofInt 1000).toInt32) + y13) (fun z14 => pj_nm (F_60x G7 z14) (fun G17 => G17))))) (pj_nm (F_81x G7) (fun G23 => G23)))) (pj_bd (F_86x G0 (Int32.ofInt 3)) (fun y27 G28 => pj_nm (F_60x G28 y27) (fun G32 => G32))))
theorem F_64_4x_e (G0 : pj_G) (dp : Int32) : F_64_4x G0 dp = pj_nm (F_85x G0) (fun y3 => cond (pj_c1 .eq y3 0) (pj_bd (F_84_s8x G0) (fun y6 G7 => cond (pj_c1 .ne y6 (Int32.ofInt (-1))) (pj_nm ((y6.toUInt32 % 65536).toInt32) (fun z11 => pj_nm (F_291_s8x G7 z11) (fun y13 => pj_nm (((Int16.ofInt 1000).toInt32) + y13) (fun z14 => pj_nm (F_60x G7 z14) (fun G17 => G17))))) (pj_nm (F_81x G7) (fun G23 => G23)))) (pj_bd (F_86x G0 (Int32.ofInt 3)) (fun y27 G28 => pj_nm (F_60x G28 y27) (fun G32 => G32)))) := rfl
theorem ct_64_4x (G0 : pj_G) (hI : pj_Inv G0) (dp : Int32) (rdp : (4 : Int) ≤ dp.toInt ∧ dp.toInt ≤ 4) : pj_Y 17 64 [.ref 27, .ref 2, .int dp] G0 (fun v' G' => v' = none ∧ pj_Inv G' ∧ pj_kpt kc_64_4x G0 G' ∧ (∀ H, G0 = H → (((¬ (pj_fi H 2 4).toInt = -1 → (pj_fi G' 2 4).toInt = (pj_fi H 2 4).toInt)) ∧ (pr_kc H G'))) ∧ (G' = F_64_4x G0 dp)) := by
  have c0_ : ((Int16.ofInt 1000).toInt32).toInt = 1000 := by decide
  have c1_ : (Int32.ofInt (-1)).toInt = -1 := by decide
  have c2_ : (Int32.ofInt 3).toInt = 3 := by decide
  have c3_ : (Int32.ofInt 4).toInt = 4 := by decide
  refine pj_Y_X (M := pj_m64) rfl rfl (Nat.le_of_ble_eq_true rfl) ?_
  have hK : pj_kpt kc_64_4x G0 G0 := pj_kpt_r _ _
  show pj_X _ _ G0 0 [(0, .ref 27), (1, .ref 2), (2, .int dp)] [] _
  rw [F_64_4x_e]
  obtain ⟨y1, hy1⟩ : ∃ z : Int32, z = pj_fi G0 2 4 := ⟨_, rfl⟩
  have ey1 : (pj_fi G0 2 4).toInt = y1.toInt := by rw [hy1]
  have ry1 : (-1 : Int) ≤ y1.toInt ∧ y1.toInt ≤ 80 := by rw [hy1]; exact hI.2.1 2 4 (-1, 80) rfl
  refine pj_X_of (fun r h => pj_R_to (G0, 1, [(0, .ref 27), (1, .ref 2), (2, .int dp)], [.ref 2], 0, 0) 1 2 (fun _ => rfl) h) ?_
  have q2 : (pj_fi G0 2 4).toInt = y1.toInt := by rw [show pj_fi G0 2 4 = y1 from hy1.symm]
  refine pj_X_ca (vs := [.ref 2]) rfl (fun _ => rfl) ⟨Nat.le_of_ble_eq_true rfl, Nat.le_of_ble_eq_true rfl, pj_T_rcv hI rfl⟩ ⟨rfl, rfl⟩ (pj_Y_up (by decide) (ct_85x G0 hI)) ?_
  rintro _ _ ⟨y3, rfl, rfl, ry3, ey3, fy3⟩
  replace ey3 := ey3 _ rfl
  rw [← fy3, pj_nm_e]
  show pj_X _ _ G0 4 [(0, .ref 27), (1, .ref 2), (2, .int dp)] [.int y3] _
  cases b4 : pj_c1 .eq y3 0 with
  | true =>
    rw [pj_cT]
    have ub4 := pj_u0_eqT b4
    refine pj_X_of (fun r h => pj_R_ifT 19 rfl rfl b4 h) ?_
    refine pj_X_of (fun r h => pj_R_to (G0, 21, [(0, .ref 27), (1, .ref 2), (2, .int dp)], [.int (Int32.ofInt 4), .int dp], 0, 0) 21 3 (fun _ => rfl) h) ?_
    refine pj_X_of (fun r h => pj_R_icT 54 rfl rfl (pj_b_geT (by omega)) h) ?_
    refine pj_X_of (fun r h => pj_R_to (G0, 57, [(0, .ref 27), (1, .ref 2), (2, .int dp)], [.retAddr 8, .ref 2], 0, 0) 57 3 (fun _ => rfl) h) ?_
    have q5 : (pj_fi G0 2 4).toInt = y1.toInt := by rw [show pj_fi G0 2 4 = y1 from hy1.symm]
    refine pj_X_ca (vs := [.ref 2, .retAddr 8]) rfl (fun _ => rfl) ⟨Nat.le_of_ble_eq_true rfl, Nat.le_of_ble_eq_true rfl, pj_T_rcv hI rfl⟩ ⟨rfl, rfl⟩ (pj_Y_up (by decide) (ct_84_s8x G0 hI)) ?_
    rintro _ G7 ⟨y6, rfl, iG7, jG7, ry6, ey6, fy6⟩
    replace ey6 := ey6 _ rfl
    rw [← fy6, pj_bd_e]
    have kG7 : pj_kpt kc_64_4x G0 G7 := pj_kpt_t hK (pj_kpt_s jG7 rfl)
    have q8 : (pj_fi G7 2 4).toInt = (pj_fi G0 2 4).toInt := by rw [jG7.1 (2, 4) (by decide)]
    obtain ⟨y9, hy9⟩ : ∃ z : Int32, z = pj_fi G7 2 4 := ⟨_, rfl⟩
    have ey9 : (pj_fi G7 2 4).toInt = y9.toInt := by rw [hy9]
    have ry9 : (-1 : Int) ≤ y9.toInt ∧ y9.toInt ≤ 80 := by rw [hy9]; exact iG7.2.1 2 4 (-1, 80) rfl
    show pj_X _ _ G7 60 [(0, .ref 27), (1, .ref 2), (2, .int dp)] [.int y6] _
    refine pj_X_of (fun r h => pj_R_to (G7, 63, [(3, .int y6), (0, .ref 27), (1, .ref 2), (2, .int dp)], [.int (Int32.ofInt (-1)), .int y6], 0, 0) 63 4 (fun _ => rfl) h) ?_
    cases b10 : pj_c1 .ne y6 (Int32.ofInt (-1)) with
    | true =>
      rw [pj_cT]
      have ub10 := pj_u_neT b10
      refine pj_X_of (fun r h => pj_R_icT 73 rfl rfl b10 h) ?_
      refine pj_X_of (fun r h => pj_R_to (G7, 81, [(3, .int y6), (0, .ref 27), (1, .ref 2), (2, .int dp)], [.int ((y6.toUInt32 % 65536).toInt32), .retAddr 8, .int ((Int16.ofInt 1000).toInt32), .ref 27], 0, 0) 81 6 (fun _ => rfl) h) ?_
      obtain ⟨z11, hz11⟩ : ∃ z : Int32, z = (y6.toUInt32 % 65536).toInt32 := ⟨_, rfl⟩
      refine pj_X_eqi hz11.symm ?_
      rw [← hz11, pj_nm_e]
      have fz11_0 : z11.toInt = y6.toInt := by rw [hz11]; exact pj_i2cI (by omega) (by omega)
      have q12 : (pj_fi G7 2 4).toInt = y9.toInt := by rw [show pj_fi G7 2 4 = y9 from hy9.symm]
      refine pj_X_ca (vs := [.retAddr 8, .int z11]) rfl (fun _ => rfl) ⟨Nat.le_of_ble_eq_true rfl, Nat.le_of_ble_eq_true rfl, rfl⟩ ⟨rfl, rfl⟩ (pj_Y_up (by decide) (ct_290_s8x G7 iG7 z11 ⟨by omega, by omega⟩)) ?_
      rintro _ _ ⟨y13, rfl, rfl, ry13, fy13⟩
      rw [← fy13, pj_nm_e]
      show pj_X _ _ G7 84 [(3, .int y6), (0, .ref 27), (1, .ref 2), (2, .int dp)] [.int y13, .int ((Int16.ofInt 1000).toInt32), .ref 27] _
      refine pj_X_of (fun r h => pj_R_to (G7, 85, [(3, .int y6), (0, .ref 27), (1, .ref 2), (2, .int dp)], [.int (((Int16.ofInt 1000).toInt32) + y13), .ref 27], 0, 0) 85 2 (fun _ => rfl) h) ?_
      obtain ⟨z14, hz14⟩ : ∃ z : Int32, z = ((Int16.ofInt 1000).toInt32) + y13 := ⟨_, rfl⟩
      refine pj_X_eqi hz14.symm ?_
      rw [← hz14, pj_nm_e]
      have fz14_0 : z14.toInt = ((Int16.ofInt 1000).toInt32).toInt + y13.toInt := by rw [hz14]; exact pj_addI (by have := pj_i32 ((Int16.ofInt 1000).toInt32); have := pj_i32 y13; omega) (by have := pj_i32 ((Int16.ofInt 1000).toInt32); have := pj_i32 y13; omega)
      have q15 : (pj_fi G7 2 4).toInt = y9.toInt := by rw [show pj_fi G7 2 4 = y9 from hy9.symm]
      refine pj_X_ca (vs := [.ref 27, .int z14]) rfl (fun _ => rfl) ⟨Nat.le_of_ble_eq_true rfl, Nat.le_of_ble_eq_true rfl, pj_T_rcv iG7 rfl⟩ ⟨rfl, rfl⟩ (pj_Y_up (by decide) (ct_60x G7 iG7 z14 (by omega))) ?_
      rintro _ G17 ⟨rfl, iG17, jG17, eG17, fy16⟩
      replace eG17 := eG17 _ rfl
      rw [← fy16, pj_nm_e]
      have kG17 : pj_kpt kc_64_4x G0 G17 := pj_kpt_t kG7 (pj_kpt_s jG17 rfl)
      have q18 : (pj_fi G17 2 4).toInt = (pj_fi G7 2 4).toInt := by rw [jG17.1 (2, 4) (by decide)]
      obtain ⟨y19, hy19⟩ : ∃ z : Int32, z = pj_fi G17 2 4 := ⟨_, rfl⟩
      have ey19 : (pj_fi G17 2 4).toInt = y19.toInt := by rw [hy19]
      have ry19 : (-1 : Int) ≤ y19.toInt ∧ y19.toInt ≤ 80 := by rw [hy19]; exact iG17.2.1 2 4 (-1, 80) rfl
      show pj_X _ _ G17 88 [(3, .int y6), (0, .ref 27), (1, .ref 2), (2, .int dp)] [] _
      have q20 : (pj_fi G17 2 4).toInt = y19.toInt := by rw [show pj_fi G17 2 4 = y19 from hy19.symm]
      exact pj_X_rt rfl rfl ⟨rfl, iG17, kG17, (fun H hH => by subst hH; exact (⟨by omega, (pr_kc_t (pr_kc_k jG7 rfl) eG17)⟩)), rfl⟩
    | false =>
      rw [pj_cF]
      have ub10 := pj_u_neF b10
      refine pj_X_of (fun r h => pj_R_icF rfl b10 h) ?_
      refine pj_X_of (fun r h => pj_R_to (G7, 67, [(3, .int y6), (0, .ref 27), (1, .ref 2), (2, .int dp)], [.ref 2], 0, 0) 67 2 (fun _ => rfl) h) ?_
      have q21 : (pj_fi G7 2 4).toInt = y9.toInt := by rw [show pj_fi G7 2 4 = y9 from hy9.symm]
      refine pj_X_ca (vs := [.ref 2]) rfl (fun _ => rfl) ⟨Nat.le_of_ble_eq_true rfl, Nat.le_of_ble_eq_true rfl, pj_T_rcv iG7 rfl⟩ ⟨rfl, rfl⟩ (pj_Y_up (by decide) (ct_81x G7 iG7)) ?_
      rintro _ G23 ⟨rfl, iG23, jG23, eG23, fy22⟩
      replace eG23 := eG23 _ rfl
      rw [← fy22, pj_nm_e]
      have kG23 : pj_kpt kc_64_4x G0 G23 := pj_kpt_t kG7 (pj_kpt_s jG23 rfl)
      obtain ⟨y24, hy24⟩ : ∃ z : Int32, z = pj_fi G23 2 4 := ⟨_, rfl⟩
      have ey24 : (pj_fi G23 2 4).toInt = y24.toInt := by rw [hy24]
      have ry24 : (-1 : Int) ≤ y24.toInt ∧ y24.toInt ≤ 80 := by rw [hy24]; exact iG23.2.1 2 4 (-1, 80) rfl
      show pj_X _ _ G23 70 [(3, .int y6), (0, .ref 27), (1, .ref 2), (2, .int dp)] [] _
      refine pj_X_of (fun r h => pj_R_to (G23, 88, [(3, .int y6), (0, .ref 27), (1, .ref 2), (2, .int dp)], [], 0, 0) 88 2 (fun _ => rfl) h) ?_
      have q25 : (pj_fi G23 2 4).toInt = y24.toInt := by rw [show pj_fi G23 2 4 = y24 from hy24.symm]
      exact pj_X_rt rfl rfl ⟨rfl, iG23, kG23, (fun H hH => by subst hH; exact (⟨by omega, (pr_kc_t (pr_kc_k jG7 rfl) (pr_kc_k jG23 rfl))⟩)), rfl⟩
  | false =>
    rw [pj_cF]
    have ub4 := pj_u0_eqF b4
    refine pj_X_of (fun r h => pj_R_ifF rfl b4 h) ?_
    refine pj_X_of (fun r h => pj_R_to (G0, 10, [(0, .ref 27), (1, .ref 2), (2, .int dp)], [.int (Int32.ofInt 3), .ref 2, .ref 27], 0, 0) 10 4 (fun _ => rfl) h) ?_
    have q26 : (pj_fi G0 2 4).toInt = y1.toInt := by rw [show pj_fi G0 2 4 = y1 from hy1.symm]
    refine pj_X_ca (vs := [.ref 2, .int (Int32.ofInt 3)]) rfl (fun _ => rfl) ⟨Nat.le_of_ble_eq_true rfl, Nat.le_of_ble_eq_true rfl, pj_T_rcv hI rfl⟩ ⟨rfl, rfl⟩ (pj_Y_up (by decide) (ct_86x G0 hI (Int32.ofInt 3) ⟨by omega, by omega⟩)) ?_
    rintro _ G28 ⟨y27, rfl, iG28, jG28, ry27, fy27⟩
    rw [← fy27, pj_bd_e]
    have kG28 : pj_kpt kc_64_4x G0 G28 := pj_kpt_t hK (pj_kpt_s jG28 rfl)
    obtain ⟨y29, hy29⟩ : ∃ z : Int32, z = pj_fi G28 2 4 := ⟨_, rfl⟩
    have ey29 : (pj_fi G28 2 4).toInt = y29.toInt := by rw [hy29]
    have ry29 : (-1 : Int) ≤ y29.toInt ∧ y29.toInt ≤ 80 := by rw [hy29]; exact iG28.2.1 2 4 (-1, 80) rfl
    show pj_X _ _ G28 13 [(0, .ref 27), (1, .ref 2), (2, .int dp)] [.int y27, .ref 27] _
    have q30 : (pj_fi G28 2 4).toInt = y29.toInt := by rw [show pj_fi G28 2 4 = y29 from hy29.symm]
    refine pj_X_ca (vs := [.ref 27, .int y27]) rfl (fun _ => rfl) ⟨Nat.le_of_ble_eq_true rfl, Nat.le_of_ble_eq_true rfl, pj_T_rcv iG28 rfl⟩ ⟨rfl, rfl⟩ (pj_Y_up (by decide) (ct_60x G28 iG28 y27 (by omega))) ?_
    rintro _ G32 ⟨rfl, iG32, jG32, eG32, fy31⟩
    replace eG32 := eG32 _ rfl
    rw [← fy31, pj_nm_e]
    have kG32 : pj_kpt kc_64_4x G0 G32 := pj_kpt_t kG28 (pj_kpt_s jG32 rfl)
    have q33 : (pj_fi G32 2 4).toInt = (pj_fi G28 2 4).toInt := by rw [jG32.1 (2, 4) (by decide)]
    obtain ⟨y34, hy34⟩ : ∃ z : Int32, z = pj_fi G32 2 4 := ⟨_, rfl⟩
    have ey34 : (pj_fi G32 2 4).toInt = y34.toInt := by rw [hy34]
    have ry34 : (-1 : Int) ≤ y34.toInt ∧ y34.toInt ≤ 80 := by rw [hy34]; exact iG32.2.1 2 4 (-1, 80) rfl
    show pj_X _ _ G32 16 [(0, .ref 27), (1, .ref 2), (2, .int dp)] [] _
    refine pj_X_of (fun r h => pj_R_to (G32, 88, [(0, .ref 27), (1, .ref 2), (2, .int dp)], [], 0, 0) 88 2 (fun _ => rfl) h) ?_
    have q35 : (pj_fi G32 2 4).toInt = y34.toInt := by rw [show pj_fi G32 2 4 = y34 from hy34.symm]
    exact pj_X_rt rfl rfl ⟨rfl, iG32, kG32, (fun H hH => by subst hH; exact (⟨by omega, (pr_kc_t (pr_kc_k jG28 rfl) eG32)⟩)), rfl⟩
theorem fr_64_4x (G0 : pj_G) (hI : pj_Inv G0) (dp : Int32) (rdp : (4 : Int) ≤ dp.toInt ∧ dp.toInt ≤ 4) : pj_Inv (F_64_4x G0 dp) ∧ pj_kpt kc_64_4x G0 (F_64_4x G0 dp) ∧ (((¬ (pj_fi G0 2 4).toInt = -1 → (pj_fi (F_64_4x G0 dp) 2 4).toInt = (pj_fi G0 2 4).toInt)) ∧ (pr_kc G0 (F_64_4x G0 dp))) := by
  obtain ⟨v, G', -, -, i, j, x, e⟩ := ct_64_4x G0 hI dp rdp
  rw [← e]
  exact ⟨i, j, x _ rfl⟩
def kc_63_4x : pj_KT := ([(2, 3), (2, 4), (27, 3)], [2, 27, 28, 29], [28, 29])
noncomputable def L_63_4x (G0 : pj_G) (dp : Int32) (fu : Nat) : Int32 → Int32 → pj_G → pj_G := Nat.rec (motive := fun _ => Int32 → Int32 → pj_G → pj_G) (fun _ _ G => G) (fun _ ih v3 v4 G => cond (pj_c1 .ge v4 ((Int8.ofInt 40).toInt32)) (pj_nm (F_64_4x G dp) (fun G5 => cond (pj_c1 .eq v3 0) (G5) (pj_nm (F_60x G5 ((Int16.ofInt 2000).toInt32)) (fun G11 => G11)))) (pj_bd (F_82x G ((Int8.ofInt 45).toInt32)) (fun y16 G17 => cond (pj_c1 .eq y16 0) (pj_nm (F_64_4x G17 dp) (fun G23 => cond (pj_c1 .eq v3 0) (G23) (pj_nm (F_60x G23 ((Int16.ofInt 2000).toInt32)) (fun G29 => G29)))) (cond (pj_c1 .ne v3 0) (pj_nm (v4 + Int32.ofInt 1) (fun z34 => ih (Int32.ofInt 0) z34 G17)) (pj_nm (v4 + Int32.ofInt 1) (fun z36 => ih (Int32.ofInt 1) z36 G17)))))) fu
theorem L_63_4x_s0 (G0 : pj_G) (dp : Int32) (fu : Nat) (v3 : Int32) (v4 : Int32) (G : pj_G) : L_63_4x G0 dp (fu + 1) v3 v4 G = cond (pj_c1 .ge v4 ((Int8.ofInt 40).toInt32)) (pj_nm (F_64_4x G dp) (fun G5 => cond (pj_c1 .eq v3 0) (G5) (pj_nm (F_60x G5 ((Int16.ofInt 2000).toInt32)) (fun G11 => G11)))) (pj_bd (F_82x G ((Int8.ofInt 45).toInt32)) (fun y16 G17 => cond (pj_c1 .eq y16 0) (pj_nm (F_64_4x G17 dp) (fun G23 => cond (pj_c1 .eq v3 0) (G23) (pj_nm (F_60x G23 ((Int16.ofInt 2000).toInt32)) (fun G29 => G29)))) (cond (pj_c1 .ne v3 0) (pj_nm (v4 + Int32.ofInt 1) (fun z34 => L_63_4x G0 dp fu (Int32.ofInt 0) z34 G17)) (pj_nm (v4 + Int32.ofInt 1) (fun z36 => L_63_4x G0 dp fu (Int32.ofInt 1) z36 G17))))) := rfl
noncomputable def F_63_4x (G0 : pj_G) (dp : Int32) : pj_G := L_63_4x G0 dp 41 (Int32.ofInt 0) (Int32.ofInt 0) G0
theorem F_63_4x_e (G0 : pj_G) (dp : Int32) : F_63_4x G0 dp = L_63_4x G0 dp 41 (Int32.ofInt 0) (Int32.ofInt 0) G0 := rfl
theorem lp_ct_63_4x (G0 : pj_G) (hI0 : pj_Inv G0) (dp : Int32) (rdp : (4 : Int) ≤ dp.toInt ∧ dp.toInt ≤ 4) : ∀ mn : Nat, (∀ (G : pj_G) (hI : pj_Inv G) (hK : pj_kpt kc_63_4x G0 G) (v3 : Int32) (v4 : Int32), ((0 : Int) ≤ v3.toInt ∧ v3.toInt ≤ 1) → ((0 : Int) ≤ v4.toInt ∧ v4.toInt ≤ 40) → (¬ (pj_fi G0 2 4).toInt = -1 → (pj_fi G 2 4).toInt = (pj_fi G0 2 4).toInt) → (pr_kc G0 G) → 40 - v4.toInt < (mn : Int) → pj_X 17 pj_m63 G 5 [(0, .ref 27), (1, .ref 2), (2, .int dp), (3, .int v3), (4, .int v4)] [] (fun v' G' => v' = none ∧ pj_Inv G' ∧ pj_kpt kc_63_4x G0 G' ∧ (∀ H, G0 = H → (((¬ (pj_fi H 2 4).toInt = -1 → (pj_fi G' 2 4).toInt = (pj_fi H 2 4).toInt)) ∧ (pr_kc H G'))) ∧ (G' = L_63_4x G0 dp mn v3 v4 G))) := by
  have c0_ : ((Int16.ofInt 2000).toInt32).toInt = 2000 := by decide
  have c1_ : ((Int8.ofInt 40).toInt32).toInt = 40 := by decide
  have c2_ : ((Int8.ofInt 45).toInt32).toInt = 45 := by decide
  have c3_ : (Int32.ofInt 0).toInt = 0 := by decide
  have c4_ : (Int32.ofInt 1).toInt = 1 := by decide
  intro mn
  induction mn with
  | zero =>
    intro G hI hK v3 v4 rv3 rv4 x0_ x1_ hm
    exfalso
    omega
  | succ mn ih =>
    intro G hI hK v3 v4 rv3 rv4 x0_ x1_ hm
    rw [L_63_4x_s0]
    obtain ⟨y1, hy1⟩ : ∃ z : Int32, z = pj_fi G 2 4 := ⟨_, rfl⟩
    have ey1 : (pj_fi G 2 4).toInt = y1.toInt := by rw [hy1]
    have ry1 : (-1 : Int) ≤ y1.toInt ∧ y1.toInt ≤ 80 := by rw [hy1]; exact hI.2.1 2 4 (-1, 80) rfl
    refine pj_X_of (fun r h => pj_R_to (G, 9, [(0, .ref 27), (1, .ref 2), (2, .int dp), (3, .int v3), (4, .int v4)], [.int ((Int8.ofInt 40).toInt32), .int v4], 0, 0) 9 3 (fun _ => rfl) h) ?_
    cases b2 : pj_c1 .ge v4 ((Int8.ofInt 40).toInt32) with
    | true =>
      rw [pj_cT]
      have ub2 := pj_u_geT b2
      refine pj_X_of (fun r h => pj_R_icT 37 rfl rfl b2 h) ?_
      refine pj_X_of (fun r h => pj_R_to (G, 40, [(0, .ref 27), (1, .ref 2), (2, .int dp), (3, .int v3), (4, .int v4)], [.int dp, .ref 2, .ref 27], 0, 0) 40 4 (fun _ => rfl) h) ?_
      have q3 : (pj_fi G 2 4).toInt = y1.toInt := by rw [show pj_fi G 2 4 = y1 from hy1.symm]
      refine pj_X_ca (vs := [.ref 27, .ref 2, .int dp]) rfl (fun _ => rfl) ⟨Nat.le_of_ble_eq_true rfl, Nat.le_of_ble_eq_true rfl, pj_T_rcv hI rfl⟩ ⟨rfl, rfl⟩ (pj_Y_up (by decide) (ct_64_4x G hI dp ⟨by omega, by omega⟩)) ?_
      rintro _ G5 ⟨rfl, iG5, jG5, eG5, fy4⟩
      replace eG5 := eG5 _ rfl
      rw [← fy4, pj_nm_e]
      have kG5 : pj_kpt kc_63_4x G0 G5 := pj_kpt_t hK (pj_kpt_s jG5 rfl)
      obtain ⟨y6, hy6⟩ : ∃ z : Int32, z = pj_fi G5 2 4 := ⟨_, rfl⟩
      have ey6 : (pj_fi G5 2 4).toInt = y6.toInt := by rw [hy6]
      have ry6 : (-1 : Int) ≤ y6.toInt ∧ y6.toInt ≤ 80 := by rw [hy6]; exact iG5.2.1 2 4 (-1, 80) rfl
      show pj_X _ _ G5 43 [(0, .ref 27), (1, .ref 2), (2, .int dp), (3, .int v3), (4, .int v4)] [] _
      refine pj_X_of (fun r h => pj_R_to (G5, 44, [(0, .ref 27), (1, .ref 2), (2, .int dp), (3, .int v3), (4, .int v4)], [.int v3], 0, 0) 44 2 (fun _ => rfl) h) ?_
      cases b7 : pj_c1 .eq v3 0 with
      | true =>
        rw [pj_cT]
        have ub7 := pj_u0_eqT b7
        refine pj_X_of (fun r h => pj_R_ifT 54 rfl rfl b7 h) ?_
        have q8 : (pj_fi G5 2 4).toInt = y6.toInt := by rw [show pj_fi G5 2 4 = y6 from hy6.symm]
        exact pj_X_rt rfl rfl ⟨rfl, iG5, kG5, (fun H hH => by subst hH; exact (⟨by omega, (pr_kc_t x1_ eG5.2)⟩)), rfl⟩
      | false =>
        rw [pj_cF]
        have ub7 := pj_u0_eqF b7
        refine pj_X_of (fun r h => pj_R_ifF rfl b7 h) ?_
        refine pj_X_of (fun r h => pj_R_to (G5, 51, [(0, .ref 27), (1, .ref 2), (2, .int dp), (3, .int v3), (4, .int v4)], [.int ((Int16.ofInt 2000).toInt32), .ref 27], 0, 0) 51 3 (fun _ => rfl) h) ?_
        have q9 : (pj_fi G5 2 4).toInt = y6.toInt := by rw [show pj_fi G5 2 4 = y6 from hy6.symm]
        refine pj_X_ca (vs := [.ref 27, .int ((Int16.ofInt 2000).toInt32)]) rfl (fun _ => rfl) ⟨Nat.le_of_ble_eq_true rfl, Nat.le_of_ble_eq_true rfl, pj_T_rcv iG5 rfl⟩ ⟨rfl, rfl⟩ (pj_Y_up (by decide) (ct_60x G5 iG5 ((Int16.ofInt 2000).toInt32) (by omega))) ?_
        rintro _ G11 ⟨rfl, iG11, jG11, eG11, fy10⟩
        replace eG11 := eG11 _ rfl
        rw [← fy10, pj_nm_e]
        have kG11 : pj_kpt kc_63_4x G0 G11 := pj_kpt_t kG5 (pj_kpt_s jG11 rfl)
        have q12 : (pj_fi G11 2 4).toInt = (pj_fi G5 2 4).toInt := by rw [jG11.1 (2, 4) (by decide)]
        obtain ⟨y13, hy13⟩ : ∃ z : Int32, z = pj_fi G11 2 4 := ⟨_, rfl⟩
        have ey13 : (pj_fi G11 2 4).toInt = y13.toInt := by rw [hy13]
        have ry13 : (-1 : Int) ≤ y13.toInt ∧ y13.toInt ≤ 80 := by rw [hy13]; exact iG11.2.1 2 4 (-1, 80) rfl
        show pj_X _ _ G11 54 [(0, .ref 27), (1, .ref 2), (2, .int dp), (3, .int v3), (4, .int v4)] [] _
        have q14 : (pj_fi G11 2 4).toInt = y13.toInt := by rw [show pj_fi G11 2 4 = y13 from hy13.symm]
        exact pj_X_rt rfl rfl ⟨rfl, iG11, kG11, (fun H hH => by subst hH; exact (⟨by omega, (pr_kc_t (pr_kc_t x1_ eG5.2) eG11)⟩)), rfl⟩
    | false =>
      rw [pj_cF]
      have ub2 := pj_u_geF b2
      refine pj_X_of (fun r h => pj_R_icF rfl b2 h) ?_
      refine pj_X_of (fun r h => pj_R_to (G, 15, [(0, .ref 27), (1, .ref 2), (2, .int dp), (3, .int v3), (4, .int v4)], [.int ((Int8.ofInt 45).toInt32), .ref 2], 0, 0) 15 3 (fun _ => rfl) h) ?_
      have q15 : (pj_fi G 2 4).toInt = y1.toInt := by rw [show pj_fi G 2 4 = y1 from hy1.symm]
      refine pj_X_ca (vs := [.ref 2, .int ((Int8.ofInt 45).toInt32)]) rfl (fun _ => rfl) ⟨Nat.le_of_ble_eq_true rfl, Nat.le_of_ble_eq_true rfl, pj_T_rcv hI rfl⟩ ⟨rfl, rfl⟩ (pj_Y_up (by decide) (ct_82x G hI ((Int8.ofInt 45).toInt32) ⟨by omega, by omega⟩)) ?_
      rintro _ G17 ⟨y16, rfl, iG17, jG17, ry16, ey16, fy16⟩
      replace ey16 := ey16 _ rfl
      rw [← fy16, pj_bd_e]
      have kG17 : pj_kpt kc_63_4x G0 G17 := pj_kpt_t hK (pj_kpt_s jG17 rfl)
      have q18 : (pj_fi G17 2 4).toInt = (pj_fi G 2 4).toInt := by rw [jG17.1 (2, 4) (by decide)]
      obtain ⟨y19, hy19⟩ : ∃ z : Int32, z = pj_fi G17 2 4 := ⟨_, rfl⟩
      have ey19 : (pj_fi G17 2 4).toInt = y19.toInt := by rw [hy19]
      have ry19 : (-1 : Int) ≤ y19.toInt ∧ y19.toInt ≤ 80 := by rw [hy19]; exact iG17.2.1 2 4 (-1, 80) rfl
      show pj_X _ _ G17 18 [(0, .ref 27), (1, .ref 2), (2, .int dp), (3, .int v3), (4, .int v4)] [.int y16] _
      cases b20 : pj_c1 .eq y16 0 with
      | true =>
        rw [pj_cT]
        have ub20 := pj_u0_eqT b20
        refine pj_X_of (fun r h => pj_R_ifT 37 rfl rfl b20 h) ?_
        refine pj_X_of (fun r h => pj_R_to (G17, 40, [(0, .ref 27), (1, .ref 2), (2, .int dp), (3, .int v3), (4, .int v4)], [.int dp, .ref 2, .ref 27], 0, 0) 40 4 (fun _ => rfl) h) ?_
        have q21 : (pj_fi G17 2 4).toInt = y19.toInt := by rw [show pj_fi G17 2 4 = y19 from hy19.symm]
        refine pj_X_ca (vs := [.ref 27, .ref 2, .int dp]) rfl (fun _ => rfl) ⟨Nat.le_of_ble_eq_true rfl, Nat.le_of_ble_eq_true rfl, pj_T_rcv iG17 rfl⟩ ⟨rfl, rfl⟩ (pj_Y_up (by decide) (ct_64_4x G17 iG17 dp ⟨by omega, by omega⟩)) ?_
        rintro _ G23 ⟨rfl, iG23, jG23, eG23, fy22⟩
        replace eG23 := eG23 _ rfl
        rw [← fy22, pj_nm_e]
        have kG23 : pj_kpt kc_63_4x G0 G23 := pj_kpt_t kG17 (pj_kpt_s jG23 rfl)
        obtain ⟨y24, hy24⟩ : ∃ z : Int32, z = pj_fi G23 2 4 := ⟨_, rfl⟩
        have ey24 : (pj_fi G23 2 4).toInt = y24.toInt := by rw [hy24]
        have ry24 : (-1 : Int) ≤ y24.toInt ∧ y24.toInt ≤ 80 := by rw [hy24]; exact iG23.2.1 2 4 (-1, 80) rfl
        show pj_X _ _ G23 43 [(0, .ref 27), (1, .ref 2), (2, .int dp), (3, .int v3), (4, .int v4)] [] _
        refine pj_X_of (fun r h => pj_R_to (G23, 44, [(0, .ref 27), (1, .ref 2), (2, .int dp), (3, .int v3), (4, .int v4)], [.int v3], 0, 0) 44 2 (fun _ => rfl) h) ?_
        cases b25 : pj_c1 .eq v3 0 with
        | true =>
          rw [pj_cT]
          have ub25 := pj_u0_eqT b25
          refine pj_X_of (fun r h => pj_R_ifT 54 rfl rfl b25 h) ?_
          have q26 : (pj_fi G23 2 4).toInt = y24.toInt := by rw [show pj_fi G23 2 4 = y24 from hy24.symm]
          exact pj_X_rt rfl rfl ⟨rfl, iG23, kG23, (fun H hH => by subst hH; exact (⟨by omega, (pr_kc_t (pr_kc_t x1_ (pr_kc_k jG17 rfl)) eG23.2)⟩)), rfl⟩
        | false =>
          rw [pj_cF]
          have ub25 := pj_u0_eqF b25
          refine pj_X_of (fun r h => pj_R_ifF rfl b25 h) ?_
          refine pj_X_of (fun r h => pj_R_to (G23, 51, [(0, .ref 27), (1, .ref 2), (2, .int dp), (3, .int v3), (4, .int v4)], [.int ((Int16.ofInt 2000).toInt32), .ref 27], 0, 0) 51 3 (fun _ => rfl) h) ?_
          have q27 : (pj_fi G23 2 4).toInt = y24.toInt := by rw [show pj_fi G23 2 4 = y24 from hy24.symm]
          refine pj_X_ca (vs := [.ref 27, .int ((Int16.ofInt 2000).toInt32)]) rfl (fun _ => rfl) ⟨Nat.le_of_ble_eq_true rfl, Nat.le_of_ble_eq_true rfl, pj_T_rcv iG23 rfl⟩ ⟨rfl, rfl⟩ (pj_Y_up (by decide) (ct_60x G23 iG23 ((Int16.ofInt 2000).toInt32) (by omega))) ?_
          rintro _ G29 ⟨rfl, iG29, jG29, eG29, fy28⟩
          replace eG29 := eG29 _ rfl
          rw [← fy28, pj_nm_e]
          have kG29 : pj_kpt kc_63_4x G0 G29 := pj_kpt_t kG23 (pj_kpt_s jG29 rfl)
          have q30 : (pj_fi G29 2 4).toInt = (pj_fi G23 2 4).toInt := by rw [jG29.1 (2, 4) (by decide)]
          obtain ⟨y31, hy31⟩ : ∃ z : Int32, z = pj_fi G29 2 4 := ⟨_, rfl⟩
          have ey31 : (pj_fi G29 2 4).toInt = y31.toInt := by rw [hy31]
          have ry31 : (-1 : Int) ≤ y31.toInt ∧ y31.toInt ≤ 80 := by rw [hy31]; exact iG29.2.1 2 4 (-1, 80) rfl
          show pj_X _ _ G29 54 [(0, .ref 27), (1, .ref 2), (2, .int dp), (3, .int v3), (4, .int v4)] [] _
          have q32 : (pj_fi G29 2 4).toInt = y31.toInt := by rw [show pj_fi G29 2 4 = y31 from hy31.symm]
          exact pj_X_rt rfl rfl ⟨rfl, iG29, kG29, (fun H hH => by subst hH; exact (⟨by omega, (pr_kc_t (pr_kc_t (pr_kc_t x1_ (pr_kc_k jG17 rfl)) eG23.2) eG29)⟩)), rfl⟩
      | false =>
        rw [pj_cF]
        have ub20 := pj_u0_eqF b20
        refine pj_X_of (fun r h => pj_R_ifF rfl b20 h) ?_
        refine pj_X_of (fun r h => pj_R_to (G17, 22, [(0, .ref 27), (1, .ref 2), (2, .int dp), (3, .int v3), (4, .int v4)], [.int v3], 0, 0) 22 2 (fun _ => rfl) h) ?_
        cases b33 : pj_c1 .ne v3 0 with
        | true =>
          rw [pj_cT]
          have ub33 := pj_u0_neT b33
          refine pj_X_of (fun r h => pj_R_ifT 29 rfl rfl b33 h) ?_
          refine pj_X_of (fun r h => pj_R_to (G17, 34, [(4, .int (v4 + Int32.ofInt 1)), (3, .int (Int32.ofInt 0)), (0, .ref 27), (1, .ref 2), (2, .int dp)], [], 0, 0) 34 4 (fun _ => rfl) h) ?_
          obtain ⟨z34, hz34⟩ : ∃ z : Int32, z = v4 + Int32.ofInt 1 := ⟨_, rfl⟩
          rw [← hz34]
          rw [pj_nm_e]
          have fz34_0 : z34.toInt = v4.toInt + (Int32.ofInt 1).toInt := by rw [hz34]; exact pj_addI (by have := pj_i32 v4; have := pj_i32 (Int32.ofInt 1); omega) (by have := pj_i32 v4; have := pj_i32 (Int32.ofInt 1); omega)
          refine pj_X_of (fun r h => pj_R_to (G17, 5, [(4, .int z34), (3, .int (Int32.ofInt 0)), (0, .ref 27), (1, .ref 2), (2, .int dp)], [], 0, 0) 5 2 (fun _ => rfl) h) ?_
          have q35 : (pj_fi G17 2 4).toInt = y19.toInt := by rw [show pj_fi G17 2 4 = y19 from hy19.symm]
          exact pj_X_sub [(0, .ref 27), (1, .ref 2), (2, .int dp), (3, .int (Int32.ofInt 0)), (4, .int z34)] (show List.Nodup [0, 1, 2, 3, 4] by decide) ⟨rfl, rfl, rfl, rfl, rfl, trivial⟩ (ih G17 iG17 kG17 (Int32.ofInt 0) z34 ⟨by omega, by omega⟩ ⟨by omega, by omega⟩ (by omega) (pr_kc_t x1_ (pr_kc_k jG17 rfl)) (by omega))
        | false =>
          rw [pj_cF]
          have ub33 := pj_u0_neF b33
          refine pj_X_of (fun r h => pj_R_ifF rfl b33 h) ?_
          refine pj_X_of (fun r h => pj_R_to (G17, 34, [(4, .int (v4 + Int32.ofInt 1)), (3, .int (Int32.ofInt 1)), (0, .ref 27), (1, .ref 2), (2, .int dp)], [], 0, 0) 34 5 (fun _ => rfl) h) ?_
          obtain ⟨z36, hz36⟩ : ∃ z : Int32, z = v4 + Int32.ofInt 1 := ⟨_, rfl⟩
          rw [← hz36]
          rw [pj_nm_e]
          have fz36_0 : z36.toInt = v4.toInt + (Int32.ofInt 1).toInt := by rw [hz36]; exact pj_addI (by have := pj_i32 v4; have := pj_i32 (Int32.ofInt 1); omega) (by have := pj_i32 v4; have := pj_i32 (Int32.ofInt 1); omega)
          refine pj_X_of (fun r h => pj_R_to (G17, 5, [(4, .int z36), (3, .int (Int32.ofInt 1)), (0, .ref 27), (1, .ref 2), (2, .int dp)], [], 0, 0) 5 2 (fun _ => rfl) h) ?_
          have q37 : (pj_fi G17 2 4).toInt = y19.toInt := by rw [show pj_fi G17 2 4 = y19 from hy19.symm]
          exact pj_X_sub [(0, .ref 27), (1, .ref 2), (2, .int dp), (3, .int (Int32.ofInt 1)), (4, .int z36)] (show List.Nodup [0, 1, 2, 3, 4] by decide) ⟨rfl, rfl, rfl, rfl, rfl, trivial⟩ (ih G17 iG17 kG17 (Int32.ofInt 1) z36 ⟨by omega, by omega⟩ ⟨by omega, by omega⟩ (by omega) (pr_kc_t x1_ (pr_kc_k jG17 rfl)) (by omega))
theorem ct_63_4x (G0 : pj_G) (hI : pj_Inv G0) (dp : Int32) (rdp : (4 : Int) ≤ dp.toInt ∧ dp.toInt ≤ 4) : pj_Y 18 63 [.ref 27, .ref 2, .int dp] G0 (fun v' G' => v' = none ∧ pj_Inv G' ∧ pj_kpt kc_63_4x G0 G' ∧ (∀ H, G0 = H → (((¬ (pj_fi H 2 4).toInt = -1 → (pj_fi G' 2 4).toInt = (pj_fi H 2 4).toInt)) ∧ (pr_kc H G'))) ∧ (G' = F_63_4x G0 dp)) := by
  have c0_ : ((Int16.ofInt 2000).toInt32).toInt = 2000 := by decide
  have c1_ : ((Int8.ofInt 40).toInt32).toInt = 40 := by decide
  have c2_ : ((Int8.ofInt 45).toInt32).toInt = 45 := by decide
  have c3_ : (Int32.ofInt 0).toInt = 0 := by decide
  have c4_ : (Int32.ofInt 1).toInt = 1 := by decide
  refine pj_Y_X (M := pj_m63) rfl rfl (Nat.le_of_ble_eq_true rfl) ?_
  have hK : pj_kpt kc_63_4x G0 G0 := pj_kpt_r _ _
  show pj_X _ _ G0 0 [(0, .ref 27), (1, .ref 2), (2, .int dp)] [] _
  rw [F_63_4x_e]
  obtain ⟨y38, hy38⟩ : ∃ z : Int32, z = pj_fi G0 2 4 := ⟨_, rfl⟩
  have ey38 : (pj_fi G0 2 4).toInt = y38.toInt := by rw [hy38]
  have ry38 : (-1 : Int) ≤ y38.toInt ∧ y38.toInt ≤ 80 := by rw [hy38]; exact hI.2.1 2 4 (-1, 80) rfl
  refine pj_X_of (fun r h => pj_R_to (G0, 5, [(4, .int (Int32.ofInt 0)), (3, .int (Int32.ofInt 0)), (0, .ref 27), (1, .ref 2), (2, .int dp)], [], 0, 0) 5 5 (fun _ => rfl) h) ?_
  have q39 : (pj_fi G0 2 4).toInt = y38.toInt := by rw [show pj_fi G0 2 4 = y38 from hy38.symm]
  exact pj_X_sub [(0, .ref 27), (1, .ref 2), (2, .int dp), (3, .int (Int32.ofInt 0)), (4, .int (Int32.ofInt 0))] (show List.Nodup [0, 1, 2, 3, 4] by decide) ⟨rfl, rfl, rfl, rfl, rfl, trivial⟩ ((lp_ct_63_4x G0 hI dp rdp 41) G0 hI hK (Int32.ofInt 0) (Int32.ofInt 0) ⟨by omega, by omega⟩ ⟨by omega, by omega⟩ (by omega) (pr_kc_r _) (by omega))
theorem fr_63_4x (G0 : pj_G) (hI : pj_Inv G0) (dp : Int32) (rdp : (4 : Int) ≤ dp.toInt ∧ dp.toInt ≤ 4) : pj_Inv (F_63_4x G0 dp) ∧ pj_kpt kc_63_4x G0 (F_63_4x G0 dp) ∧ (((¬ (pj_fi G0 2 4).toInt = -1 → (pj_fi (F_63_4x G0 dp) 2 4).toInt = (pj_fi G0 2 4).toInt)) ∧ (pr_kc G0 (F_63_4x G0 dp))) := by
  obtain ⟨v, G', -, -, i, j, x, e⟩ := ct_63_4x G0 hI dp rdp
  rw [← e]
  exact ⟨i, j, x _ rfl⟩
def kc_62_3_4x : pj_KT := ([(2, 3), (2, 4), (27, 3)], [2, 27, 28, 29], [28, 29])
noncomputable def F_62_3_4x (G0 : pj_G) (lv : Int32) (dp : Int32) : pj_G := pj_nm (F_63_4x G0 dp) (fun G4 => G4)
theorem F_62_3_4x_e (G0 : pj_G) (lv : Int32) (dp : Int32) : F_62_3_4x G0 lv dp = pj_nm (F_63_4x G0 dp) (fun G4 => G4) := rfl
theorem ct_62_3_4x (G0 : pj_G) (hI : pj_Inv G0) (lv : Int32) (dp : Int32) (rlv : (3 : Int) ≤ lv.toInt ∧ lv.toInt ≤ 3) (rdp : (4 : Int) ≤ dp.toInt ∧ dp.toInt ≤ 4) : pj_Y 19 62 [.ref 27, .ref 2, .int lv, .int dp] G0 (fun v' G' => v' = none ∧ pj_Inv G' ∧ pj_kpt kc_62_3_4x G0 G' ∧ (∀ H, G0 = H → (((¬ (pj_fi H 2 4).toInt = -1 → (pj_fi G' 2 4).toInt = (pj_fi H 2 4).toInt)) ∧ (pr_kc H G'))) ∧ (G' = F_62_3_4x G0 lv dp)) := by
  have c0_ : (Int32.ofInt 2).toInt = 2 := by decide
  refine pj_Y_X (M := pj_m62) rfl rfl (Nat.le_of_ble_eq_true rfl) ?_
  have hK : pj_kpt kc_62_3_4x G0 G0 := pj_kpt_r _ _
  show pj_X _ _ G0 0 [(0, .ref 27), (1, .ref 2), (2, .int lv), (3, .int dp)] [] _
  rw [F_62_3_4x_e]
  obtain ⟨y1, hy1⟩ : ∃ z : Int32, z = pj_fi G0 2 4 := ⟨_, rfl⟩
  have ey1 : (pj_fi G0 2 4).toInt = y1.toInt := by rw [hy1]
  have ry1 : (-1 : Int) ≤ y1.toInt ∧ y1.toInt ≤ 80 := by rw [hy1]; exact hI.2.1 2 4 (-1, 80) rfl
  refine pj_X_of (fun r h => pj_R_to (G0, 2, [(0, .ref 27), (1, .ref 2), (2, .int lv), (3, .int dp)], [.int (Int32.ofInt 2), .int lv], 0, 0) 2 3 (fun _ => rfl) h) ?_
  refine pj_X_of (fun r h => pj_R_icF rfl (pj_b_leF (by omega)) h) ?_
  refine pj_X_of (fun r h => pj_R_to (G0, 8, [(0, .ref 27), (1, .ref 2), (2, .int lv), (3, .int dp)], [.int dp, .ref 2, .ref 27], 0, 0) 8 4 (fun _ => rfl) h) ?_
  have q2 : (pj_fi G0 2 4).toInt = y1.toInt := by rw [show pj_fi G0 2 4 = y1 from hy1.symm]
  refine pj_X_ca (vs := [.ref 27, .ref 2, .int dp]) rfl (fun _ => rfl) ⟨Nat.le_of_ble_eq_true rfl, Nat.le_of_ble_eq_true rfl, pj_T_rcv hI rfl⟩ ⟨rfl, rfl⟩ (pj_Y_up (by decide) (ct_63_4x G0 hI dp ⟨by omega, by omega⟩)) ?_
  rintro _ G4 ⟨rfl, iG4, jG4, eG4, fy3⟩
  replace eG4 := eG4 _ rfl
  rw [← fy3, pj_nm_e]
  have kG4 : pj_kpt kc_62_3_4x G0 G4 := pj_kpt_t hK (pj_kpt_s jG4 rfl)
  obtain ⟨y5, hy5⟩ : ∃ z : Int32, z = pj_fi G4 2 4 := ⟨_, rfl⟩
  have ey5 : (pj_fi G4 2 4).toInt = y5.toInt := by rw [hy5]
  have ry5 : (-1 : Int) ≤ y5.toInt ∧ y5.toInt ≤ 80 := by rw [hy5]; exact iG4.2.1 2 4 (-1, 80) rfl
  show pj_X _ _ G4 11 [(0, .ref 27), (1, .ref 2), (2, .int lv), (3, .int dp)] [] _
  have q6 : (pj_fi G4 2 4).toInt = y5.toInt := by rw [show pj_fi G4 2 4 = y5 from hy5.symm]
  exact pj_X_rt rfl rfl ⟨rfl, iG4, kG4, (fun H hH => by subst hH; exact (⟨by omega, eG4.2⟩)), rfl⟩
theorem fr_62_3_4x (G0 : pj_G) (hI : pj_Inv G0) (lv : Int32) (dp : Int32) (rlv : (3 : Int) ≤ lv.toInt ∧ lv.toInt ≤ 3) (rdp : (4 : Int) ≤ dp.toInt ∧ dp.toInt ≤ 4) : pj_Inv (F_62_3_4x G0 lv dp) ∧ pj_kpt kc_62_3_4x G0 (F_62_3_4x G0 lv dp) ∧ (((¬ (pj_fi G0 2 4).toInt = -1 → (pj_fi (F_62_3_4x G0 lv dp) 2 4).toInt = (pj_fi G0 2 4).toInt)) ∧ (pr_kc G0 (F_62_3_4x G0 lv dp))) := by
  obtain ⟨v, G', -, -, i, j, x, e⟩ := ct_62_3_4x G0 hI lv dp rlv rdp
  rw [← e]
  exact ⟨i, j, x _ rfl⟩
def kc_62_2_4x : pj_KT := ([(2, 3), (2, 4), (27, 3)], [2, 27, 28, 29], [28, 29])
noncomputable def L_62_2_4x (G0 : pj_G) (lv : Int32) (dp : Int32) (fu : Nat) : Int32 → Int32 → pj_G → pj_G := Nat.rec (motive := fun _ => Int32 → Int32 → pj_G → pj_G) (fun _ _ G => G) (fun _ ih v4 v5 G => cond (pj_c1 .ge v5 v4) (G) (pj_bd (F_84_s7x G) (fun y7 G8 => cond (pj_c1 .ne y7 (Int32.ofInt (-1))) (pj_nm (lv + (Int32.ofInt 1)) (fun z12 => pj_nm (F_62_3_4x G8 z12 dp) (fun G15 => pj_nm (((Int16.ofInt 3000).toInt32) + y7) (fun z17 => pj_nm (F_60x G15 z17) (fun G20 => pj_nm (v5 + Int32.ofInt 1) (fun z23 => ih v4 z23 G20)))))) (G8)))) fu
theorem L_62_2_4x_s0 (G0 : pj_G) (lv : Int32) (dp : Int32) (fu : Nat) (v4 : Int32) (v5 : Int32) (G : pj_G) : L_62_2_4x G0 lv dp (fu + 1) v4 v5 G = cond (pj_c1 .ge v5 v4) (G) (pj_bd (F_84_s7x G) (fun y7 G8 => cond (pj_c1 .ne y7 (Int32.ofInt (-1))) (pj_nm (lv + (Int32.ofInt 1)) (fun z12 => pj_nm (F_62_3_4x G8 z12 dp) (fun G15 => pj_nm (((Int16.ofInt 3000).toInt32) + y7) (fun z17 => pj_nm (F_60x G15 z17) (fun G20 => pj_nm (v5 + Int32.ofInt 1) (fun z23 => L_62_2_4x G0 lv dp fu v4 z23 G20)))))) (G8))) := rfl
noncomputable def F_62_2_4x (G0 : pj_G) (lv : Int32) (dp : Int32) : pj_G := pj_nm (lv + (Int32.ofInt 1)) (fun z27 => pj_nm (F_62_3_4x G0 z27 dp) (fun G30 => L_62_2_4x G0 lv dp 41 ((Int8.ofInt 40).toInt32) (Int32.ofInt 0) G30))
theorem F_62_2_4x_e (G0 : pj_G) (lv : Int32) (dp : Int32) : F_62_2_4x G0 lv dp = pj_nm (lv + (Int32.ofInt 1)) (fun z27 => pj_nm (F_62_3_4x G0 z27 dp) (fun G30 => L_62_2_4x G0 lv dp 41 ((Int8.ofInt 40).toInt32) (Int32.ofInt 0) G30)) := rfl
theorem lp_ct_62_2_4x (G0 : pj_G) (hI0 : pj_Inv G0) (lv : Int32) (dp : Int32) (rlv : (2 : Int) ≤ lv.toInt ∧ lv.toInt ≤ 2) (rdp : (4 : Int) ≤ dp.toInt ∧ dp.toInt ≤ 4) : ∀ mn : Nat, (∀ (G : pj_G) (hI : pj_Inv G) (hK : pj_kpt kc_62_2_4x G0 G) (v4 : Int32) (v5 : Int32), ((1 : Int) ≤ v4.toInt ∧ v4.toInt ≤ 40) → ((0 : Int) ≤ v5.toInt ∧ v5.toInt ≤ 40) → (¬ (pj_fi G0 2 4).toInt = -1 → (pj_fi G 2 4).toInt = (pj_fi G0 2 4).toInt) → (pr_kc G0 G) → 40 - v5.toInt < (mn : Int) → pj_X 19 pj_m62 G 36 [(0, .ref 27), (1, .ref 2), (2, .int lv), (3, .int dp), (4, .int v4), (5, .int v5)] [] (fun v' G' => v' = none ∧ pj_Inv G' ∧ pj_kpt kc_62_2_4x G0 G' ∧ (∀ H, G0 = H → (((¬ (pj_fi H 2 4).toInt = -1 → (pj_fi G' 2 4).toInt = (pj_fi H 2 4).toInt)) ∧ (pr_kc H G'))) ∧ (G' = L_62_2_4x G0 lv dp mn v4 v5 G))) := by
  have c0_ : ((Int16.ofInt 3000).toInt32).toInt = 3000 := by decide
  have c1_ : ((Int8.ofInt 40).toInt32).toInt = 40 := by decide
  have c2_ : (Int32.ofInt (-1)).toInt = -1 := by decide
  have c3_ : (Int32.ofInt 0).toInt = 0 := by decide
  have c4_ : (Int32.ofInt 1).toInt = 1 := by decide
  have c5_ : (Int32.ofInt 2).toInt = 2 := by decide
  intro mn
  induction mn with
  | zero =>
    intro G hI hK v4 v5 rv4 rv5 x0_ x1_ hm
    exfalso
    omega
  | succ mn ih =>
    intro G hI hK v4 v5 rv4 rv5 x0_ x1_ hm
    rw [L_62_2_4x_s0]
    obtain ⟨y1, hy1⟩ : ∃ z : Int32, z = pj_fi G 2 4 := ⟨_, rfl⟩
    have ey1 : (pj_fi G 2 4).toInt = y1.toInt := by rw [hy1]
    have ry1 : (-1 : Int) ≤ y1.toInt ∧ y1.toInt ≤ 80 := by rw [hy1]; exact hI.2.1 2 4 (-1, 80) rfl
    refine pj_X_of (fun r h => pj_R_to (G, 40, [(0, .ref 27), (1, .ref 2), (2, .int lv), (3, .int dp), (4, .int v4), (5, .int v5)], [.int v4, .int v5], 0, 0) 40 3 (fun _ => rfl) h) ?_
    cases b2 : pj_c1 .ge v5 v4 with
    | true =>
      rw [pj_cT]
      have ub2 := pj_u_geT b2
      refine pj_X_of (fun r h => pj_R_icT 85 rfl rfl b2 h) ?_
      have q3 : (pj_fi G 2 4).toInt = y1.toInt := by rw [show pj_fi G 2 4 = y1 from hy1.symm]
      exact pj_X_rt rfl rfl ⟨rfl, hI, hK, (fun H hH => by subst hH; exact (⟨by omega, x1_⟩)), rfl⟩
    | false =>
      rw [pj_cF]
      have ub2 := pj_u_geF b2
      refine pj_X_of (fun r h => pj_R_icF rfl b2 h) ?_
      refine pj_X_of (fun r h => pj_R_to (G, 45, [(0, .ref 27), (1, .ref 2), (2, .int lv), (3, .int dp), (4, .int v4), (5, .int v5)], [.int lv, .ref 2], 0, 0) 45 3 (fun _ => rfl) h) ?_
      have q4 : (pj_fi G 2 4).toInt = y1.toInt := by rw [show pj_fi G 2 4 = y1 from hy1.symm]
      refine pj_X_ca (vs := [.int lv]) rfl (fun _ => rfl) ⟨Nat.le_of_ble_eq_true rfl, Nat.le_of_ble_eq_true rfl, rfl⟩ ⟨rfl, rfl⟩ (pj_Y_up (by decide) (ct_61_2 G hI lv ⟨by omega, by omega⟩)) ?_
      rintro _ _ ⟨rfl, rfl⟩
      show pj_X _ _ G 48 [(0, .ref 27), (1, .ref 2), (2, .int lv), (3, .int dp), (4, .int v4), (5, .int v5)] [.retAddr 7, .ref 2] _
      have q6 : (pj_fi G 2 4).toInt = y1.toInt := by rw [show pj_fi G 2 4 = y1 from hy1.symm]
      refine pj_X_ca (vs := [.ref 2, .retAddr 7]) rfl (fun _ => rfl) ⟨Nat.le_of_ble_eq_true rfl, Nat.le_of_ble_eq_true rfl, pj_T_rcv hI rfl⟩ ⟨rfl, rfl⟩ (pj_Y_up (by decide) (ct_84_s7x G hI)) ?_
      rintro _ G8 ⟨y7, rfl, iG8, jG8, ry7, ey7, fy7⟩
      replace ey7 := ey7 _ rfl
      rw [← fy7, pj_bd_e]
      have kG8 : pj_kpt kc_62_2_4x G0 G8 := pj_kpt_t hK (pj_kpt_s jG8 rfl)
      have q9 : (pj_fi G8 2 4).toInt = (pj_fi G 2 4).toInt := by rw [jG8.1 (2, 4) (by decide)]
      obtain ⟨y10, hy10⟩ : ∃ z : Int32, z = pj_fi G8 2 4 := ⟨_, rfl⟩
      have ey10 : (pj_fi G8 2 4).toInt = y10.toInt := by rw [hy10]
      have ry10 : (-1 : Int) ≤ y10.toInt ∧ y10.toInt ≤ 80 := by rw [hy10]; exact iG8.2.1 2 4 (-1, 80) rfl
      show pj_X _ _ G8 51 [(0, .ref 27), (1, .ref 2), (2, .int lv), (3, .int dp), (4, .int v4), (5, .int v5)] [.int y7] _
      refine pj_X_of (fun r h => pj_R_to (G8, 56, [(6, .int y7), (0, .ref 27), (1, .ref 2), (2, .int lv), (3, .int dp), (4, .int v4), (5, .int v5)], [.int (Int32.ofInt (-1)), .int y7], 0, 0) 56 4 (fun _ => rfl) h) ?_
      cases b11 : pj_c1 .ne y7 (Int32.ofInt (-1)) with
      | true =>
        rw [pj_cT]
        have ub11 := pj_u_neT b11
        refine pj_X_of (fun r h => pj_R_icT 60 rfl rfl b11 h) ?_
        refine pj_X_of (fun r h => pj_R_to (G8, 65, [(6, .int y7), (0, .ref 27), (1, .ref 2), (2, .int lv), (3, .int dp), (4, .int v4), (5, .int v5)], [.int (lv + (Int32.ofInt 1)), .ref 2, .ref 27], 0, 0) 65 6 (fun _ => rfl) h) ?_
        obtain ⟨z12, hz12⟩ : ∃ z : Int32, z = lv + (Int32.ofInt 1) := ⟨_, rfl⟩
        refine pj_X_eqi hz12.symm ?_
        rw [← hz12, pj_nm_e]
        have fz12_0 : z12.toInt = lv.toInt + (Int32.ofInt 1).toInt := by rw [hz12]; exact pj_addI (by have := pj_i32 lv; have := pj_i32 (Int32.ofInt 1); omega) (by have := pj_i32 lv; have := pj_i32 (Int32.ofInt 1); omega)
        refine pj_X_of (fun r h => pj_R_to (G8, 66, [(6, .int y7), (0, .ref 27), (1, .ref 2), (2, .int lv), (3, .int dp), (4, .int v4), (5, .int v5)], [.int dp, .int z12, .ref 2, .ref 27], 0, 0) 66 2 (fun _ => rfl) h) ?_
        have q13 : (pj_fi G8 2 4).toInt = y10.toInt := by rw [show pj_fi G8 2 4 = y10 from hy10.symm]
        refine pj_X_ca (vs := [.ref 27, .ref 2, .int z12, .int dp]) rfl (fun _ => rfl) ⟨Nat.le_of_ble_eq_true rfl, Nat.le_of_ble_eq_true rfl, pj_T_rcv iG8 rfl⟩ ⟨rfl, rfl⟩ (pj_Y_up (by decide) (ct_62_3_4x G8 iG8 z12 dp ⟨by omega, by omega⟩ ⟨by omega, by omega⟩)) ?_
        rintro _ G15 ⟨rfl, iG15, jG15, eG15, fy14⟩
        replace eG15 := eG15 _ rfl
        rw [← fy14, pj_nm_e]
        have kG15 : pj_kpt kc_62_2_4x G0 G15 := pj_kpt_t kG8 (pj_kpt_s jG15 rfl)
        obtain ⟨y16, hy16⟩ : ∃ z : Int32, z = pj_fi G15 2 4 := ⟨_, rfl⟩
        have ey16 : (pj_fi G15 2 4).toInt = y16.toInt := by rw [hy16]
        have ry16 : (-1 : Int) ≤ y16.toInt ∧ y16.toInt ≤ 80 := by rw [hy16]; exact iG15.2.1 2 4 (-1, 80) rfl
        show pj_X _ _ G15 69 [(6, .int y7), (0, .ref 27), (1, .ref 2), (2, .int lv), (3, .int dp), (4, .int v4), (5, .int v5)] [] _
        refine pj_X_of (fun r h => pj_R_to (G15, 76, [(6, .int y7), (0, .ref 27), (1, .ref 2), (2, .int lv), (3, .int dp), (4, .int v4), (5, .int v5)], [.int (((Int16.ofInt 3000).toInt32) + y7), .ref 27], 0, 0) 76 5 (fun _ => rfl) h) ?_
        obtain ⟨z17, hz17⟩ : ∃ z : Int32, z = ((Int16.ofInt 3000).toInt32) + y7 := ⟨_, rfl⟩
        refine pj_X_eqi hz17.symm ?_
        rw [← hz17, pj_nm_e]
        have fz17_0 : z17.toInt = ((Int16.ofInt 3000).toInt32).toInt + y7.toInt := by rw [hz17]; exact pj_addI (by have := pj_i32 ((Int16.ofInt 3000).toInt32); have := pj_i32 y7; omega) (by have := pj_i32 ((Int16.ofInt 3000).toInt32); have := pj_i32 y7; omega)
        have q18 : (pj_fi G15 2 4).toInt = y16.toInt := by rw [show pj_fi G15 2 4 = y16 from hy16.symm]
        refine pj_X_ca (vs := [.ref 27, .int z17]) rfl (fun _ => rfl) ⟨Nat.le_of_ble_eq_true rfl, Nat.le_of_ble_eq_true rfl, pj_T_rcv iG15 rfl⟩ ⟨rfl, rfl⟩ (pj_Y_up (by decide) (ct_60x G15 iG15 z17 (by omega))) ?_
        rintro _ G20 ⟨rfl, iG20, jG20, eG20, fy19⟩
        replace eG20 := eG20 _ rfl
        rw [← fy19, pj_nm_e]
        have kG20 : pj_kpt kc_62_2_4x G0 G20 := pj_kpt_t kG15 (pj_kpt_s jG20 rfl)
        have q21 : (pj_fi G20 2 4).toInt = (pj_fi G15 2 4).toInt := by rw [jG20.1 (2, 4) (by decide)]
        obtain ⟨y22, hy22⟩ : ∃ z : Int32, z = pj_fi G20 2 4 := ⟨_, rfl⟩
        have ey22 : (pj_fi G20 2 4).toInt = y22.toInt := by rw [hy22]
        have ry22 : (-1 : Int) ≤ y22.toInt ∧ y22.toInt ≤ 80 := by rw [hy22]; exact iG20.2.1 2 4 (-1, 80) rfl
        show pj_X _ _ G20 79 [(6, .int y7), (0, .ref 27), (1, .ref 2), (2, .int lv), (3, .int dp), (4, .int v4), (5, .int v5)] [] _
        refine pj_X_of (fun r h => pj_R_to (G20, 82, [(5, .int (v5 + Int32.ofInt 1)), (6, .int y7), (0, .ref 27), (1, .ref 2), (2, .int lv), (3, .int dp), (4, .int v4)], [], 0, 0) 82 2 (fun _ => rfl) h) ?_
        obtain ⟨z23, hz23⟩ : ∃ z : Int32, z = v5 + Int32.ofInt 1 := ⟨_, rfl⟩
        rw [← hz23]
        rw [pj_nm_e]
        have fz23_0 : z23.toInt = v5.toInt + (Int32.ofInt 1).toInt := by rw [hz23]; exact pj_addI (by have := pj_i32 v5; have := pj_i32 (Int32.ofInt 1); omega) (by have := pj_i32 v5; have := pj_i32 (Int32.ofInt 1); omega)
        refine pj_X_of (fun r h => pj_R_to (G20, 36, [(5, .int z23), (6, .int y7), (0, .ref 27), (1, .ref 2), (2, .int lv), (3, .int dp), (4, .int v4)], [], 0, 0) 36 2 (fun _ => rfl) h) ?_
        have q24 : (pj_fi G20 2 4).toInt = y22.toInt := by rw [show pj_fi G20 2 4 = y22 from hy22.symm]
        exact pj_X_sub [(0, .ref 27), (1, .ref 2), (2, .int lv), (3, .int dp), (4, .int v4), (5, .int z23)] (show List.Nodup [0, 1, 2, 3, 4, 5] by decide) ⟨rfl, rfl, rfl, rfl, rfl, rfl, trivial⟩ (ih G20 iG20 kG20 v4 z23 ⟨by omega, by omega⟩ ⟨by omega, by omega⟩ (by omega) (pr_kc_t (pr_kc_t (pr_kc_t x1_ (pr_kc_k jG8 rfl)) eG15.2) eG20) (by omega))
      | false =>
        rw [pj_cF]
        have ub11 := pj_u_neF b11
        refine pj_X_of (fun r h => pj_R_icF rfl b11 h) ?_
        have q25 : (pj_fi G8 2 4).toInt = y10.toInt := by rw [show pj_fi G8 2 4 = y10 from hy10.symm]
        exact pj_X_rt rfl rfl ⟨rfl, iG8, kG8, (fun H hH => by subst hH; exact (⟨by omega, (pr_kc_t x1_ (pr_kc_k jG8 rfl))⟩)), rfl⟩
theorem ct_62_2_4x (G0 : pj_G) (hI : pj_Inv G0) (lv : Int32) (dp : Int32) (rlv : (2 : Int) ≤ lv.toInt ∧ lv.toInt ≤ 2) (rdp : (4 : Int) ≤ dp.toInt ∧ dp.toInt ≤ 4) : pj_Y 20 62 [.ref 27, .ref 2, .int lv, .int dp] G0 (fun v' G' => v' = none ∧ pj_Inv G' ∧ pj_kpt kc_62_2_4x G0 G' ∧ (∀ H, G0 = H → (((¬ (pj_fi H 2 4).toInt = -1 → (pj_fi G' 2 4).toInt = (pj_fi H 2 4).toInt)) ∧ (pr_kc H G'))) ∧ (G' = F_62_2_4x G0 lv dp)) := by
  have c0_ : ((Int16.ofInt 3000).toInt32).toInt = 3000 := by decide
  have c1_ : ((Int8.ofInt 40).toInt32).toInt = 40 := by decide
  have c2_ : (Int32.ofInt (-1)).toInt = -1 := by decide
  have c3_ : (Int32.ofInt 0).toInt = 0 := by decide
  have c4_ : (Int32.ofInt 1).toInt = 1 := by decide
  have c5_ : (Int32.ofInt 2).toInt = 2 := by decide
  refine pj_Y_X (M := pj_m62) rfl rfl (Nat.le_of_ble_eq_true rfl) ?_
  have hK : pj_kpt kc_62_2_4x G0 G0 := pj_kpt_r _ _
  show pj_X _ _ G0 0 [(0, .ref 27), (1, .ref 2), (2, .int lv), (3, .int dp)] [] _
  rw [F_62_2_4x_e]
  obtain ⟨y26, hy26⟩ : ∃ z : Int32, z = pj_fi G0 2 4 := ⟨_, rfl⟩
  have ey26 : (pj_fi G0 2 4).toInt = y26.toInt := by rw [hy26]
  have ry26 : (-1 : Int) ≤ y26.toInt ∧ y26.toInt ≤ 80 := by rw [hy26]; exact hI.2.1 2 4 (-1, 80) rfl
  refine pj_X_of (fun r h => pj_R_to (G0, 2, [(0, .ref 27), (1, .ref 2), (2, .int lv), (3, .int dp)], [.int (Int32.ofInt 2), .int lv], 0, 0) 2 3 (fun _ => rfl) h) ?_
  refine pj_X_of (fun r h => pj_R_icT 12 rfl rfl (pj_b_leT (by omega)) h) ?_
  refine pj_X_of (fun r h => pj_R_to (G0, 17, [(0, .ref 27), (1, .ref 2), (2, .int lv), (3, .int dp)], [.int (lv + (Int32.ofInt 1)), .ref 2, .ref 27], 0, 0) 17 6 (fun _ => rfl) h) ?_
  obtain ⟨z27, hz27⟩ : ∃ z : Int32, z = lv + (Int32.ofInt 1) := ⟨_, rfl⟩
  refine pj_X_eqi hz27.symm ?_
  rw [← hz27, pj_nm_e]
  have fz27_0 : z27.toInt = lv.toInt + (Int32.ofInt 1).toInt := by rw [hz27]; exact pj_addI (by have := pj_i32 lv; have := pj_i32 (Int32.ofInt 1); omega) (by have := pj_i32 lv; have := pj_i32 (Int32.ofInt 1); omega)
  refine pj_X_of (fun r h => pj_R_to (G0, 18, [(0, .ref 27), (1, .ref 2), (2, .int lv), (3, .int dp)], [.int dp, .int z27, .ref 2, .ref 27], 0, 0) 18 2 (fun _ => rfl) h) ?_
  have q28 : (pj_fi G0 2 4).toInt = y26.toInt := by rw [show pj_fi G0 2 4 = y26 from hy26.symm]
  refine pj_X_ca (vs := [.ref 27, .ref 2, .int z27, .int dp]) rfl (fun _ => rfl) ⟨Nat.le_of_ble_eq_true rfl, Nat.le_of_ble_eq_true rfl, pj_T_rcv hI rfl⟩ ⟨rfl, rfl⟩ (pj_Y_up (by decide) (ct_62_3_4x G0 hI z27 dp ⟨by omega, by omega⟩ ⟨by omega, by omega⟩)) ?_
  rintro _ G30 ⟨rfl, iG30, jG30, eG30, fy29⟩
  replace eG30 := eG30 _ rfl
  rw [← fy29, pj_nm_e]
  have kG30 : pj_kpt kc_62_2_4x G0 G30 := pj_kpt_t hK (pj_kpt_s jG30 rfl)
  obtain ⟨y31, hy31⟩ : ∃ z : Int32, z = pj_fi G30 2 4 := ⟨_, rfl⟩
  have ey31 : (pj_fi G30 2 4).toInt = y31.toInt := by rw [hy31]
  have ry31 : (-1 : Int) ≤ y31.toInt ∧ y31.toInt ≤ 80 := by rw [hy31]; exact iG30.2.1 2 4 (-1, 80) rfl
  show pj_X _ _ G30 21 [(0, .ref 27), (1, .ref 2), (2, .int lv), (3, .int dp)] [] _
  refine pj_X_of (fun r h => pj_R_to (G30, 22, [(0, .ref 27), (1, .ref 2), (2, .int lv), (3, .int dp)], [.int lv], 0, 0) 22 2 (fun _ => rfl) h) ?_
  refine pj_X_of (fun r h => pj_R_ifT 29 rfl rfl (pj_b0_neT (by omega)) h) ?_
  refine pj_X_of (fun r h => pj_R_to (G30, 36, [(5, .int (Int32.ofInt 0)), (4, .int ((Int8.ofInt 40).toInt32)), (0, .ref 27), (1, .ref 2), (2, .int lv), (3, .int dp)], [], 0, 0) 36 5 (fun _ => rfl) h) ?_
  have q32 : (pj_fi G30 2 4).toInt = y31.toInt := by rw [show pj_fi G30 2 4 = y31 from hy31.symm]
  exact pj_X_sub [(0, .ref 27), (1, .ref 2), (2, .int lv), (3, .int dp), (4, .int ((Int8.ofInt 40).toInt32)), (5, .int (Int32.ofInt 0))] (show List.Nodup [0, 1, 2, 3, 4, 5] by decide) ⟨rfl, rfl, rfl, rfl, rfl, rfl, trivial⟩ ((lp_ct_62_2_4x G0 hI lv dp rlv rdp 41) G30 iG30 kG30 ((Int8.ofInt 40).toInt32) (Int32.ofInt 0) ⟨by omega, by omega⟩ ⟨by omega, by omega⟩ (by omega) eG30.2 (by omega))
theorem fr_62_2_4x (G0 : pj_G) (hI : pj_Inv G0) (lv : Int32) (dp : Int32) (rlv : (2 : Int) ≤ lv.toInt ∧ lv.toInt ≤ 2) (rdp : (4 : Int) ≤ dp.toInt ∧ dp.toInt ≤ 4) : pj_Inv (F_62_2_4x G0 lv dp) ∧ pj_kpt kc_62_2_4x G0 (F_62_2_4x G0 lv dp) ∧ (((¬ (pj_fi G0 2 4).toInt = -1 → (pj_fi (F_62_2_4x G0 lv dp) 2 4).toInt = (pj_fi G0 2 4).toInt)) ∧ (pr_kc G0 (F_62_2_4x G0 lv dp))) := by
  obtain ⟨v, G', -, -, i, j, x, e⟩ := ct_62_2_4x G0 hI lv dp rlv rdp
  rw [← e]
  exact ⟨i, j, x _ rfl⟩
def kc_62_1_4x : pj_KT := ([(2, 3), (2, 4), (27, 3)], [2, 27, 28, 29], [28, 29])
noncomputable def L_62_1_4x (G0 : pj_G) (lv : Int32) (dp : Int32) (fu : Nat) : Int32 → Int32 → pj_G → pj_G := Nat.rec (motive := fun _ => Int32 → Int32 → pj_G → pj_G) (fun _ _ G => G) (fun _ ih v4 v5 G => cond (pj_c1 .ge v5 v4) (G) (pj_bd (F_84_s6x G) (fun y7 G8 => cond (pj_c1 .ne y7 (Int32.ofInt (-1))) (pj_nm (lv + (Int32.ofInt 1)) (fun z12 => pj_nm (F_62_2_4x G8 z12 dp) (fun G15 => pj_nm (((Int16.ofInt 3000).toInt32) + y7) (fun z17 => pj_nm (F_60x G15 z17) (fun G20 => pj_nm (v5 + Int32.ofInt 1) (fun z23 => ih v4 z23 G20)))))) (G8)))) fu
theorem L_62_1_4x_s0 (G0 : pj_G) (lv : Int32) (dp : Int32) (fu : Nat) (v4 : Int32) (v5 : Int32) (G : pj_G) : L_62_1_4x G0 lv dp (fu + 1) v4 v5 G = cond (pj_c1 .ge v5 v4) (G) (pj_bd (F_84_s6x G) (fun y7 G8 => cond (pj_c1 .ne y7 (Int32.ofInt (-1))) (pj_nm (lv + (Int32.ofInt 1)) (fun z12 => pj_nm (F_62_2_4x G8 z12 dp) (fun G15 => pj_nm (((Int16.ofInt 3000).toInt32) + y7) (fun z17 => pj_nm (F_60x G15 z17) (fun G20 => pj_nm (v5 + Int32.ofInt 1) (fun z23 => L_62_1_4x G0 lv dp fu v4 z23 G20)))))) (G8))) := rfl
noncomputable def F_62_1_4x (G0 : pj_G) (lv : Int32) (dp : Int32) : pj_G := pj_nm (lv + (Int32.ofInt 1)) (fun z27 => pj_nm (F_62_2_4x G0 z27 dp) (fun G30 => L_62_1_4x G0 lv dp 41 ((Int8.ofInt 40).toInt32) (Int32.ofInt 0) G30))
theorem F_62_1_4x_e (G0 : pj_G) (lv : Int32) (dp : Int32) : F_62_1_4x G0 lv dp = pj_nm (lv + (Int32.ofInt 1)) (fun z27 => pj_nm (F_62_2_4x G0 z27 dp) (fun G30 => L_62_1_4x G0 lv dp 41 ((Int8.ofInt 40).toInt32) (Int32.ofInt 0) G30)) := rfl
theorem lp_ct_62_1_4x (G0 : pj_G) (hI0 : pj_Inv G0) (lv : Int32) (dp : Int32) (rlv : (1 : Int) ≤ lv.toInt ∧ lv.toInt ≤ 1) (rdp : (4 : Int) ≤ dp.toInt ∧ dp.toInt ≤ 4) : ∀ mn : Nat, (∀ (G : pj_G) (hI : pj_Inv G) (hK : pj_kpt kc_62_1_4x G0 G) (v4 : Int32) (v5 : Int32), ((1 : Int) ≤ v4.toInt ∧ v4.toInt ≤ 40) → ((0 : Int) ≤ v5.toInt ∧ v5.toInt ≤ 40) → (¬ (pj_fi G0 2 4).toInt = -1 → (pj_fi G 2 4).toInt = (pj_fi G0 2 4).toInt) → (pr_kc G0 G) → 40 - v5.toInt < (mn : Int) → pj_X 20 pj_m62 G 36 [(0, .ref 27), (1, .ref 2), (2, .int lv), (3, .int dp), (4, .int v4), (5, .int v5)] [] (fun v' G' => v' = none ∧ pj_Inv G' ∧ pj_kpt kc_62_1_4x G0 G' ∧ (∀ H, G0 = H → (((¬ (pj_fi H 2 4).toInt = -1 → (pj_fi G' 2 4).toInt = (pj_fi H 2 4).toInt)) ∧ (pr_kc H G'))) ∧ (G' = L_62_1_4x G0 lv dp mn v4 v5 G))) := by
  have c0_ : ((Int16.ofInt 3000).toInt32).toInt = 3000 := by decide
  have c1_ : ((Int8.ofInt 40).toInt32).toInt = 40 := by decide
  have c2_ : (Int32.ofInt (-1)).toInt = -1 := by decide
  have c3_ : (Int32.ofInt 0).toInt = 0 := by decide
  have c4_ : (Int32.ofInt 1).toInt = 1 := by decide
  have c5_ : (Int32.ofInt 2).toInt = 2 := by decide
  intro mn
  induction mn with
  | zero =>
    intro G hI hK v4 v5 rv4 rv5 x0_ x1_ hm
    exfalso
    omega
  | succ mn ih =>
    intro G hI hK v4 v5 rv4 rv5 x0_ x1_ hm
    rw [L_62_1_4x_s0]
    obtain ⟨y1, hy1⟩ : ∃ z : Int32, z = pj_fi G 2 4 := ⟨_, rfl⟩
    have ey1 : (pj_fi G 2 4).toInt = y1.toInt := by rw [hy1]
    have ry1 : (-1 : Int) ≤ y1.toInt ∧ y1.toInt ≤ 80 := by rw [hy1]; exact hI.2.1 2 4 (-1, 80) rfl
    refine pj_X_of (fun r h => pj_R_to (G, 40, [(0, .ref 27), (1, .ref 2), (2, .int lv), (3, .int dp), (4, .int v4), (5, .int v5)], [.int v4, .int v5], 0, 0) 40 3 (fun _ => rfl) h) ?_
    cases b2 : pj_c1 .ge v5 v4 with
    | true =>
      rw [pj_cT]
      have ub2 := pj_u_geT b2
      refine pj_X_of (fun r h => pj_R_icT 85 rfl rfl b2 h) ?_
      have q3 : (pj_fi G 2 4).toInt = y1.toInt := by rw [show pj_fi G 2 4 = y1 from hy1.symm]
      exact pj_X_rt rfl rfl ⟨rfl, hI, hK, (fun H hH => by subst hH; exact (⟨by omega, x1_⟩)), rfl⟩
    | false =>
      rw [pj_cF]
      have ub2 := pj_u_geF b2
      refine pj_X_of (fun r h => pj_R_icF rfl b2 h) ?_
      refine pj_X_of (fun r h => pj_R_to (G, 45, [(0, .ref 27), (1, .ref 2), (2, .int lv), (3, .int dp), (4, .int v4), (5, .int v5)], [.int lv, .ref 2], 0, 0) 45 3 (fun _ => rfl) h) ?_
      have q4 : (pj_fi G 2 4).toInt = y1.toInt := by rw [show pj_fi G 2 4 = y1 from hy1.symm]
      refine pj_X_ca (vs := [.int lv]) rfl (fun _ => rfl) ⟨Nat.le_of_ble_eq_true rfl, Nat.le_of_ble_eq_true rfl, rfl⟩ ⟨rfl, rfl⟩ (pj_Y_up (by decide) (ct_61_1 G hI lv ⟨by omega, by omega⟩)) ?_
      rintro _ _ ⟨rfl, rfl⟩
      show pj_X _ _ G 48 [(0, .ref 27), (1, .ref 2), (2, .int lv), (3, .int dp), (4, .int v4), (5, .int v5)] [.retAddr 6, .ref 2] _
      have q6 : (pj_fi G 2 4).toInt = y1.toInt := by rw [show pj_fi G 2 4 = y1 from hy1.symm]
      refine pj_X_ca (vs := [.ref 2, .retAddr 6]) rfl (fun _ => rfl) ⟨Nat.le_of_ble_eq_true rfl, Nat.le_of_ble_eq_true rfl, pj_T_rcv hI rfl⟩ ⟨rfl, rfl⟩ (pj_Y_up (by decide) (ct_84_s6x G hI)) ?_
      rintro _ G8 ⟨y7, rfl, iG8, jG8, ry7, ey7, fy7⟩
      replace ey7 := ey7 _ rfl
      rw [← fy7, pj_bd_e]
      have kG8 : pj_kpt kc_62_1_4x G0 G8 := pj_kpt_t hK (pj_kpt_s jG8 rfl)
      have q9 : (pj_fi G8 2 4).toInt = (pj_fi G 2 4).toInt := by rw [jG8.1 (2, 4) (by decide)]
      obtain ⟨y10, hy10⟩ : ∃ z : Int32, z = pj_fi G8 2 4 := ⟨_, rfl⟩
      have ey10 : (pj_fi G8 2 4).toInt = y10.toInt := by rw [hy10]
      have ry10 : (-1 : Int) ≤ y10.toInt ∧ y10.toInt ≤ 80 := by rw [hy10]; exact iG8.2.1 2 4 (-1, 80) rfl
      show pj_X _ _ G8 51 [(0, .ref 27), (1, .ref 2), (2, .int lv), (3, .int dp), (4, .int v4), (5, .int v5)] [.int y7] _
      refine pj_X_of (fun r h => pj_R_to (G8, 56, [(6, .int y7), (0, .ref 27), (1, .ref 2), (2, .int lv), (3, .int dp), (4, .int v4), (5, .int v5)], [.int (Int32.ofInt (-1)), .int y7], 0, 0) 56 4 (fun _ => rfl) h) ?_
      cases b11 : pj_c1 .ne y7 (Int32.ofInt (-1)) with
      | true =>
        rw [pj_cT]
        have ub11 := pj_u_neT b11
        refine pj_X_of (fun r h => pj_R_icT 60 rfl rfl b11 h) ?_
        refine pj_X_of (fun r h => pj_R_to (G8, 65, [(6, .int y7), (0, .ref 27), (1, .ref 2), (2, .int lv), (3, .int dp), (4, .int v4), (5, .int v5)], [.int (lv + (Int32.ofInt 1)), .ref 2, .ref 27], 0, 0) 65 6 (fun _ => rfl) h) ?_
        obtain ⟨z12, hz12⟩ : ∃ z : Int32, z = lv + (Int32.ofInt 1) := ⟨_, rfl⟩
        refine pj_X_eqi hz12.symm ?_
        rw [← hz12, pj_nm_e]
        have fz12_0 : z12.toInt = lv.toInt + (Int32.ofInt 1).toInt := by rw [hz12]; exact pj_addI (by have := pj_i32 lv; have := pj_i32 (Int32.ofInt 1); omega) (by have := pj_i32 lv; have := pj_i32 (Int32.ofInt 1); omega)
        refine pj_X_of (fun r h => pj_R_to (G8, 66, [(6, .int y7), (0, .ref 27), (1, .ref 2), (2, .int lv), (3, .int dp), (4, .int v4), (5, .int v5)], [.int dp, .int z12, .ref 2, .ref 27], 0, 0) 66 2 (fun _ => rfl) h) ?_
        have q13 : (pj_fi G8 2 4).toInt = y10.toInt := by rw [show pj_fi G8 2 4 = y10 from hy10.symm]
        refine pj_X_ca (vs := [.ref 27, .ref 2, .int z12, .int dp]) rfl (fun _ => rfl) ⟨Nat.le_of_ble_eq_true rfl, Nat.le_of_ble_eq_true rfl, pj_T_rcv iG8 rfl⟩ ⟨rfl, rfl⟩ (pj_Y_up (by decide) (ct_62_2_4x G8 iG8 z12 dp ⟨by omega, by omega⟩ ⟨by omega, by omega⟩)) ?_
        rintro _ G15 ⟨rfl, iG15, jG15, eG15, fy14⟩
        replace eG15 := eG15 _ rfl
        rw [← fy14, pj_nm_e]
        have kG15 : pj_kpt kc_62_1_4x G0 G15 := pj_kpt_t kG8 (pj_kpt_s jG15 rfl)
        obtain ⟨y16, hy16⟩ : ∃ z : Int32, z = pj_fi G15 2 4 := ⟨_, rfl⟩
        have ey16 : (pj_fi G15 2 4).toInt = y16.toInt := by rw [hy16]
        have ry16 : (-1 : Int) ≤ y16.toInt ∧ y16.toInt ≤ 80 := by rw [hy16]; exact iG15.2.1 2 4 (-1, 80) rfl
        show pj_X _ _ G15 69 [(6, .int y7), (0, .ref 27), (1, .ref 2), (2, .int lv), (3, .int dp), (4, .int v4), (5, .int v5)] [] _
        refine pj_X_of (fun r h => pj_R_to (G15, 76, [(6, .int y7), (0, .ref 27), (1, .ref 2), (2, .int lv), (3, .int dp), (4, .int v4), (5, .int v5)], [.int (((Int16.ofInt 3000).toInt32) + y7), .ref 27], 0, 0) 76 5 (fun _ => rfl) h) ?_
        obtain ⟨z17, hz17⟩ : ∃ z : Int32, z = ((Int16.ofInt 3000).toInt32) + y7 := ⟨_, rfl⟩
        refine pj_X_eqi hz17.symm ?_
        rw [← hz17, pj_nm_e]
        have fz17_0 : z17.toInt = ((Int16.ofInt 3000).toInt32).toInt + y7.toInt := by rw [hz17]; exact pj_addI (by have := pj_i32 ((Int16.ofInt 3000).toInt32); have := pj_i32 y7; omega) (by have := pj_i32 ((Int16.ofInt 3000).toInt32); have := pj_i32 y7; omega)
        have q18 : (pj_fi G15 2 4).toInt = y16.toInt := by rw [show pj_fi G15 2 4 = y16 from hy16.symm]
        refine pj_X_ca (vs := [.ref 27, .int z17]) rfl (fun _ => rfl) ⟨Nat.le_of_ble_eq_true rfl, Nat.le_of_ble_eq_true rfl, pj_T_rcv iG15 rfl⟩ ⟨rfl, rfl⟩ (pj_Y_up (by decide) (ct_60x G15 iG15 z17 (by omega))) ?_
        rintro _ G20 ⟨rfl, iG20, jG20, eG20, fy19⟩
        replace eG20 := eG20 _ rfl
        rw [← fy19, pj_nm_e]
        have kG20 : pj_kpt kc_62_1_4x G0 G20 := pj_kpt_t kG15 (pj_kpt_s jG20 rfl)
        have q21 : (pj_fi G20 2 4).toInt = (pj_fi G15 2 4).toInt := by rw [jG20.1 (2, 4) (by decide)]
        obtain ⟨y22, hy22⟩ : ∃ z : Int32, z = pj_fi G20 2 4 := ⟨_, rfl⟩
        have ey22 : (pj_fi G20 2 4).toInt = y22.toInt := by rw [hy22]
        have ry22 : (-1 : Int) ≤ y22.toInt ∧ y22.toInt ≤ 80 := by rw [hy22]; exact iG20.2.1 2 4 (-1, 80) rfl
        show pj_X _ _ G20 79 [(6, .int y7), (0, .ref 27), (1, .ref 2), (2, .int lv), (3, .int dp), (4, .int v4), (5, .int v5)] [] _
        refine pj_X_of (fun r h => pj_R_to (G20, 82, [(5, .int (v5 + Int32.ofInt 1)), (6, .int y7), (0, .ref 27), (1, .ref 2), (2, .int lv), (3, .int dp), (4, .int v4)], [], 0, 0) 82 2 (fun _ => rfl) h) ?_
        obtain ⟨z23, hz23⟩ : ∃ z : Int32, z = v5 + Int32.ofInt 1 := ⟨_, rfl⟩
        rw [← hz23]
        rw [pj_nm_e]
        have fz23_0 : z23.toInt = v5.toInt + (Int32.ofInt 1).toInt := by rw [hz23]; exact pj_addI (by have := pj_i32 v5; have := pj_i32 (Int32.ofInt 1); omega) (by have := pj_i32 v5; have := pj_i32 (Int32.ofInt 1); omega)
        refine pj_X_of (fun r h => pj_R_to (G20, 36, [(5, .int z23), (6, .int y7), (0, .ref 27), (1, .ref 2), (2, .int lv), (3, .int dp), (4, .int v4)], [], 0, 0) 36 2 (fun _ => rfl) h) ?_
        have q24 : (pj_fi G20 2 4).toInt = y22.toInt := by rw [show pj_fi G20 2 4 = y22 from hy22.symm]
        exact pj_X_sub [(0, .ref 27), (1, .ref 2), (2, .int lv), (3, .int dp), (4, .int v4), (5, .int z23)] (show List.Nodup [0, 1, 2, 3, 4, 5] by decide) ⟨rfl, rfl, rfl, rfl, rfl, rfl, trivial⟩ (ih G20 iG20 kG20 v4 z23 ⟨by omega, by omega⟩ ⟨by omega, by omega⟩ (by omega) (pr_kc_t (pr_kc_t (pr_kc_t x1_ (pr_kc_k jG8 rfl)) eG15.2) eG20) (by omega))
      | false =>
        rw [pj_cF]
        have ub11 := pj_u_neF b11
        refine pj_X_of (fun r h => pj_R_icF rfl b11 h) ?_
        have q25 : (pj_fi G8 2 4).toInt = y10.toInt := by rw [show pj_fi G8 2 4 = y10 from hy10.symm]
        exact pj_X_rt rfl rfl ⟨rfl, iG8, kG8, (fun H hH => by subst hH; exact (⟨by omega, (pr_kc_t x1_ (pr_kc_k jG8 rfl))⟩)), rfl⟩
theorem ct_62_1_4x (G0 : pj_G) (hI : pj_Inv G0) (lv : Int32) (dp : Int32) (rlv : (1 : Int) ≤ lv.toInt ∧ lv.toInt ≤ 1) (rdp : (4 : Int) ≤ dp.toInt ∧ dp.toInt ≤ 4) : pj_Y 21 62 [.ref 27, .ref 2, .int lv, .int dp] G0 (fun v' G' => v' = none ∧ pj_Inv G' ∧ pj_kpt kc_62_1_4x G0 G' ∧ (∀ H, G0 = H → (((¬ (pj_fi H 2 4).toInt = -1 → (pj_fi G' 2 4).toInt = (pj_fi H 2 4).toInt)) ∧ (pr_kc H G'))) ∧ (G' = F_62_1_4x G0 lv dp)) := by
  have c0_ : ((Int16.ofInt 3000).toInt32).toInt = 3000 := by decide
  have c1_ : ((Int8.ofInt 40).toInt32).toInt = 40 := by decide
  have c2_ : (Int32.ofInt (-1)).toInt = -1 := by decide
  have c3_ : (Int32.ofInt 0).toInt = 0 := by decide
  have c4_ : (Int32.ofInt 1).toInt = 1 := by decide
  have c5_ : (Int32.ofInt 2).toInt = 2 := by decide
  refine pj_Y_X (M := pj_m62) rfl rfl (Nat.le_of_ble_eq_true rfl) ?_
  have hK : pj_kpt kc_62_1_4x G0 G0 := pj_kpt_r _ _
  show pj_X _ _ G0 0 [(0, .ref 27), (1, .ref 2), (2, .int lv), (3, .int dp)] [] _
  rw [F_62_1_4x_e]
  obtain ⟨y26, hy26⟩ : ∃ z : Int32, z = pj_fi G0 2 4 := ⟨_, rfl⟩
  have ey26 : (pj_fi G0 2 4).toInt = y26.toInt := by rw [hy26]
  have ry26 : (-1 : Int) ≤ y26.toInt ∧ y26.toInt ≤ 80 := by rw [hy26]; exact hI.2.1 2 4 (-1, 80) rfl
  refine pj_X_of (fun r h => pj_R_to (G0, 2, [(0, .ref 27), (1, .ref 2), (2, .int lv), (3, .int dp)], [.int (Int32.ofInt 2), .int lv], 0, 0) 2 3 (fun _ => rfl) h) ?_
  refine pj_X_of (fun r h => pj_R_icT 12 rfl rfl (pj_b_leT (by omega)) h) ?_
  refine pj_X_of (fun r h => pj_R_to (G0, 17, [(0, .ref 27), (1, .ref 2), (2, .int lv), (3, .int dp)], [.int (lv + (Int32.ofInt 1)), .ref 2, .ref 27], 0, 0) 17 6 (fun _ => rfl) h) ?_
  obtain ⟨z27, hz27⟩ : ∃ z : Int32, z = lv + (Int32.ofInt 1) := ⟨_, rfl⟩
  refine pj_X_eqi hz27.symm ?_
  rw [← hz27, pj_nm_e]
  have fz27_0 : z27.toInt = lv.toInt + (Int32.ofInt 1).toInt := by rw [hz27]; exact pj_addI (by have := pj_i32 lv; have := pj_i32 (Int32.ofInt 1); omega) (by have := pj_i32 lv; have := pj_i32 (Int32.ofInt 1); omega)
  refine pj_X_of (fun r h => pj_R_to (G0, 18, [(0, .ref 27), (1, .ref 2), (2, .int lv), (3, .int dp)], [.int dp, .int z27, .ref 2, .ref 27], 0, 0) 18 2 (fun _ => rfl) h) ?_
  have q28 : (pj_fi G0 2 4).toInt = y26.toInt := by rw [show pj_fi G0 2 4 = y26 from hy26.symm]
  refine pj_X_ca (vs := [.ref 27, .ref 2, .int z27, .int dp]) rfl (fun _ => rfl) ⟨Nat.le_of_ble_eq_true rfl, Nat.le_of_ble_eq_true rfl, pj_T_rcv hI rfl⟩ ⟨rfl, rfl⟩ (pj_Y_up (by decide) (ct_62_2_4x G0 hI z27 dp ⟨by omega, by omega⟩ ⟨by omega, by omega⟩)) ?_
  rintro _ G30 ⟨rfl, iG30, jG30, eG30, fy29⟩
  replace eG30 := eG30 _ rfl
  rw [← fy29, pj_nm_e]
  have kG30 : pj_kpt kc_62_1_4x G0 G30 := pj_kpt_t hK (pj_kpt_s jG30 rfl)
  obtain ⟨y31, hy31⟩ : ∃ z : Int32, z = pj_fi G30 2 4 := ⟨_, rfl⟩
  have ey31 : (pj_fi G30 2 4).toInt = y31.toInt := by rw [hy31]
  have ry31 : (-1 : Int) ≤ y31.toInt ∧ y31.toInt ≤ 80 := by rw [hy31]; exact iG30.2.1 2 4 (-1, 80) rfl
  show pj_X _ _ G30 21 [(0, .ref 27), (1, .ref 2), (2, .int lv), (3, .int dp)] [] _
  refine pj_X_of (fun r h => pj_R_to (G30, 22, [(0, .ref 27), (1, .ref 2), (2, .int lv), (3, .int dp)], [.int lv], 0, 0) 22 2 (fun _ => rfl) h) ?_
  refine pj_X_of (fun r h => pj_R_ifT 29 rfl rfl (pj_b0_neT (by omega)) h) ?_
  refine pj_X_of (fun r h => pj_R_to (G30, 36, [(5, .int (Int32.ofInt 0)), (4, .int ((Int8.ofInt 40).toInt32)), (0, .ref 27), (1, .ref 2), (2, .int lv), (3, .int dp)], [], 0, 0) 36 5 (fun _ => rfl) h) ?_
  have q32 : (pj_fi G30 2 4).toInt = y31.toInt := by rw [show pj_fi G30 2 4 = y31 from hy31.symm]
  exact pj_X_sub [(0, .ref 27), (1, .ref 2), (2, .int lv), (3, .int dp), (4, .int ((Int8.ofInt 40).toInt32)), (5, .int (Int32.ofInt 0))] (show List.Nodup [0, 1, 2, 3, 4, 5] by decide) ⟨rfl, rfl, rfl, rfl, rfl, rfl, trivial⟩ ((lp_ct_62_1_4x G0 hI lv dp rlv rdp 41) G30 iG30 kG30 ((Int8.ofInt 40).toInt32) (Int32.ofInt 0) ⟨by omega, by omega⟩ ⟨by omega, by omega⟩ (by omega) eG30.2 (by omega))
theorem fr_62_1_4x (G0 : pj_G) (hI : pj_Inv G0) (lv : Int32) (dp : Int32) (rlv : (1 : Int) ≤ lv.toInt ∧ lv.toInt ≤ 1) (rdp : (4 : Int) ≤ dp.toInt ∧ dp.toInt ≤ 4) : pj_Inv (F_62_1_4x G0 lv dp) ∧ pj_kpt kc_62_1_4x G0 (F_62_1_4x G0 lv dp) ∧ (((¬ (pj_fi G0 2 4).toInt = -1 → (pj_fi (F_62_1_4x G0 lv dp) 2 4).toInt = (pj_fi G0 2 4).toInt)) ∧ (pr_kc G0 (F_62_1_4x G0 lv dp))) := by
  obtain ⟨v, G', -, -, i, j, x, e⟩ := ct_62_1_4x G0 hI lv dp rlv rdp
  rw [← e]
  exact ⟨i, j, x _ rfl⟩
def kc_62_0_4x : pj_KT := ([(2, 3), (2, 4), (27, 3)], [2, 27, 28, 29], [28, 29])
noncomputable def L_62_0_4x (G0 : pj_G) (lv : Int32) (dp : Int32) (fu : Nat) : Int32 → Int32 → pj_G → pj_G := Nat.rec (motive := fun _ => Int32 → Int32 → pj_G → pj_G) (fun _ _ G => G) (fun _ ih v4 v5 G => cond (pj_c1 .ge v5 v4) (G) (pj_bd (F_84_s5x G) (fun y7 G8 => cond (pj_c1 .ne y7 (Int32.ofInt (-1))) (pj_nm (lv + (Int32.ofInt 1)) (fun z12 => pj_nm (F_62_1_4x G8 z12 dp) (fun G15 => pj_nm (((Int16.ofInt 3000).toInt32) + y7) (fun z17 => pj_nm (F_60x G15 z17) (fun G20 => pj_nm (v5 + Int32.ofInt 1) (fun z23 => ih v4 z23 G20)))))) (G8)))) fu
theorem L_62_0_4x_s0 (G0 : pj_G) (lv : Int32) (dp : Int32) (fu : Nat) (v4 : Int32) (v5 : Int32) (G : pj_G) : L_62_0_4x G0 lv dp (fu + 1) v4 v5 G = cond (pj_c1 .ge v5 v4) (G) (pj_bd (F_84_s5x G) (fun y7 G8 => cond (pj_c1 .ne y7 (Int32.ofInt (-1))) (pj_nm (lv + (Int32.ofInt 1)) (fun z12 => pj_nm (F_62_1_4x G8 z12 dp) (fun G15 => pj_nm (((Int16.ofInt 3000).toInt32) + y7) (fun z17 => pj_nm (F_60x G15 z17) (fun G20 => pj_nm (v5 + Int32.ofInt 1) (fun z23 => L_62_0_4x G0 lv dp fu v4 z23 G20)))))) (G8))) := rfl
noncomputable def F_62_0_4x (G0 : pj_G) (lv : Int32) (dp : Int32) : pj_G := pj_nm (lv + (Int32.ofInt 1)) (fun z27 => pj_nm (F_62_1_4x G0 z27 dp) (fun G30 => L_62_0_4x G0 lv dp 41 (Int32.ofInt 1) (Int32.ofInt 0) G30))
theorem F_62_0_4x_e (G0 : pj_G) (lv : Int32) (dp : Int32) : F_62_0_4x G0 lv dp = pj_nm (lv + (Int32.ofInt 1)) (fun z27 => pj_nm (F_62_1_4x G0 z27 dp) (fun G30 => L_62_0_4x G0 lv dp 41 (Int32.ofInt 1) (Int32.ofInt 0) G30)) := rfl
theorem lp_ct_62_0_4x (G0 : pj_G) (hI0 : pj_Inv G0) (lv : Int32) (dp : Int32) (rlv : (0 : Int) ≤ lv.toInt ∧ lv.toInt ≤ 0) (rdp : (4 : Int) ≤ dp.toInt ∧ dp.toInt ≤ 4) : ∀ mn : Nat, (∀ (G : pj_G) (hI : pj_Inv G) (hK : pj_kpt kc_62_0_4x G0 G) (v4 : Int32) (v5 : Int32), ((1 : Int) ≤ v4.toInt ∧ v4.toInt ≤ 40) → ((0 : Int) ≤ v5.toInt ∧ v5.toInt ≤ 40) → (¬ (pj_fi G0 2 4).toInt = -1 → (pj_fi G 2 4).toInt = (pj_fi G0 2 4).toInt) → (pr_kc G0 G) → 40 - v5.toInt < (mn : Int) → pj_X 21 pj_m62 G 36 [(0, .ref 27), (1, .ref 2), (2, .int lv), (3, .int dp), (4, .int v4), (5, .int v5)] [] (fun v' G' => v' = none ∧ pj_Inv G' ∧ pj_kpt kc_62_0_4x G0 G' ∧ (∀ H, G0 = H → (((¬ (pj_fi H 2 4).toInt = -1 → (pj_fi G' 2 4).toInt = (pj_fi H 2 4).toInt)) ∧ (pr_kc H G'))) ∧ (G' = L_62_0_4x G0 lv dp mn v4 v5 G))) := by
  have c0_ : ((Int16.ofInt 3000).toInt32).toInt = 3000 := by decide
  have c1_ : (Int32.ofInt (-1)).toInt = -1 := by decide
  have c2_ : (Int32.ofInt 0).toInt = 0 := by decide
  have c3_ : (Int32.ofInt 1).toInt = 1 := by decide
  have c4_ : (Int32.ofInt 2).toInt = 2 := by decide
  intro mn
  induction mn with
  | zero =>
    intro G hI hK v4 v5 rv4 rv5 x0_ x1_ hm
    exfalso
    omega
  | succ mn ih =>
    intro G hI hK v4 v5 rv4 rv5 x0_ x1_ hm
    rw [L_62_0_4x_s0]
    obtain ⟨y1, hy1⟩ : ∃ z : Int32, z = pj_fi G 2 4 := ⟨_, rfl⟩
    have ey1 : (pj_fi G 2 4).toInt = y1.toInt := by rw [hy1]
    have ry1 : (-1 : Int) ≤ y1.toInt ∧ y1.toInt ≤ 80 := by rw [hy1]; exact hI.2.1 2 4 (-1, 80) rfl
    refine pj_X_of (fun r h => pj_R_to (G, 40, [(0, .ref 27), (1, .ref 2), (2, .int lv), (3, .int dp), (4, .int v4), (5, .int v5)], [.int v4, .int v5], 0, 0) 40 3 (fun _ => rfl) h) ?_
    cases b2 : pj_c1 .ge v5 v4 with
    | true =>
      rw [pj_cT]
      have ub2 := pj_u_geT b2
      refine pj_X_of (fun r h => pj_R_icT 85 rfl rfl b2 h) ?_
      have q3 : (pj_fi G 2 4).toInt = y1.toInt := by rw [show pj_fi G 2 4 = y1 from hy1.symm]
      exact pj_X_rt rfl rfl ⟨rfl, hI, hK, (fun H hH => by subst hH; exact (⟨by omega, x1_⟩)), rfl⟩
    | false =>
      rw [pj_cF]
      have ub2 := pj_u_geF b2
      refine pj_X_of (fun r h => pj_R_icF rfl b2 h) ?_
      refine pj_X_of (fun r h => pj_R_to (G, 45, [(0, .ref 27), (1, .ref 2), (2, .int lv), (3, .int dp), (4, .int v4), (5, .int v5)], [.int lv, .ref 2], 0, 0) 45 3 (fun _ => rfl) h) ?_
      have q4 : (pj_fi G 2 4).toInt = y1.toInt := by rw [show pj_fi G 2 4 = y1 from hy1.symm]
      refine pj_X_ca (vs := [.int lv]) rfl (fun _ => rfl) ⟨Nat.le_of_ble_eq_true rfl, Nat.le_of_ble_eq_true rfl, rfl⟩ ⟨rfl, rfl⟩ (pj_Y_up (by decide) (ct_61_0 G hI lv ⟨by omega, by omega⟩)) ?_
      rintro _ _ ⟨rfl, rfl⟩
      show pj_X _ _ G 48 [(0, .ref 27), (1, .ref 2), (2, .int lv), (3, .int dp), (4, .int v4), (5, .int v5)] [.retAddr 5, .ref 2] _
      have q6 : (pj_fi G 2 4).toInt = y1.toInt := by rw [show pj_fi G 2 4 = y1 from hy1.symm]
      refine pj_X_ca (vs := [.ref 2, .retAddr 5]) rfl (fun _ => rfl) ⟨Nat.le_of_ble_eq_true rfl, Nat.le_of_ble_eq_true rfl, pj_T_rcv hI rfl⟩ ⟨rfl, rfl⟩ (pj_Y_up (by decide) (ct_84_s5x G hI)) ?_
      rintro _ G8 ⟨y7, rfl, iG8, jG8, ry7, ey7, fy7⟩
      replace ey7 := ey7 _ rfl
      rw [← fy7, pj_bd_e]
      have kG8 : pj_kpt kc_62_0_4x G0 G8 := pj_kpt_t hK (pj_kpt_s jG8 rfl)
      have q9 : (pj_fi G8 2 4).toInt = (pj_fi G 2 4).toInt := by rw [jG8.1 (2, 4) (by decide)]
      obtain ⟨y10, hy10⟩ : ∃ z : Int32, z = pj_fi G8 2 4 := ⟨_, rfl⟩
      have ey10 : (pj_fi G8 2 4).toInt = y10.toInt := by rw [hy10]
      have ry10 : (-1 : Int) ≤ y10.toInt ∧ y10.toInt ≤ 80 := by rw [hy10]; exact iG8.2.1 2 4 (-1, 80) rfl
      show pj_X _ _ G8 51 [(0, .ref 27), (1, .ref 2), (2, .int lv), (3, .int dp), (4, .int v4), (5, .int v5)] [.int y7] _
      refine pj_X_of (fun r h => pj_R_to (G8, 56, [(6, .int y7), (0, .ref 27), (1, .ref 2), (2, .int lv), (3, .int dp), (4, .int v4), (5, .int v5)], [.int (Int32.ofInt (-1)), .int y7], 0, 0) 56 4 (fun _ => rfl) h) ?_
      cases b11 : pj_c1 .ne y7 (Int32.ofInt (-1)) with
      | true =>
        rw [pj_cT]
        have ub11 := pj_u_neT b11
        refine pj_X_of (fun r h => pj_R_icT 60 rfl rfl b11 h) ?_
        refine pj_X_of (fun r h => pj_R_to (G8, 65, [(6, .int y7), (0, .ref 27), (1, .ref 2), (2, .int lv), (3, .int dp), (4, .int v4), (5, .int v5)], [.int (lv + (Int32.ofInt 1)), .ref 2, .ref 27], 0, 0) 65 6 (fun _ => rfl) h) ?_
        obtain ⟨z12, hz12⟩ : ∃ z : Int32, z = lv + (Int32.ofInt 1) := ⟨_, rfl⟩
        refine pj_X_eqi hz12.symm ?_
        rw [← hz12, pj_nm_e]
        have fz12_0 : z12.toInt = lv.toInt + (Int32.ofInt 1).toInt := by rw [hz12]; exact pj_addI (by have := pj_i32 lv; have := pj_i32 (Int32.ofInt 1); omega) (by have := pj_i32 lv; have := pj_i32 (Int32.ofInt 1); omega)
        refine pj_X_of (fun r h => pj_R_to (G8, 66, [(6, .int y7), (0, .ref 27), (1, .ref 2), (2, .int lv), (3, .int dp), (4, .int v4), (5, .int v5)], [.int dp, .int z12, .ref 2, .ref 27], 0, 0) 66 2 (fun _ => rfl) h) ?_
        have q13 : (pj_fi G8 2 4).toInt = y10.toInt := by rw [show pj_fi G8 2 4 = y10 from hy10.symm]
        refine pj_X_ca (vs := [.ref 27, .ref 2, .int z12, .int dp]) rfl (fun _ => rfl) ⟨Nat.le_of_ble_eq_true rfl, Nat.le_of_ble_eq_true rfl, pj_T_rcv iG8 rfl⟩ ⟨rfl, rfl⟩ (pj_Y_up (by decide) (ct_62_1_4x G8 iG8 z12 dp ⟨by omega, by omega⟩ ⟨by omega, by omega⟩)) ?_
        rintro _ G15 ⟨rfl, iG15, jG15, eG15, fy14⟩
        replace eG15 := eG15 _ rfl
        rw [← fy14, pj_nm_e]
        have kG15 : pj_kpt kc_62_0_4x G0 G15 := pj_kpt_t kG8 (pj_kpt_s jG15 rfl)
        obtain ⟨y16, hy16⟩ : ∃ z : Int32, z = pj_fi G15 2 4 := ⟨_, rfl⟩
        have ey16 : (pj_fi G15 2 4).toInt = y16.toInt := by rw [hy16]
        have ry16 : (-1 : Int) ≤ y16.toInt ∧ y16.toInt ≤ 80 := by rw [hy16]; exact iG15.2.1 2 4 (-1, 80) rfl
        show pj_X _ _ G15 69 [(6, .int y7), (0, .ref 27), (1, .ref 2), (2, .int lv), (3, .int dp), (4, .int v4), (5, .int v5)] [] _
        refine pj_X_of (fun r h => pj_R_to (G15, 76, [(6, .int y7), (0, .ref 27), (1, .ref 2), (2, .int lv), (3, .int dp), (4, .int v4), (5, .int v5)], [.int (((Int16.ofInt 3000).toInt32) + y7), .ref 27], 0, 0) 76 5 (fun _ => rfl) h) ?_
        obtain ⟨z17, hz17⟩ : ∃ z : Int32, z = ((Int16.ofInt 3000).toInt32) + y7 := ⟨_, rfl⟩
        refine pj_X_eqi hz17.symm ?_
        rw [← hz17, pj_nm_e]
        have fz17_0 : z17.toInt = ((Int16.ofInt 3000).toInt32).toInt + y7.toInt := by rw [hz17]; exact pj_addI (by have := pj_i32 ((Int16.ofInt 3000).toInt32); have := pj_i32 y7; omega) (by have := pj_i32 ((Int16.ofInt 3000).toInt32); have := pj_i32 y7; omega)
        have q18 : (pj_fi G15 2 4).toInt = y16.toInt := by rw [show pj_fi G15 2 4 = y16 from hy16.symm]
        refine pj_X_ca (vs := [.ref 27, .int z17]) rfl (fun _ => rfl) ⟨Nat.le_of_ble_eq_true rfl, Nat.le_of_ble_eq_true rfl, pj_T_rcv iG15 rfl⟩ ⟨rfl, rfl⟩ (pj_Y_up (by decide) (ct_60x G15 iG15 z17 (by omega))) ?_
        rintro _ G20 ⟨rfl, iG20, jG20, eG20, fy19⟩
        replace eG20 := eG20 _ rfl
        rw [← fy19, pj_nm_e]
        have kG20 : pj_kpt kc_62_0_4x G0 G20 := pj_kpt_t kG15 (pj_kpt_s jG20 rfl)
        have q21 : (pj_fi G20 2 4).toInt = (pj_fi G15 2 4).toInt := by rw [jG20.1 (2, 4) (by decide)]
        obtain ⟨y22, hy22⟩ : ∃ z : Int32, z = pj_fi G20 2 4 := ⟨_, rfl⟩
        have ey22 : (pj_fi G20 2 4).toInt = y22.toInt := by rw [hy22]
        have ry22 : (-1 : Int) ≤ y22.toInt ∧ y22.toInt ≤ 80 := by rw [hy22]; exact iG20.2.1 2 4 (-1, 80) rfl
        show pj_X _ _ G20 79 [(6, .int y7), (0, .ref 27), (1, .ref 2), (2, .int lv), (3, .int dp), (4, .int v4), (5, .int v5)] [] _
        refine pj_X_of (fun r h => pj_R_to (G20, 82, [(5, .int (v5 + Int32.ofInt 1)), (6, .int y7), (0, .ref 27), (1, .ref 2), (2, .int lv), (3, .int dp), (4, .int v4)], [], 0, 0) 82 2 (fun _ => rfl) h) ?_
        obtain ⟨z23, hz23⟩ : ∃ z : Int32, z = v5 + Int32.ofInt 1 := ⟨_, rfl⟩
        rw [← hz23]
        rw [pj_nm_e]
        have fz23_0 : z23.toInt = v5.toInt + (Int32.ofInt 1).toInt := by rw [hz23]; exact pj_addI (by have := pj_i32 v5; have := pj_i32 (Int32.ofInt 1); omega) (by have := pj_i32 v5; have := pj_i32 (Int32.ofInt 1); omega)
        refine pj_X_of (fun r h => pj_R_to (G20, 36, [(5, .int z23), (6, .int y7), (0, .ref 27), (1, .ref 2), (2, .int lv), (3, .int dp), (4, .int v4)], [], 0, 0) 36 2 (fun _ => rfl) h) ?_
        have q24 : (pj_fi G20 2 4).toInt = y22.toInt := by rw [show pj_fi G20 2 4 = y22 from hy22.symm]
        exact pj_X_sub [(0, .ref 27), (1, .ref 2), (2, .int lv), (3, .int dp), (4, .int v4), (5, .int z23)] (show List.Nodup [0, 1, 2, 3, 4, 5] by decide) ⟨rfl, rfl, rfl, rfl, rfl, rfl, trivial⟩ (ih G20 iG20 kG20 v4 z23 ⟨by omega, by omega⟩ ⟨by omega, by omega⟩ (by omega) (pr_kc_t (pr_kc_t (pr_kc_t x1_ (pr_kc_k jG8 rfl)) eG15.2) eG20) (by omega))
      | false =>
        rw [pj_cF]
        have ub11 := pj_u_neF b11
        refine pj_X_of (fun r h => pj_R_icF rfl b11 h) ?_
        have q25 : (pj_fi G8 2 4).toInt = y10.toInt := by rw [show pj_fi G8 2 4 = y10 from hy10.symm]
        exact pj_X_rt rfl rfl ⟨rfl, iG8, kG8, (fun H hH => by subst hH; exact (⟨by omega, (pr_kc_t x1_ (pr_kc_k jG8 rfl))⟩)), rfl⟩
theorem ct_62_0_4x (G0 : pj_G) (hI : pj_Inv G0) (lv : Int32) (dp : Int32) (rlv : (0 : Int) ≤ lv.toInt ∧ lv.toInt ≤ 0) (rdp : (4 : Int) ≤ dp.toInt ∧ dp.toInt ≤ 4) : pj_Y 22 62 [.ref 27, .ref 2, .int lv, .int dp] G0 (fun v' G' => v' = none ∧ pj_Inv G' ∧ pj_kpt kc_62_0_4x G0 G' ∧ (∀ H, G0 = H → (((¬ (pj_fi H 2 4).toInt = -1 → (pj_fi G' 2 4).toInt = (pj_fi H 2 4).toInt)) ∧ (pr_kc H G'))) ∧ (G' = F_62_0_4x G0 lv dp)) := by
  have c0_ : ((Int16.ofInt 3000).toInt32).toInt = 3000 := by decide
  have c1_ : (Int32.ofInt (-1)).toInt = -1 := by decide
  have c2_ : (Int32.ofInt 0).toInt = 0 := by decide
  have c3_ : (Int32.ofInt 1).toInt = 1 := by decide
  have c4_ : (Int32.ofInt 2).toInt = 2 := by decide
  refine pj_Y_X (M := pj_m62) rfl rfl (Nat.le_of_ble_eq_true rfl) ?_
  have hK : pj_kpt kc_62_0_4x G0 G0 := pj_kpt_r _ _
  show pj_X _ _ G0 0 [(0, .ref 27), (1, .ref 2), (2, .int lv), (3, .int dp)] [] _
  rw [F_62_0_4x_e]
  obtain ⟨y26, hy26⟩ : ∃ z : Int32, z = pj_fi G0 2 4 := ⟨_, rfl⟩
  have ey26 : (pj_fi G0 2 4).toInt = y26.toInt := by rw [hy26]
  have ry26 : (-1 : Int) ≤ y26.toInt ∧ y26.toInt ≤ 80 := by rw [hy26]; exact hI.2.1 2 4 (-1, 80) rfl
  refine pj_X_of (fun r h => pj_R_to (G0, 2, [(0, .ref 27), (1, .ref 2), (2, .int lv), (3, .int dp)], [.int (Int32.ofInt 2), .int lv], 0, 0) 2 3 (fun _ => rfl) h) ?_
  refine pj_X_of (fun r h => pj_R_icT 12 rfl rfl (pj_b_leT (by omega)) h) ?_
  refine pj_X_of (fun r h => pj_R_to (G0, 17, [(0, .ref 27), (1, .ref 2), (2, .int lv), (3, .int dp)], [.int (lv + (Int32.ofInt 1)), .ref 2, .ref 27], 0, 0) 17 6 (fun _ => rfl) h) ?_
  obtain ⟨z27, hz27⟩ : ∃ z : Int32, z = lv + (Int32.ofInt 1) := ⟨_, rfl⟩
  refine pj_X_eqi hz27.symm ?_
  rw [← hz27, pj_nm_e]
  have fz27_0 : z27.toInt = lv.toInt + (Int32.ofInt 1).toInt := by rw [hz27]; exact pj_addI (by have := pj_i32 lv; have := pj_i32 (Int32.ofInt 1); omega) (by have := pj_i32 lv; have := pj_i32 (Int32.ofInt 1); omega)
  refine pj_X_of (fun r h => pj_R_to (G0, 18, [(0, .ref 27), (1, .ref 2), (2, .int lv), (3, .int dp)], [.int dp, .int z27, .ref 2, .ref 27], 0, 0) 18 2 (fun _ => rfl) h) ?_
  have q28 : (pj_fi G0 2 4).toInt = y26.toInt := by rw [show pj_fi G0 2 4 = y26 from hy26.symm]
  refine pj_X_ca (vs := [.ref 27, .ref 2, .int z27, .int dp]) rfl (fun _ => rfl) ⟨Nat.le_of_ble_eq_true rfl, Nat.le_of_ble_eq_true rfl, pj_T_rcv hI rfl⟩ ⟨rfl, rfl⟩ (pj_Y_up (by decide) (ct_62_1_4x G0 hI z27 dp ⟨by omega, by omega⟩ ⟨by omega, by omega⟩)) ?_
  rintro _ G30 ⟨rfl, iG30, jG30, eG30, fy29⟩
  replace eG30 := eG30 _ rfl
  rw [← fy29, pj_nm_e]
  have kG30 : pj_kpt kc_62_0_4x G0 G30 := pj_kpt_t hK (pj_kpt_s jG30 rfl)
  obtain ⟨y31, hy31⟩ : ∃ z : Int32, z = pj_fi G30 2 4 := ⟨_, rfl⟩
  have ey31 : (pj_fi G30 2 4).toInt = y31.toInt := by rw [hy31]
  have ry31 : (-1 : Int) ≤ y31.toInt ∧ y31.toInt ≤ 80 := by rw [hy31]; exact iG30.2.1 2 4 (-1, 80) rfl
  show pj_X _ _ G30 21 [(0, .ref 27), (1, .ref 2), (2, .int lv), (3, .int dp)] [] _
  refine pj_X_of (fun r h => pj_R_to (G30, 22, [(0, .ref 27), (1, .ref 2), (2, .int lv), (3, .int dp)], [.int lv], 0, 0) 22 2 (fun _ => rfl) h) ?_
  refine pj_X_of (fun r h => pj_R_ifF rfl (pj_b0_neF (by omega)) h) ?_
  refine pj_X_of (fun r h => pj_R_to (G30, 36, [(5, .int (Int32.ofInt 0)), (4, .int (Int32.ofInt 1)), (0, .ref 27), (1, .ref 2), (2, .int lv), (3, .int dp)], [], 0, 0) 36 6 (fun _ => rfl) h) ?_
  have q32 : (pj_fi G30 2 4).toInt = y31.toInt := by rw [show pj_fi G30 2 4 = y31 from hy31.symm]
  exact pj_X_sub [(0, .ref 27), (1, .ref 2), (2, .int lv), (3, .int dp), (4, .int (Int32.ofInt 1)), (5, .int (Int32.ofInt 0))] (show List.Nodup [0, 1, 2, 3, 4, 5] by decide) ⟨rfl, rfl, rfl, rfl, rfl, rfl, trivial⟩ ((lp_ct_62_0_4x G0 hI lv dp rlv rdp 41) G30 iG30 kG30 (Int32.ofInt 1) (Int32.ofInt 0) ⟨by omega, by omega⟩ ⟨by omega, by omega⟩ (by omega) eG30.2 (by omega))
theorem fr_62_0_4x (G0 : pj_G) (hI : pj_Inv G0) (lv : Int32) (dp : Int32) (rlv : (0 : Int) ≤ lv.toInt ∧ lv.toInt ≤ 0) (rdp : (4 : Int) ≤ dp.toInt ∧ dp.toInt ≤ 4) : pj_Inv (F_62_0_4x G0 lv dp) ∧ pj_kpt kc_62_0_4x G0 (F_62_0_4x G0 lv dp) ∧ (((¬ (pj_fi G0 2 4).toInt = -1 → (pj_fi (F_62_0_4x G0 lv dp) 2 4).toInt = (pj_fi G0 2 4).toInt)) ∧ (pr_kc G0 (F_62_0_4x G0 lv dp))) := by
  obtain ⟨v, G', -, -, i, j, x, e⟩ := ct_62_0_4x G0 hI lv dp rlv rdp
  rw [← e]
  exact ⟨i, j, x _ rfl⟩
def kc_64_3x : pj_KT := ([(2, 3), (2, 4), (27, 3)], [2, 27, 28, 29], [28, 29])
noncomputable def F_64_3x (G0 : pj_G) (dp : Int32) : pj_G := pj_nm (F_85x G0) (fun y3 => cond (pj_c1 .eq y3 0) (pj_bd (F_82x G0 ((Int8.ofInt 40).toInt32)) (fun y6 G7 => cond (pj_c1 .eq y6 0) (pj_bd (F_84_s8x G7) (fun y12 G13 => cond (pj_c1 .ne y12 (Int32.ofInt (-1))) (pj_nm ((y12.toUInt32 % 65536).toInt32) (fun z17 => pj_nm (F_291_s8x G13 z17) (fun y19 => pj_nm (((Int16.ofInt 1000).toInt32) + y19) (fun z20 => pj_nm (F_60x G13 z20) (fun G23 => G23))))) (pj_nm (F_81x G13) (fun G29 => G29)))) (pj_nm (dp + (Int32.ofInt 1)) (fun z32 => pj_nm (F_62_0_4x G7 (Int32.ofInt 0) z32) (fun G35 => pj_bd (F_83x G35 ((Int8.ofInt 41).toInt32) ((Int8.ofInt 41).toInt32)) (fun y38 G39 => G39)))))) (pj_bd (F_86x G0 (Int32.ofInt 3)) (fun y43 G44 => pj_nm (F_60x G44 y43) (fun G48 => G48))))
theorem F_64_3x_e (G0 : pj_G) (dp : Int32) : F_64_3x G0 dp = pj_nm (F_85x G0) (fun y3 => cond (pj_c1 .eq y3 0) (pj_bd (F_82x G0 ((Int8.ofInt 40).toInt32)) (fun y6 G7 => cond (pj_c1 .eq y6 0) (pj_bd (F_84_s8x G7) (fun y12 G13 => cond (pj_c1 .ne y12 (Int32.ofInt (-1))) (pj_nm ((y12.toUInt32 % 65536).toInt32) (fun z17 => pj_nm (F_291_s8x G13 z17) (fun y19 => pj_nm (((Int16.ofInt 1000).toInt32) + y19) (fun z20 => pj_nm (F_60x G13 z20) (fun G23 => G23))))) (pj_nm (F_81x G13) (fun G29 => G29)))) (pj_nm (dp + (Int32.ofInt 1)) (fun z32 => pj_nm (F_62_0_4x G7 (Int32.ofInt 0) z32) (fun G35 => pj_bd (F_83x G35 ((Int8.ofInt 41).toInt32) ((Int8.ofInt 41).toInt32)) (fun y38 G39 => G39)))))) (pj_bd (F_86x G0 (Int32.ofInt 3)) (fun y43 G44 => pj_nm (F_60x G44 y43) (fun G48 => G48)))) := rfl
theorem ct_64_3x (G0 : pj_G) (hI : pj_Inv G0) (dp : Int32) (rdp : (3 : Int) ≤ dp.toInt ∧ dp.toInt ≤ 3) : pj_Y 23 64 [.ref 27, .ref 2, .int dp] G0 (fun v' G' => v' = none ∧ pj_Inv G' ∧ pj_kpt kc_64_3x G0 G' ∧ (∀ H, G0 = H → (((¬ (pj_fi H 2 4).toInt = -1 → (pj_fi G' 2 4).toInt = (pj_fi H 2 4).toInt)) ∧ (pr_kc H G'))) ∧ (G' = F_64_3x G0 dp)) := by
  have c0_ : ((Int16.ofInt 1000).toInt32).toInt = 1000 := by decide
  have c1_ : ((Int8.ofInt 40).toInt32).toInt = 40 := by decide
  have c2_ : ((Int8.ofInt 41).toInt32).toInt = 41 := by decide
  have c3_ : (Int32.ofInt (-1)).toInt = -1 := by decide
  have c4_ : (Int32.ofInt 0).toInt = 0 := by decide
  have c5_ : (Int32.ofInt 1).toInt = 1 := by decide
  have c6_ : (Int32.ofInt 3).toInt = 3 := by decide
  have c7_ : (Int32.ofInt 4).toInt = 4 := by decide
  refine pj_Y_X (M := pj_m64) rfl rfl (Nat.le_of_ble_eq_true rfl) ?_
  have hK : pj_kpt kc_64_3x G0 G0 := pj_kpt_r _ _
  show pj_X _ _ G0 0 [(0, .ref 27), (1, .ref 2), (2, .int dp)] [] _
  rw [F_64_3x_e]
  obtain ⟨y1, hy1⟩ : ∃ z : Int32, z = pj_fi G0 2 4 := ⟨_, rfl⟩
  have ey1 : (pj_fi G0 2 4).toInt = y1.toInt := by rw [hy1]
  have ry1 : (-1 : Int) ≤ y1.toInt ∧ y1.toInt ≤ 80 := by rw [hy1]; exact hI.2.1 2 4 (-1, 80) rfl
  refine pj_X_of (fun r h => pj_R_to (G0, 1, [(0, .ref 27), (1, .ref 2), (2, .int dp)], [.ref 2], 0, 0) 1 2 (fun _ => rfl) h) ?_
  have q2 : (pj_fi G0 2 4).toInt = y1.toInt := by rw [show pj_fi G0 2 4 = y1 from hy1.symm]
  refine pj_X_ca (vs := [.ref 2]) rfl (fun _ => rfl) ⟨Nat.le_of_ble_eq_true rfl, Nat.le_of_ble_eq_true rfl, pj_T_rcv hI rfl⟩ ⟨rfl, rfl⟩ (pj_Y_up (by decide) (ct_85x G0 hI)) ?_
  rintro _ _ ⟨y3, rfl, rfl, ry3, ey3, fy3⟩
  replace ey3 := ey3 _ rfl
  rw [← fy3, pj_nm_e]
  show pj_X _ _ G0 4 [(0, .ref 27), (1, .ref 2), (2, .int dp)] [.int y3] _
  cases b4 : pj_c1 .eq y3 0 with
  | true =>
    rw [pj_cT]
    have ub4 := pj_u0_eqT b4
    refine pj_X_of (fun r h => pj_R_ifT 19 rfl rfl b4 h) ?_
    refine pj_X_of (fun r h => pj_R_to (G0, 21, [(0, .ref 27), (1, .ref 2), (2, .int dp)], [.int (Int32.ofInt 4), .int dp], 0, 0) 21 3 (fun _ => rfl) h) ?_
    refine pj_X_of (fun r h => pj_R_icF rfl (pj_b_geF (by omega)) h) ?_
    refine pj_X_of (fun r h => pj_R_to (G0, 27, [(0, .ref 27), (1, .ref 2), (2, .int dp)], [.int ((Int8.ofInt 40).toInt32), .ref 2], 0, 0) 27 3 (fun _ => rfl) h) ?_
    have q5 : (pj_fi G0 2 4).toInt = y1.toInt := by rw [show pj_fi G0 2 4 = y1 from hy1.symm]
    refine pj_X_ca (vs := [.ref 2, .int ((Int8.ofInt 40).toInt32)]) rfl (fun _ => rfl) ⟨Nat.le_of_ble_eq_true rfl, Nat.le_of_ble_eq_true rfl, pj_T_rcv hI rfl⟩ ⟨rfl, rfl⟩ (pj_Y_up (by decide) (ct_82x G0 hI ((Int8.ofInt 40).toInt32) ⟨by omega, by omega⟩)) ?_
    rintro _ G7 ⟨y6, rfl, iG7, jG7, ry6, ey6, fy6⟩
    replace ey6 := ey6 _ rfl
    rw [← fy6, pj_bd_e]
    have kG7 : pj_kpt kc_64_3x G0 G7 := pj_kpt_t hK (pj_kpt_s jG7 rfl)
    have q8 : (pj_fi G7 2 4).toInt = (pj_fi G0 2 4).toInt := by rw [jG7.1 (2, 4) (by decide)]
    obtain ⟨y9, hy9⟩ : ∃ z : Int32, z = pj_fi G7 2 4 := ⟨_, rfl⟩
    have ey9 : (pj_fi G7 2 4).toInt = y9.toInt := by rw [hy9]
    have ry9 : (-1 : Int) ≤ y9.toInt ∧ y9.toInt ≤ 80 := by rw [hy9]; exact iG7.2.1 2 4 (-1, 80) rfl
    show pj_X _ _ G7 30 [(0, .ref 27), (1, .ref 2), (2, .int dp)] [.int y6] _
    cases b10 : pj_c1 .eq y6 0 with
    | true =>
      rw [pj_cT]
      have ub10 := pj_u0_eqT b10
      refine pj_X_of (fun r h => pj_R_ifT 54 rfl rfl b10 h) ?_
      refine pj_X_of (fun r h => pj_R_to (G7, 57, [(0, .ref 27), (1, .ref 2), (2, .int dp)], [.retAddr 8, .ref 2], 0, 0) 57 3 (fun _ => rfl) h) ?_
      have q11 : (pj_fi G7 2 4).toInt = y9.toInt := by rw [show pj_fi G7 2 4 = y9 from hy9.symm]
      refine pj_X_ca (vs := [.ref 2, .retAddr 8]) rfl (fun _ => rfl) ⟨Nat.le_of_ble_eq_true rfl, Nat.le_of_ble_eq_true rfl, pj_T_rcv iG7 rfl⟩ ⟨rfl, rfl⟩ (pj_Y_up (by decide) (ct_84_s8x G7 iG7)) ?_
      rintro _ G13 ⟨y12, rfl, iG13, jG13, ry12, ey12, fy12⟩
      replace ey12 := ey12 _ rfl
      rw [← fy12, pj_bd_e]
      have kG13 : pj_kpt kc_64_3x G0 G13 := pj_kpt_t kG7 (pj_kpt_s jG13 rfl)
      have q14 : (pj_fi G13 2 4).toInt = (pj_fi G7 2 4).toInt := by rw [jG13.1 (2, 4) (by decide)]
      obtain ⟨y15, hy15⟩ : ∃ z : Int32, z = pj_fi G13 2 4 := ⟨_, rfl⟩
      have ey15 : (pj_fi G13 2 4).toInt = y15.toInt := by rw [hy15]
      have ry15 : (-1 : Int) ≤ y15.toInt ∧ y15.toInt ≤ 80 := by rw [hy15]; exact iG13.2.1 2 4 (-1, 80) rfl
      show pj_X _ _ G13 60 [(0, .ref 27), (1, .ref 2), (2, .int dp)] [.int y12] _
      refine pj_X_of (fun r h => pj_R_to (G13, 63, [(3, .int y12), (0, .ref 27), (1, .ref 2), (2, .int dp)], [.int (Int32.ofInt (-1)), .int y12], 0, 0) 63 4 (fun _ => rfl) h) ?_
      cases b16 : pj_c1 .ne y12 (Int32.ofInt (-1)) with
      | true =>
        rw [pj_cT]
        have ub16 := pj_u_neT b16
        refine pj_X_of (fun r h => pj_R_icT 73 rfl rfl b16 h) ?_
        refine pj_X_of (fun r h => pj_R_to (G13, 81, [(3, .int y12), (0, .ref 27), (1, .ref 2), (2, .int dp)], [.int ((y12.toUInt32 % 65536).toInt32), .retAddr 8, .int ((Int16.ofInt 1000).toInt32), .ref 27], 0, 0) 81 6 (fun _ => rfl) h) ?_
        obtain ⟨z17, hz17⟩ : ∃ z : Int32, z = (y12.toUInt32 % 65536).toInt32 := ⟨_, rfl⟩
        refine pj_X_eqi hz17.symm ?_
        rw [← hz17, pj_nm_e]
        have fz17_0 : z17.toInt = y12.toInt := by rw [hz17]; exact pj_i2cI (by omega) (by omega)
        have q18 : (pj_fi G13 2 4).toInt = y15.toInt := by rw [show pj_fi G13 2 4 = y15 from hy15.symm]
        refine pj_X_ca (vs := [.retAddr 8, .int z17]) rfl (fun _ => rfl) ⟨Nat.le_of_ble_eq_true rfl, Nat.le_of_ble_eq_true rfl, rfl⟩ ⟨rfl, rfl⟩ (pj_Y_up (by decide) (ct_290_s8x G13 iG13 z17 ⟨by omega, by omega⟩)) ?_
        rintro _ _ ⟨y19, rfl, rfl, ry19, fy19⟩
        rw [← fy19, pj_nm_e]
        show pj_X _ _ G13 84 [(3, .int y12), (0, .ref 27), (1, .ref 2), (2, .int dp)] [.int y19, .int ((Int16.ofInt 1000).toInt32), .ref 27] _
        refine pj_X_of (fun r h => pj_R_to (G13, 85, [(3, .int y12), (0, .ref 27), (1, .ref 2), (2, .int dp)], [.int (((Int16.ofInt 1000).toInt32) + y19), .ref 27], 0, 0) 85 2 (fun _ => rfl) h) ?_
        obtain ⟨z20, hz20⟩ : ∃ z : Int32, z = ((Int16.ofInt 1000).toInt32) + y19 := ⟨_, rfl⟩
        refine pj_X_eqi hz20.symm ?_
        rw [← hz20, pj_nm_e]
        have fz20_0 : z20.toInt = ((Int16.ofInt 1000).toInt32).toInt + y19.toInt := by rw [hz20]; exact pj_addI (by have := pj_i32 ((Int16.ofInt 1000).toInt32); have := pj_i32 y19; omega) (by have := pj_i32 ((Int16.ofInt 1000).toInt32); have := pj_i32 y19; omega)
        have q21 : (pj_fi G13 2 4).toInt = y15.toInt := by rw [show pj_fi G13 2 4 = y15 from hy15.symm]
        refine pj_X_ca (vs := [.ref 27, .int z20]) rfl (fun _ => rfl) ⟨Nat.le_of_ble_eq_true rfl, Nat.le_of_ble_eq_true rfl, pj_T_rcv iG13 rfl⟩ ⟨rfl, rfl⟩ (pj_Y_up (by decide) (ct_60x G13 iG13 z20 (by omega))) ?_
        rintro _ G23 ⟨rfl, iG23, jG23, eG23, fy22⟩
        replace eG23 := eG23 _ rfl
        rw [← fy22, pj_nm_e]
        have kG23 : pj_kpt kc_64_3x G0 G23 := pj_kpt_t kG13 (pj_kpt_s jG23 rfl)
        have q24 : (pj_fi G23 2 4).toInt = (pj_fi G13 2 4).toInt := by rw [jG23.1 (2, 4) (by decide)]
        obtain ⟨y25, hy25⟩ : ∃ z : Int32, z = pj_fi G23 2 4 := ⟨_, rfl⟩
        have ey25 : (pj_fi G23 2 4).toInt = y25.toInt := by rw [hy25]
        have ry25 : (-1 : Int) ≤ y25.toInt ∧ y25.toInt ≤ 80 := by rw [hy25]; exact iG23.2.1 2 4 (-1, 80) rfl
        show pj_X _ _ G23 88 [(3, .int y12), (0, .ref 27), (1, .ref 2), (2, .int dp)] [] _
        have q26 : (pj_fi G23 2 4).toInt = y25.toInt := by rw [show pj_fi G23 2 4 = y25 from hy25.symm]
        exact pj_X_rt rfl rfl ⟨rfl, iG23, kG23, (fun H hH => by subst hH; exact (⟨by omega, (pr_kc_t (pr_kc_t (pr_kc_k jG7 rfl) (pr_kc_k jG13 rfl)) eG23)⟩)), rfl⟩
      | false =>
        rw [pj_cF]
        have ub16 := pj_u_neF b16
        refine pj_X_of (fun r h => pj_R_icF rfl b16 h) ?_
        refine pj_X_of (fun r h => pj_R_to (G13, 67, [(3, .int y12), (0, .ref 27), (1, .ref 2), (2, .int dp)], [.ref 2], 0, 0) 67 2 (fun _ => rfl) h) ?_
        have q27 : (pj_fi G13 2 4).toInt = y15.toInt := by rw [show pj_fi G13 2 4 = y15 from hy15.symm]
        refine pj_X_ca (vs := [.ref 2]) rfl (fun _ => rfl) ⟨Nat.le_of_ble_eq_true rfl, Nat.le_of_ble_eq_true rfl, pj_T_rcv iG13 rfl⟩ ⟨rfl, rfl⟩ (pj_Y_up (by decide) (ct_81x G13 iG13)) ?_
        rintro _ G29 ⟨rfl, iG29, jG29, eG29, fy28⟩
        replace eG29 := eG29 _ rfl
        rw [← fy28, pj_nm_e]
        have kG29 : pj_kpt kc_64_3x G0 G29 := pj_kpt_t kG13 (pj_kpt_s jG29 rfl)
        obtain ⟨y30, hy30⟩ : ∃ z : Int32, z = pj_fi G29 2 4 := ⟨_, rfl⟩
        have ey30 : (pj_fi G29 2 4).toInt = y30.toInt := by rw [hy30]
        have ry30 : (-1 : Int) ≤ y30.toInt ∧ y30.toInt ≤ 80 := by rw [hy30]; exact iG29.2.1 2 4 (-1, 80) rfl
        show pj_X _ _ G29 70 [(3, .int y12), (0, .ref 27), (1, .ref 2), (2, .int dp)] [] _
        refine pj_X_of (fun r h => pj_R_to (G29, 88, [(3, .int y12), (0, .ref 27), (1, .ref 2), (2, .int dp)], [], 0, 0) 88 2 (fun _ => rfl) h) ?_
        have q31 : (pj_fi G29 2 4).toInt = y30.toInt := by rw [show pj_fi G29 2 4 = y30 from hy30.symm]
        exact pj_X_rt rfl rfl ⟨rfl, iG29, kG29, (fun H hH => by subst hH; exact (⟨by omega, (pr_kc_t (pr_kc_t (pr_kc_k jG7 rfl) (pr_kc_k jG13 rfl)) (pr_kc_k jG29 rfl))⟩)), rfl⟩
    | false =>
      rw [pj_cF]
      have ub10 := pj_u0_eqF b10
      refine pj_X_of (fun r h => pj_R_ifF rfl b10 h) ?_
      refine pj_X_of (fun r h => pj_R_to (G7, 39, [(0, .ref 27), (1, .ref 2), (2, .int dp)], [.int (dp + (Int32.ofInt 1)), .int (Int32.ofInt 0), .ref 2, .ref 27], 0, 0) 39 7 (fun _ => rfl) h) ?_
      obtain ⟨z32, hz32⟩ : ∃ z : Int32, z = dp + (Int32.ofInt 1) := ⟨_, rfl⟩
      refine pj_X_eqi hz32.symm ?_
      rw [← hz32, pj_nm_e]
      have fz32_0 : z32.toInt = dp.toInt + (Int32.ofInt 1).toInt := by rw [hz32]; exact pj_addI (by have := pj_i32 dp; have := pj_i32 (Int32.ofInt 1); omega) (by have := pj_i32 dp; have := pj_i32 (Int32.ofInt 1); omega)
      have q33 : (pj_fi G7 2 4).toInt = y9.toInt := by rw [show pj_fi G7 2 4 = y9 from hy9.symm]
      refine pj_X_ca (vs := [.ref 27, .ref 2, .int (Int32.ofInt 0), .int z32]) rfl (fun _ => rfl) ⟨Nat.le_of_ble_eq_true rfl, Nat.le_of_ble_eq_true rfl, pj_T_rcv iG7 rfl⟩ ⟨rfl, rfl⟩ (pj_Y_up (by decide) (ct_62_0_4x G7 iG7 (Int32.ofInt 0) z32 ⟨by omega, by omega⟩ ⟨by omega, by omega⟩)) ?_
      rintro _ G35 ⟨rfl, iG35, jG35, eG35, fy34⟩
      replace eG35 := eG35 _ rfl
      rw [← fy34, pj_nm_e]
      have kG35 : pj_kpt kc_64_3x G0 G35 := pj_kpt_t kG7 (pj_kpt_s jG35 rfl)
      obtain ⟨y36, hy36⟩ : ∃ z : Int32, z = pj_fi G35 2 4 := ⟨_, rfl⟩
      have ey36 : (pj_fi G35 2 4).toInt = y36.toInt := by rw [hy36]
      have ry36 : (-1 : Int) ≤ y36.toInt ∧ y36.toInt ≤ 80 := by rw [hy36]; exact iG35.2.1 2 4 (-1, 80) rfl
      show pj_X _ _ G35 42 [(0, .ref 27), (1, .ref 2), (2, .int dp)] [] _
      refine pj_X_of (fun r h => pj_R_to (G35, 47, [(0, .ref 27), (1, .ref 2), (2, .int dp)], [.int ((Int8.ofInt 41).toInt32), .int ((Int8.ofInt 41).toInt32), .ref 2], 0, 0) 47 4 (fun _ => rfl) h) ?_
      have q37 : (pj_fi G35 2 4).toInt = y36.toInt := by rw [show pj_fi G35 2 4 = y36 from hy36.symm]
      refine pj_X_ca (vs := [.ref 2, .int ((Int8.ofInt 41).toInt32), .int ((Int8.ofInt 41).toInt32)]) rfl (fun _ => rfl) ⟨Nat.le_of_ble_eq_true rfl, Nat.le_of_ble_eq_true rfl, pj_T_rcv iG35 rfl⟩ ⟨rfl, rfl⟩ (pj_Y_up (by decide) (ct_83x G35 iG35 ((Int8.ofInt 41).toInt32) ((Int8.ofInt 41).toInt32) ⟨by omega, by omega⟩ ⟨by omega, by omega⟩)) ?_
      rintro _ G39 ⟨y38, rfl, iG39, jG39, ry38, ey38, fy38⟩
      replace ey38 := ey38 _ rfl
      rw [← fy38, pj_bd_e]
      have kG39 : pj_kpt kc_64_3x G0 G39 := pj_kpt_t kG35 (pj_kpt_s jG39 rfl)
      obtain ⟨y40, hy40⟩ : ∃ z : Int32, z = pj_fi G39 2 4 := ⟨_, rfl⟩
      have ey40 : (pj_fi G39 2 4).toInt = y40.toInt := by rw [hy40]
      have ry40 : (-1 : Int) ≤ y40.toInt ∧ y40.toInt ≤ 80 := by rw [hy40]; exact iG39.2.1 2 4 (-1, 80) rfl
      show pj_X _ _ G39 50 [(0, .ref 27), (1, .ref 2), (2, .int dp)] [.int y38] _
      refine pj_X_of (fun r h => pj_R_to (G39, 88, [(0, .ref 27), (1, .ref 2), (2, .int dp)], [], 0, 0) 88 3 (fun _ => rfl) h) ?_
      have q41 : (pj_fi G39 2 4).toInt = y40.toInt := by rw [show pj_fi G39 2 4 = y40 from hy40.symm]
      exact pj_X_rt rfl rfl ⟨rfl, iG39, kG39, (fun H hH => by subst hH; exact (⟨by omega, (pr_kc_t (pr_kc_t (pr_kc_k jG7 rfl) eG35.2) (pr_kc_k jG39 rfl))⟩)), rfl⟩
  | false =>
    rw [pj_cF]
    have ub4 := pj_u0_eqF b4
    refine pj_X_of (fun r h => pj_R_ifF rfl b4 h) ?_
    refine pj_X_of (fun r h => pj_R_to (G0, 10, [(0, .ref 27), (1, .ref 2), (2, .int dp)], [.int (Int32.ofInt 3), .ref 2, .ref 27], 0, 0) 10 4 (fun _ => rfl) h) ?_
    have q42 : (pj_fi G0 2 4).toInt = y1.toInt := by rw [show pj_fi G0 2 4 = y1 from hy1.symm]
    refine pj_X_ca (vs := [.ref 2, .int (Int32.ofInt 3)]) rfl (fun _ => rfl) ⟨Nat.le_of_ble_eq_true rfl, Nat.le_of_ble_eq_true rfl, pj_T_rcv hI rfl⟩ ⟨rfl, rfl⟩ (pj_Y_up (by decide) (ct_86x G0 hI (Int32.ofInt 3) ⟨by omega, by omega⟩)) ?_
    rintro _ G44 ⟨y43, rfl, iG44, jG44, ry43, fy43⟩
    rw [← fy43, pj_bd_e]
    have kG44 : pj_kpt kc_64_3x G0 G44 := pj_kpt_t hK (pj_kpt_s jG44 rfl)
    obtain ⟨y45, hy45⟩ : ∃ z : Int32, z = pj_fi G44 2 4 := ⟨_, rfl⟩
    have ey45 : (pj_fi G44 2 4).toInt = y45.toInt := by rw [hy45]
    have ry45 : (-1 : Int) ≤ y45.toInt ∧ y45.toInt ≤ 80 := by rw [hy45]; exact iG44.2.1 2 4 (-1, 80) rfl
    show pj_X _ _ G44 13 [(0, .ref 27), (1, .ref 2), (2, .int dp)] [.int y43, .ref 27] _
    have q46 : (pj_fi G44 2 4).toInt = y45.toInt := by rw [show pj_fi G44 2 4 = y45 from hy45.symm]
    refine pj_X_ca (vs := [.ref 27, .int y43]) rfl (fun _ => rfl) ⟨Nat.le_of_ble_eq_true rfl, Nat.le_of_ble_eq_true rfl, pj_T_rcv iG44 rfl⟩ ⟨rfl, rfl⟩ (pj_Y_up (by decide) (ct_60x G44 iG44 y43 (by omega))) ?_
    rintro _ G48 ⟨rfl, iG48, jG48, eG48, fy47⟩
    replace eG48 := eG48 _ rfl
    rw [← fy47, pj_nm_e]
    have kG48 : pj_kpt kc_64_3x G0 G48 := pj_kpt_t kG44 (pj_kpt_s jG48 rfl)
    have q49 : (pj_fi G48 2 4).toInt = (pj_fi G44 2 4).toInt := by rw [jG48.1 (2, 4) (by decide)]
    obtain ⟨y50, hy50⟩ : ∃ z : Int32, z = pj_fi G48 2 4 := ⟨_, rfl⟩
    have ey50 : (pj_fi G48 2 4).toInt = y50.toInt := by rw [hy50]
    have ry50 : (-1 : Int) ≤ y50.toInt ∧ y50.toInt ≤ 80 := by rw [hy50]; exact iG48.2.1 2 4 (-1, 80) rfl
    show pj_X _ _ G48 16 [(0, .ref 27), (1, .ref 2), (2, .int dp)] [] _
    refine pj_X_of (fun r h => pj_R_to (G48, 88, [(0, .ref 27), (1, .ref 2), (2, .int dp)], [], 0, 0) 88 2 (fun _ => rfl) h) ?_
    have q51 : (pj_fi G48 2 4).toInt = y50.toInt := by rw [show pj_fi G48 2 4 = y50 from hy50.symm]
    exact pj_X_rt rfl rfl ⟨rfl, iG48, kG48, (fun H hH => by subst hH; exact (⟨by omega, (pr_kc_t (pr_kc_k jG44 rfl) eG48)⟩)), rfl⟩
theorem fr_64_3x (G0 : pj_G) (hI : pj_Inv G0) (dp : Int32) (rdp : (3 : Int) ≤ dp.toInt ∧ dp.toInt ≤ 3) : pj_Inv (F_64_3x G0 dp) ∧ pj_kpt kc_64_3x G0 (F_64_3x G0 dp) ∧ (((¬ (pj_fi G0 2 4).toInt = -1 → (pj_fi (F_64_3x G0 dp) 2 4).toInt = (pj_fi G0 2 4).toInt)) ∧ (pr_kc G0 (F_64_3x G0 dp))) := by
  obtain ⟨v, G', -, -, i, j, x, e⟩ := ct_64_3x G0 hI dp rdp
  rw [← e]
  exact ⟨i, j, x _ rfl⟩
def kc_63_3x : pj_KT := ([(2, 3), (2, 4), (27, 3)], [2, 27, 28, 29], [28, 29])
noncomputable def L_63_3x (G0 : pj_G) (dp : Int32) (fu : Nat) : Int32 → Int32 → pj_G → pj_G := Nat.rec (motive := fun _ => Int32 → Int32 → pj_G → pj_G) (fun _ _ G => G) (fun _ ih v3 v4 G => cond (pj_c1 .ge v4 ((Int8.ofInt 40).toInt32)) (pj_nm (F_64_3x G dp) (fun G5 => cond (pj_c1 .eq v3 0) (G5) (pj_nm (F_60x G5 ((Int16.ofInt 2000).toInt32)) (fun G11 => G11)))) (pj_bd (F_82x G ((Int8.ofInt 45).toInt32)) (fun y16 G17 => cond (pj_c1 .eq y16 0) (pj_nm (F_64_3x G17 dp) (fun G23 => cond (pj_c1 .eq v3 0) (G23) (pj_nm (F_60x G23 ((Int16.ofInt 2000).toInt32)) (fun G29 => G29)))) (cond (pj_c1 .ne v3 0) (pj_nm (v4 + Int32.ofInt 1) (fun z34 => ih (Int32.ofInt 0) z34 G17)) (pj_nm (v4 + Int32.ofInt 1) (fun z36 => ih (Int32.ofInt 1) z36 G17)))))) fu
theorem L_63_3x_s0 (G0 : pj_G) (dp : Int32) (fu : Nat) (v3 : Int32) (v4 : Int32) (G : pj_G) : L_63_3x G0 dp (fu + 1) v3 v4 G = cond (pj_c1 .ge v4 ((Int8.ofInt 40).toInt32)) (pj_nm (F_64_3x G dp) (fun G5 => cond (pj_c1 .eq v3 0) (G5) (pj_nm (F_60x G5 ((Int16.ofInt 2000).toInt32)) (fun G11 => G11)))) (pj_bd (F_82x G ((Int8.ofInt 45).toInt32)) (fun y16 G17 => cond (pj_c1 .eq y16 0) (pj_nm (F_64_3x G17 dp) (fun G23 => cond (pj_c1 .eq v3 0) (G23) (pj_nm (F_60x G23 ((Int16.ofInt 2000).toInt32)) (fun G29 => G29)))) (cond (pj_c1 .ne v3 0) (pj_nm (v4 + Int32.ofInt 1) (fun z34 => L_63_3x G0 dp fu (Int32.ofInt 0) z34 G17)) (pj_nm (v4 + Int32.ofInt 1) (fun z36 => L_63_3x G0 dp fu (Int32.ofInt 1) z36 G17))))) := rfl
noncomputable def F_63_3x (G0 : pj_G) (dp : Int32) : pj_G := L_63_3x G0 dp 41 (Int32.ofInt 0) (Int32.ofInt 0) G0
theorem F_63_3x_e (G0 : pj_G) (dp : Int32) : F_63_3x G0 dp = L_63_3x G0 dp 41 (Int32.ofInt 0) (Int32.ofInt 0) G0 := rfl
theorem lp_ct_63_3x (G0 : pj_G) (hI0 : pj_Inv G0) (dp : Int32) (rdp : (3 : Int) ≤ dp.toInt ∧ dp.toInt ≤ 3) : ∀ mn : Nat, (∀ (G : pj_G) (hI : pj_Inv G) (hK : pj_kpt kc_63_3x G0 G) (v3 : Int32) (v4 : Int32), ((0 : Int) ≤ v3.toInt ∧ v3.toInt ≤ 1) → ((0 : Int) ≤ v4.toInt ∧ v4.toInt ≤ 40) → (¬ (pj_fi G0 2 4).toInt = -1 → (pj_fi G 2 4).toInt = (pj_fi G0 2 4).toInt) → (pr_kc G0 G) → 40 - v4.toInt < (mn : Int) → pj_X 23 pj_m63 G 5 [(0, .ref 27), (1, .ref 2), (2, .int dp), (3, .int v3), (4, .int v4)] [] (fun v' G' => v' = none ∧ pj_Inv G' ∧ pj_kpt kc_63_3x G0 G' ∧ (∀ H, G0 = H → (((¬ (pj_fi H 2 4).toInt = -1 → (pj_fi G' 2 4).toInt = (pj_fi H 2 4).toInt)) ∧ (pr_kc H G'))) ∧ (G' = L_63_3x G0 dp mn v3 v4 G))) := by
  have c0_ : ((Int16.ofInt 2000).toInt32).toInt = 2000 := by decide
  have c1_ : ((Int8.ofInt 40).toInt32).toInt = 40 := by decide
  have c2_ : ((Int8.ofInt 45).toInt32).toInt = 45 := by decide
  have c3_ : (Int32.ofInt 0).toInt = 0 := by decide
  have c4_ : (Int32.ofInt 1).toInt = 1 := by decide
  intro mn
  induction mn with
  | zero =>
    intro G hI hK v3 v4 rv3 rv4 x0_ x1_ hm
    exfalso
    omega
  | succ mn ih =>
    intro G hI hK v3 v4 rv3 rv4 x0_ x1_ hm
    rw [L_63_3x_s0]
    obtain ⟨y1, hy1⟩ : ∃ z : Int32, z = pj_fi G 2 4 := ⟨_, rfl⟩
    have ey1 : (pj_fi G 2 4).toInt = y1.toInt := by rw [hy1]
    have ry1 : (-1 : Int) ≤ y1.toInt ∧ y1.toInt ≤ 80 := by rw [hy1]; exact hI.2.1 2 4 (-1, 80) rfl
    refine pj_X_of (fun r h => pj_R_to (G, 9, [(0, .ref 27), (1, .ref 2), (2, .int dp), (3, .int v3), (4, .int v4)], [.int ((Int8.ofInt 40).toInt32), .int v4], 0, 0) 9 3 (fun _ => rfl) h) ?_
    cases b2 : pj_c1 .ge v4 ((Int8.ofInt 40).toInt32) with
    | true =>
      rw [pj_cT]
      have ub2 := pj_u_geT b2
      refine pj_X_of (fun r h => pj_R_icT 37 rfl rfl b2 h) ?_
      refine pj_X_of (fun r h => pj_R_to (G, 40, [(0, .ref 27), (1, .ref 2), (2, .int dp), (3, .int v3), (4, .int v4)], [.int dp, .ref 2, .ref 27], 0, 0) 40 4 (fun _ => rfl) h) ?_
      have q3 : (pj_fi G 2 4).toInt = y1.toInt := by rw [show pj_fi G 2 4 = y1 from hy1.symm]
      refine pj_X_ca (vs := [.ref 27, .ref 2, .int dp]) rfl (fun _ => rfl) ⟨Nat.le_of_ble_eq_true rfl, Nat.le_of_ble_eq_true rfl, pj_T_rcv hI rfl⟩ ⟨rfl, rfl⟩ (pj_Y_up (by decide) (ct_64_3x G hI dp ⟨by omega, by omega⟩)) ?_
      rintro _ G5 ⟨rfl, iG5, jG5, eG5, fy4⟩
      replace eG5 := eG5 _ rfl
      rw [← fy4, pj_nm_e]
      have kG5 : pj_kpt kc_63_3x G0 G5 := pj_kpt_t hK (pj_kpt_s jG5 rfl)
      obtain ⟨y6, hy6⟩ : ∃ z : Int32, z = pj_fi G5 2 4 := ⟨_, rfl⟩
      have ey6 : (pj_fi G5 2 4).toInt = y6.toInt := by rw [hy6]
      have ry6 : (-1 : Int) ≤ y6.toInt ∧ y6.toInt ≤ 80 := by rw [hy6]; exact iG5.2.1 2 4 (-1, 80) rfl
      show pj_X _ _ G5 43 [(0, .ref 27), (1, .ref 2), (2, .int dp), (3, .int v3), (4, .int v4)] [] _
      refine pj_X_of (fun r h => pj_R_to (G5, 44, [(0, .ref 27), (1, .ref 2), (2, .int dp), (3, .int v3), (4, .int v4)], [.int v3], 0, 0) 44 2 (fun _ => rfl) h) ?_
      cases b7 : pj_c1 .eq v3 0 with
      | true =>
        rw [pj_cT]
        have ub7 := pj_u0_eqT b7
        refine pj_X_of (fun r h => pj_R_ifT 54 rfl rfl b7 h) ?_
        have q8 : (pj_fi G5 2 4).toInt = y6.toInt := by rw [show pj_fi G5 2 4 = y6 from hy6.symm]
        exact pj_X_rt rfl rfl ⟨rfl, iG5, kG5, (fun H hH => by subst hH; exact (⟨by omega, (pr_kc_t x1_ eG5.2)⟩)), rfl⟩
      | false =>
        rw [pj_cF]
        have ub7 := pj_u0_eqF b7
        refine pj_X_of (fun r h => pj_R_ifF rfl b7 h) ?_
        refine pj_X_of (fun r h => pj_R_to (G5, 51, [(0, .ref 27), (1, .ref 2), (2, .int dp), (3, .int v3), (4, .int v4)], [.int ((Int16.ofInt 2000).toInt32), .ref 27], 0, 0) 51 3 (fun _ => rfl) h) ?_
        have q9 : (pj_fi G5 2 4).toInt = y6.toInt := by rw [show pj_fi G5 2 4 = y6 from hy6.symm]
        refine pj_X_ca (vs := [.ref 27, .int ((Int16.ofInt 2000).toInt32)]) rfl (fun _ => rfl) ⟨Nat.le_of_ble_eq_true rfl, Nat.le_of_ble_eq_true rfl, pj_T_rcv iG5 rfl⟩ ⟨rfl, rfl⟩ (pj_Y_up (by decide) (ct_60x G5 iG5 ((Int16.ofInt 2000).toInt32) (by omega))) ?_
        rintro _ G11 ⟨rfl, iG11, jG11, eG11, fy10⟩
        replace eG11 := eG11 _ rfl
        rw [← fy10, pj_nm_e]
        have kG11 : pj_kpt kc_63_3x G0 G11 := pj_kpt_t kG5 (pj_kpt_s jG11 rfl)
        have q12 : (pj_fi G11 2 4).toInt = (pj_fi G5 2 4).toInt := by rw [jG11.1 (2, 4) (by decide)]
        obtain ⟨y13, hy13⟩ : ∃ z : Int32, z = pj_fi G11 2 4 := ⟨_, rfl⟩
        have ey13 : (pj_fi G11 2 4).toInt = y13.toInt := by rw [hy13]
        have ry13 : (-1 : Int) ≤ y13.toInt ∧ y13.toInt ≤ 80 := by rw [hy13]; exact iG11.2.1 2 4 (-1, 80) rfl
        show pj_X _ _ G11 54 [(0, .ref 27), (1, .ref 2), (2, .int dp), (3, .int v3), (4, .int v4)] [] _
        have q14 : (pj_fi G11 2 4).toInt = y13.toInt := by rw [show pj_fi G11 2 4 = y13 from hy13.symm]
        exact pj_X_rt rfl rfl ⟨rfl, iG11, kG11, (fun H hH => by subst hH; exact (⟨by omega, (pr_kc_t (pr_kc_t x1_ eG5.2) eG11)⟩)), rfl⟩
    | false =>
      rw [pj_cF]
      have ub2 := pj_u_geF b2
      refine pj_X_of (fun r h => pj_R_icF rfl b2 h) ?_
      refine pj_X_of (fun r h => pj_R_to (G, 15, [(0, .ref 27), (1, .ref 2), (2, .int dp), (3, .int v3), (4, .int v4)], [.int ((Int8.ofInt 45).toInt32), .ref 2], 0, 0) 15 3 (fun _ => rfl) h) ?_
      have q15 : (pj_fi G 2 4).toInt = y1.toInt := by rw [show pj_fi G 2 4 = y1 from hy1.symm]
      refine pj_X_ca (vs := [.ref 2, .int ((Int8.ofInt 45).toInt32)]) rfl (fun _ => rfl) ⟨Nat.le_of_ble_eq_true rfl, Nat.le_of_ble_eq_true rfl, pj_T_rcv hI rfl⟩ ⟨rfl, rfl⟩ (pj_Y_up (by decide) (ct_82x G hI ((Int8.ofInt 45).toInt32) ⟨by omega, by omega⟩)) ?_
      rintro _ G17 ⟨y16, rfl, iG17, jG17, ry16, ey16, fy16⟩
      replace ey16 := ey16 _ rfl
      rw [← fy16, pj_bd_e]
      have kG17 : pj_kpt kc_63_3x G0 G17 := pj_kpt_t hK (pj_kpt_s jG17 rfl)
      have q18 : (pj_fi G17 2 4).toInt = (pj_fi G 2 4).toInt := by rw [jG17.1 (2, 4) (by decide)]
      obtain ⟨y19, hy19⟩ : ∃ z : Int32, z = pj_fi G17 2 4 := ⟨_, rfl⟩
      have ey19 : (pj_fi G17 2 4).toInt = y19.toInt := by rw [hy19]
      have ry19 : (-1 : Int) ≤ y19.toInt ∧ y19.toInt ≤ 80 := by rw [hy19]; exact iG17.2.1 2 4 (-1, 80) rfl
      show pj_X _ _ G17 18 [(0, .ref 27), (1, .ref 2), (2, .int dp), (3, .int v3), (4, .int v4)] [.int y16] _
      cases b20 : pj_c1 .eq y16 0 with
      | true =>
        rw [pj_cT]
        have ub20 := pj_u0_eqT b20
        refine pj_X_of (fun r h => pj_R_ifT 37 rfl rfl b20 h) ?_
        refine pj_X_of (fun r h => pj_R_to (G17, 40, [(0, .ref 27), (1, .ref 2), (2, .int dp), (3, .int v3), (4, .int v4)], [.int dp, .ref 2, .ref 27], 0, 0) 40 4 (fun _ => rfl) h) ?_
        have q21 : (pj_fi G17 2 4).toInt = y19.toInt := by rw [show pj_fi G17 2 4 = y19 from hy19.symm]
        refine pj_X_ca (vs := [.ref 27, .ref 2, .int dp]) rfl (fun _ => rfl) ⟨Nat.le_of_ble_eq_true rfl, Nat.le_of_ble_eq_true rfl, pj_T_rcv iG17 rfl⟩ ⟨rfl, rfl⟩ (pj_Y_up (by decide) (ct_64_3x G17 iG17 dp ⟨by omega, by omega⟩)) ?_
        rintro _ G23 ⟨rfl, iG23, jG23, eG23, fy22⟩
        replace eG23 := eG23 _ rfl
        rw [← fy22, pj_nm_e]
        have kG23 : pj_kpt kc_63_3x G0 G23 := pj_kpt_t kG17 (pj_kpt_s jG23 rfl)
        obtain ⟨y24, hy24⟩ : ∃ z : Int32, z = pj_fi G23 2 4 := ⟨_, rfl⟩
        have ey24 : (pj_fi G23 2 4).toInt = y24.toInt := by rw [hy24]
        have ry24 : (-1 : Int) ≤ y24.toInt ∧ y24.toInt ≤ 80 := by rw [hy24]; exact iG23.2.1 2 4 (-1, 80) rfl
        show pj_X _ _ G23 43 [(0, .ref 27), (1, .ref 2), (2, .int dp), (3, .int v3), (4, .int v4)] [] _
        refine pj_X_of (fun r h => pj_R_to (G23, 44, [(0, .ref 27), (1, .ref 2), (2, .int dp), (3, .int v3), (4, .int v4)], [.int v3], 0, 0) 44 2 (fun _ => rfl) h) ?_
        cases b25 : pj_c1 .eq v3 0 with
        | true =>
          rw [pj_cT]
          have ub25 := pj_u0_eqT b25
          refine pj_X_of (fun r h => pj_R_ifT 54 rfl rfl b25 h) ?_
          have q26 : (pj_fi G23 2 4).toInt = y24.toInt := by rw [show pj_fi G23 2 4 = y24 from hy24.symm]
          exact pj_X_rt rfl rfl ⟨rfl, iG23, kG23, (fun H hH => by subst hH; exact (⟨by omega, (pr_kc_t (pr_kc_t x1_ (pr_kc_k jG17 rfl)) eG23.2)⟩)), rfl⟩
        | false =>
          rw [pj_cF]
          have ub25 := pj_u0_eqF b25
          refine pj_X_of (fun r h => pj_R_ifF rfl b25 h) ?_
          refine pj_X_of (fun r h => pj_R_to (G23, 51, [(0, .ref 27), (1, .ref 2), (2, .int dp), (3, .int v3), (4, .int v4)], [.int ((Int16.ofInt 2000).toInt32), .ref 27], 0, 0) 51 3 (fun _ => rfl) h) ?_
          have q27 : (pj_fi G23 2 4).toInt = y24.toInt := by rw [show pj_fi G23 2 4 = y24 from hy24.symm]
          refine pj_X_ca (vs := [.ref 27, .int ((Int16.ofInt 2000).toInt32)]) rfl (fun _ => rfl) ⟨Nat.le_of_ble_eq_true rfl, Nat.le_of_ble_eq_true rfl, pj_T_rcv iG23 rfl⟩ ⟨rfl, rfl⟩ (pj_Y_up (by decide) (ct_60x G23 iG23 ((Int16.ofInt 2000).toInt32) (by omega))) ?_
          rintro _ G29 ⟨rfl, iG29, jG29, eG29, fy28⟩
          replace eG29 := eG29 _ rfl
          rw [← fy28, pj_nm_e]
          have kG29 : pj_kpt kc_63_3x G0 G29 := pj_kpt_t kG23 (pj_kpt_s jG29 rfl)
          have q30 : (pj_fi G29 2 4).toInt = (pj_fi G23 2 4).toInt := by rw [jG29.1 (2, 4) (by decide)]
          obtain ⟨y31, hy31⟩ : ∃ z : Int32, z = pj_fi G29 2 4 := ⟨_, rfl⟩
          have ey31 : (pj_fi G29 2 4).toInt = y31.toInt := by rw [hy31]
          have ry31 : (-1 : Int) ≤ y31.toInt ∧ y31.toInt ≤ 80 := by rw [hy31]; exact iG29.2.1 2 4 (-1, 80) rfl
          show pj_X _ _ G29 54 [(0, .ref 27), (1, .ref 2), (2, .int dp), (3, .int v3), (4, .int v4)] [] _
          have q32 : (pj_fi G29 2 4).toInt = y31.toInt := by rw [show pj_fi G29 2 4 = y31 from hy31.symm]
          exact pj_X_rt rfl rfl ⟨rfl, iG29, kG29, (fun H hH => by subst hH; exact (⟨by omega, (pr_kc_t (pr_kc_t (pr_kc_t x1_ (pr_kc_k jG17 rfl)) eG23.2) eG29)⟩)), rfl⟩
      | false =>
        rw [pj_cF]
        have ub20 := pj_u0_eqF b20
        refine pj_X_of (fun r h => pj_R_ifF rfl b20 h) ?_
        refine pj_X_of (fun r h => pj_R_to (G17, 22, [(0, .ref 27), (1, .ref 2), (2, .int dp), (3, .int v3), (4, .int v4)], [.int v3], 0, 0) 22 2 (fun _ => rfl) h) ?_
        cases b33 : pj_c1 .ne v3 0 with
        | true =>
          rw [pj_cT]
          have ub33 := pj_u0_neT b33
          refine pj_X_of (fun r h => pj_R_ifT 29 rfl rfl b33 h) ?_
          refine pj_X_of (fun r h => pj_R_to (G17, 34, [(4, .int (v4 + Int32.ofInt 1)), (3, .int (Int32.ofInt 0)), (0, .ref 27), (1, .ref 2), (2, .int dp)], [], 0, 0) 34 4 (fun _ => rfl) h) ?_
          obtain ⟨z34, hz34⟩ : ∃ z : Int32, z = v4 + Int32.ofInt 1 := ⟨_, rfl⟩
          rw [← hz34]
          rw [pj_nm_e]
          have fz34_0 : z34.toInt = v4.toInt + (Int32.ofInt 1).toInt := by rw [hz34]; exact pj_addI (by have := pj_i32 v4; have := pj_i32 (Int32.ofInt 1); omega) (by have := pj_i32 v4; have := pj_i32 (Int32.ofInt 1); omega)
          refine pj_X_of (fun r h => pj_R_to (G17, 5, [(4, .int z34), (3, .int (Int32.ofInt 0)), (0, .ref 27), (1, .ref 2), (2, .int dp)], [], 0, 0) 5 2 (fun _ => rfl) h) ?_
          have q35 : (pj_fi G17 2 4).toInt = y19.toInt := by rw [show pj_fi G17 2 4 = y19 from hy19.symm]
          exact pj_X_sub [(0, .ref 27), (1, .ref 2), (2, .int dp), (3, .int (Int32.ofInt 0)), (4, .int z34)] (show List.Nodup [0, 1, 2, 3, 4] by decide) ⟨rfl, rfl, rfl, rfl, rfl, trivial⟩ (ih G17 iG17 kG17 (Int32.ofInt 0) z34 ⟨by omega, by omega⟩ ⟨by omega, by omega⟩ (by omega) (pr_kc_t x1_ (pr_kc_k jG17 rfl)) (by omega))
        | false =>
          rw [pj_cF]
          have ub33 := pj_u0_neF b33
          refine pj_X_of (fun r h => pj_R_ifF rfl b33 h) ?_
          refine pj_X_of (fun r h => pj_R_to (G17, 34, [(4, .int (v4 + Int32.ofInt 1)), (3, .int (Int32.ofInt 1)), (0, .ref 27), (1, .ref 2), (2, .int dp)], [], 0, 0) 34 5 (fun _ => rfl) h) ?_
          obtain ⟨z36, hz36⟩ : ∃ z : Int32, z = v4 + Int32.ofInt 1 := ⟨_, rfl⟩
          rw [← hz36]
          rw [pj_nm_e]
          have fz36_0 : z36.toInt = v4.toInt + (Int32.ofInt 1).toInt := by rw [hz36]; exact pj_addI (by have := pj_i32 v4; have := pj_i32 (Int32.ofInt 1); omega) (by have := pj_i32 v4; have := pj_i32 (Int32.ofInt 1); omega)
          refine pj_X_of (fun r h => pj_R_to (G17, 5, [(4, .int z36), (3, .int (Int32.ofInt 1)), (0, .ref 27), (1, .ref 2), (2, .int dp)], [], 0, 0) 5 2 (fun _ => rfl) h) ?_
          have q37 : (pj_fi G17 2 4).toInt = y19.toInt := by rw [show pj_fi G17 2 4 = y19 from hy19.symm]
          exact pj_X_sub [(0, .ref 27), (1, .ref 2), (2, .int dp), (3, .int (Int32.ofInt 1)), (4, .int z36)] (show List.Nodup [0, 1, 2, 3, 4] by decide) ⟨rfl, rfl, rfl, rfl, rfl, trivial⟩ (ih G17 iG17 kG17 (Int32.ofInt 1) z36 ⟨by omega, by omega⟩ ⟨by omega, by omega⟩ (by omega) (pr_kc_t x1_ (pr_kc_k jG17 rfl)) (by omega))
theorem ct_63_3x (G0 : pj_G) (hI : pj_Inv G0) (dp : Int32) (rdp : (3 : Int) ≤ dp.toInt ∧ dp.toInt ≤ 3) : pj_Y 24 63 [.ref 27, .ref 2, .int dp] G0 (fun v' G' => v' = none ∧ pj_Inv G' ∧ pj_kpt kc_63_3x G0 G' ∧ (∀ H, G0 = H → (((¬ (pj_fi H 2 4).toInt = -1 → (pj_fi G' 2 4).toInt = (pj_fi H 2 4).toInt)) ∧ (pr_kc H G'))) ∧ (G' = F_63_3x G0 dp)) := by
  have c0_ : ((Int16.ofInt 2000).toInt32).toInt = 2000 := by decide
  have c1_ : ((Int8.ofInt 40).toInt32).toInt = 40 := by decide
  have c2_ : ((Int8.ofInt 45).toInt32).toInt = 45 := by decide
  have c3_ : (Int32.ofInt 0).toInt = 0 := by decide
  have c4_ : (Int32.ofInt 1).toInt = 1 := by decide
  refine pj_Y_X (M := pj_m63) rfl rfl (Nat.le_of_ble_eq_true rfl) ?_
  have hK : pj_kpt kc_63_3x G0 G0 := pj_kpt_r _ _
  show pj_X _ _ G0 0 [(0, .ref 27), (1, .ref 2), (2, .int dp)] [] _
  rw [F_63_3x_e]
  obtain ⟨y38, hy38⟩ : ∃ z : Int32, z = pj_fi G0 2 4 := ⟨_, rfl⟩
  have ey38 : (pj_fi G0 2 4).toInt = y38.toInt := by rw [hy38]
  have ry38 : (-1 : Int) ≤ y38.toInt ∧ y38.toInt ≤ 80 := by rw [hy38]; exact hI.2.1 2 4 (-1, 80) rfl
  refine pj_X_of (fun r h => pj_R_to (G0, 5, [(4, .int (Int32.ofInt 0)), (3, .int (Int32.ofInt 0)), (0, .ref 27), (1, .ref 2), (2, .int dp)], [], 0, 0) 5 5 (fun _ => rfl) h) ?_
  have q39 : (pj_fi G0 2 4).toInt = y38.toInt := by rw [show pj_fi G0 2 4 = y38 from hy38.symm]
  exact pj_X_sub [(0, .ref 27), (1, .ref 2), (2, .int dp), (3, .int (Int32.ofInt 0)), (4, .int (Int32.ofInt 0))] (show List.Nodup [0, 1, 2, 3, 4] by decide) ⟨rfl, rfl, rfl, rfl, rfl, trivial⟩ ((lp_ct_63_3x G0 hI dp rdp 41) G0 hI hK (Int32.ofInt 0) (Int32.ofInt 0) ⟨by omega, by omega⟩ ⟨by omega, by omega⟩ (by omega) (pr_kc_r _) (by omega))
theorem fr_63_3x (G0 : pj_G) (hI : pj_Inv G0) (dp : Int32) (rdp : (3 : Int) ≤ dp.toInt ∧ dp.toInt ≤ 3) : pj_Inv (F_63_3x G0 dp) ∧ pj_kpt kc_63_3x G0 (F_63_3x G0 dp) ∧ (((¬ (pj_fi G0 2 4).toInt = -1 → (pj_fi (F_63_3x G0 dp) 2 4).toInt = (pj_fi G0 2 4).toInt)) ∧ (pr_kc G0 (F_63_3x G0 dp))) := by
  obtain ⟨v, G', -, -, i, j, x, e⟩ := ct_63_3x G0 hI dp rdp
  rw [← e]
  exact ⟨i, j, x _ rfl⟩
def kc_62_3_3x : pj_KT := ([(2, 3), (2, 4), (27, 3)], [2, 27, 28, 29], [28, 29])
noncomputable def F_62_3_3x (G0 : pj_G) (lv : Int32) (dp : Int32) : pj_G := pj_nm (F_63_3x G0 dp) (fun G4 => G4)
theorem F_62_3_3x_e (G0 : pj_G) (lv : Int32) (dp : Int32) : F_62_3_3x G0 lv dp = pj_nm (F_63_3x G0 dp) (fun G4 => G4) := rfl
theorem ct_62_3_3x (G0 : pj_G) (hI : pj_Inv G0) (lv : Int32) (dp : Int32) (rlv : (3 : Int) ≤ lv.toInt ∧ lv.toInt ≤ 3) (rdp : (3 : Int) ≤ dp.toInt ∧ dp.toInt ≤ 3) : pj_Y 25 62 [.ref 27, .ref 2, .int lv, .int dp] G0 (fun v' G' => v' = none ∧ pj_Inv G' ∧ pj_kpt kc_62_3_3x G0 G' ∧ (∀ H, G0 = H → (((¬ (pj_fi H 2 4).toInt = -1 → (pj_fi G' 2 4).toInt = (pj_fi H 2 4).toInt)) ∧ (pr_kc H G'))) ∧ (G' = F_62_3_3x G0 lv dp)) := by
  have c0_ : (Int32.ofInt 2).toInt = 2 := by decide
  refine pj_Y_X (M := pj_m62) rfl rfl (Nat.le_of_ble_eq_true rfl) ?_
  have hK : pj_kpt kc_62_3_3x G0 G0 := pj_kpt_r _ _
  show pj_X _ _ G0 0 [(0, .ref 27), (1, .ref 2), (2, .int lv), (3, .int dp)] [] _
  rw [F_62_3_3x_e]
  obtain ⟨y1, hy1⟩ : ∃ z : Int32, z = pj_fi G0 2 4 := ⟨_, rfl⟩
  have ey1 : (pj_fi G0 2 4).toInt = y1.toInt := by rw [hy1]
  have ry1 : (-1 : Int) ≤ y1.toInt ∧ y1.toInt ≤ 80 := by rw [hy1]; exact hI.2.1 2 4 (-1, 80) rfl
  refine pj_X_of (fun r h => pj_R_to (G0, 2, [(0, .ref 27), (1, .ref 2), (2, .int lv), (3, .int dp)], [.int (Int32.ofInt 2), .int lv], 0, 0) 2 3 (fun _ => rfl) h) ?_
  refine pj_X_of (fun r h => pj_R_icF rfl (pj_b_leF (by omega)) h) ?_
  refine pj_X_of (fun r h => pj_R_to (G0, 8, [(0, .ref 27), (1, .ref 2), (2, .int lv), (3, .int dp)], [.int dp, .ref 2, .ref 27], 0, 0) 8 4 (fun _ => rfl) h) ?_
  have q2 : (pj_fi G0 2 4).toInt = y1.toInt := by rw [show pj_fi G0 2 4 = y1 from hy1.symm]
  refine pj_X_ca (vs := [.ref 27, .ref 2, .int dp]) rfl (fun _ => rfl) ⟨Nat.le_of_ble_eq_true rfl, Nat.le_of_ble_eq_true rfl, pj_T_rcv hI rfl⟩ ⟨rfl, rfl⟩ (pj_Y_up (by decide) (ct_63_3x G0 hI dp ⟨by omega, by omega⟩)) ?_
  rintro _ G4 ⟨rfl, iG4, jG4, eG4, fy3⟩
  replace eG4 := eG4 _ rfl
  rw [← fy3, pj_nm_e]
  have kG4 : pj_kpt kc_62_3_3x G0 G4 := pj_kpt_t hK (pj_kpt_s jG4 rfl)
  obtain ⟨y5, hy5⟩ : ∃ z : Int32, z = pj_fi G4 2 4 := ⟨_, rfl⟩
  have ey5 : (pj_fi G4 2 4).toInt = y5.toInt := by rw [hy5]
  have ry5 : (-1 : Int) ≤ y5.toInt ∧ y5.toInt ≤ 80 := by rw [hy5]; exact iG4.2.1 2 4 (-1, 80) rfl
  show pj_X _ _ G4 11 [(0, .ref 27), (1, .ref 2), (2, .int lv), (3, .int dp)] [] _
  have q6 : (pj_fi G4 2 4).toInt = y5.toInt := by rw [show pj_fi G4 2 4 = y5 from hy5.symm]
  exact pj_X_rt rfl rfl ⟨rfl, iG4, kG4, (fun H hH => by subst hH; exact (⟨by omega, eG4.2⟩)), rfl⟩
theorem fr_62_3_3x (G0 : pj_G) (hI : pj_Inv G0) (lv : Int32) (dp : Int32) (rlv : (3 : Int) ≤ lv.toInt ∧ lv.toInt ≤ 3) (rdp : (3 : Int) ≤ dp.toInt ∧ dp.toInt ≤ 3) : pj_Inv (F_62_3_3x G0 lv dp) ∧ pj_kpt kc_62_3_3x G0 (F_62_3_3x G0 lv dp) ∧ (((¬ (pj_fi G0 2 4).toInt = -1 → (pj_fi (F_62_3_3x G0 lv dp) 2 4).toInt = (pj_fi G0 2 4).toInt)) ∧ (pr_kc G0 (F_62_3_3x G0 lv dp))) := by
  obtain ⟨v, G', -, -, i, j, x, e⟩ := ct_62_3_3x G0 hI lv dp rlv rdp
  rw [← e]
  exact ⟨i, j, x _ rfl⟩
def kc_62_2_3x : pj_KT := ([(2, 3), (2, 4), (27, 3)], [2, 27, 28, 29], [28, 29])
noncomputable def L_62_2_3x (G0 : pj_G) (lv : Int32) (dp : Int32) (fu : Nat) : Int32 → Int32 → pj_G → pj_G := Nat.rec (motive := fun _ => Int32 → Int32 → pj_G → pj_G) (fun _ _ G => G) (fun _ ih v4 v5 G => cond (pj_c1 .ge v5 v4) (G) (pj_bd (F_84_s7x G) (fun y7 G8 => cond (pj_c1 .ne y7 (Int32.ofInt (-1))) (pj_nm (lv + (Int32.ofInt 1)) (fun z12 => pj_nm (F_62_3_3x G8 z12 dp) (fun G15 => pj_nm (((Int16.ofInt 3000).toInt32) + y7) (fun z17 => pj_nm (F_60x G15 z17) (fun G20 => pj_nm (v5 + Int32.ofInt 1) (fun z23 => ih v4 z23 G20)))))) (G8)))) fu
theorem L_62_2_3x_s0 (G0 : pj_G) (lv : Int32) (dp : Int32) (fu : Nat) (v4 : Int32) (v5 : Int32) (G : pj_G) : L_62_2_3x G0 lv dp (fu + 1) v4 v5 G = cond (pj_c1 .ge v5 v4) (G) (pj_bd (F_84_s7x G) (fun y7 G8 => cond (pj_c1 .ne y7 (Int32.ofInt (-1))) (pj_nm (lv + (Int32.ofInt 1)) (fun z12 => pj_nm (F_62_3_3x G8 z12 dp) (fun G15 => pj_nm (((Int16.ofInt 3000).toInt32) + y7) (fun z17 => pj_nm (F_60x G15 z17) (fun G20 => pj_nm (v5 + Int32.ofInt 1) (fun z23 => L_62_2_3x G0 lv dp fu v4 z23 G20)))))) (G8))) := rfl
noncomputable def F_62_2_3x (G0 : pj_G) (lv : Int32) (dp : Int32) : pj_G := pj_nm (lv + (Int32.ofInt 1)) (fun z27 => pj_nm (F_62_3_3x G0 z27 dp) (fun G30 => L_62_2_3x G0 lv dp 41 ((Int8.ofInt 40).toInt32) (Int32.ofInt 0) G30))
theorem F_62_2_3x_e (G0 : pj_G) (lv : Int32) (dp : Int32) : F_62_2_3x G0 lv dp = pj_nm (lv + (Int32.ofInt 1)) (fun z27 => pj_nm (F_62_3_3x G0 z27 dp) (fun G30 => L_62_2_3x G0 lv dp 41 ((Int8.ofInt 40).toInt32) (Int32.ofInt 0) G30)) := rfl
theorem lp_ct_62_2_3x (G0 : pj_G) (hI0 : pj_Inv G0) (lv : Int32) (dp : Int32) (rlv : (2 : Int) ≤ lv.toInt ∧ lv.toInt ≤ 2) (rdp : (3 : Int) ≤ dp.toInt ∧ dp.toInt ≤ 3) : ∀ mn : Nat, (∀ (G : pj_G) (hI : pj_Inv G) (hK : pj_kpt kc_62_2_3x G0 G) (v4 : Int32) (v5 : Int32), ((1 : Int) ≤ v4.toInt ∧ v4.toInt ≤ 40) → ((0 : Int) ≤ v5.toInt ∧ v5.toInt ≤ 40) → (¬ (pj_fi G0 2 4).toInt = -1 → (pj_fi G 2 4).toInt = (pj_fi G0 2 4).toInt) → (pr_kc G0 G) → 40 - v5.toInt < (mn : Int) → pj_X 25 pj_m62 G 36 [(0, .ref 27), (1, .ref 2), (2, .int lv), (3, .int dp), (4, .int v4), (5, .int v5)] [] (fun v' G' => v' = none ∧ pj_Inv G' ∧ pj_kpt kc_62_2_3x G0 G' ∧ (∀ H, G0 = H → (((¬ (pj_fi H 2 4).toInt = -1 → (pj_fi G' 2 4).toInt = (pj_fi H 2 4).toInt)) ∧ (pr_kc H G'))) ∧ (G' = L_62_2_3x G0 lv dp mn v4 v5 G))) := by
  have c0_ : ((Int16.ofInt 3000).toInt32).toInt = 3000 := by decide
  have c1_ : ((Int8.ofInt 40).toInt32).toInt = 40 := by decide
  have c2_ : (Int32.ofInt (-1)).toInt = -1 := by decide
  have c3_ : (Int32.ofInt 0).toInt = 0 := by decide
  have c4_ : (Int32.ofInt 1).toInt = 1 := by decide
  have c5_ : (Int32.ofInt 2).toInt = 2 := by decide
  intro mn
  induction mn with
  | zero =>
    intro G hI hK v4 v5 rv4 rv5 x0_ x1_ hm
    exfalso
    omega
  | succ mn ih =>
    intro G hI hK v4 v5 rv4 rv5 x0_ x1_ hm
    rw [L_62_2_3x_s0]
    obtain ⟨y1, hy1⟩ : ∃ z : Int32, z = pj_fi G 2 4 := ⟨_, rfl⟩
    have ey1 : (pj_fi G 2 4).toInt = y1.toInt := by rw [hy1]
    have ry1 : (-1 : Int) ≤ y1.toInt ∧ y1.toInt ≤ 80 := by rw [hy1]; exact hI.2.1 2 4 (-1, 80) rfl
    refine pj_X_of (fun r h => pj_R_to (G, 40, [(0, .ref 27), (1, .ref 2), (2, .int lv), (3, .int dp), (4, .int v4), (5, .int v5)], [.int v4, .int v5], 0, 0) 40 3 (fun _ => rfl) h) ?_
    cases b2 : pj_c1 .ge v5 v4 with
    | true =>
      rw [pj_cT]
      have ub2 := pj_u_geT b2
      refine pj_X_of (fun r h => pj_R_icT 85 rfl rfl b2 h) ?_
      have q3 : (pj_fi G 2 4).toInt = y1.toInt := by rw [show pj_fi G 2 4 = y1 from hy1.symm]
      exact pj_X_rt rfl rfl ⟨rfl, hI, hK, (fun H hH => by subst hH; exact (⟨by omega, x1_⟩)), rfl⟩
    | false =>
      rw [pj_cF]
      have ub2 := pj_u_geF b2
      refine pj_X_of (fun r h => pj_R_icF rfl b2 h) ?_
      refine pj_X_of (fun r h => pj_R_to (G, 45, [(0, .ref 27), (1, .ref 2), (2, .int lv), (3, .int dp), (4, .int v4), (5, .int v5)], [.int lv, .ref 2], 0, 0) 45 3 (fun _ => rfl) h) ?_
      have q4 : (pj_fi G 2 4).toInt = y1.toInt := by rw [show pj_fi G 2 4 = y1 from hy1.symm]
      refine pj_X_ca (vs := [.int lv]) rfl (fun _ => rfl) ⟨Nat.le_of_ble_eq_true rfl, Nat.le_of_ble_eq_true rfl, rfl⟩ ⟨rfl, rfl⟩ (pj_Y_up (by decide) (ct_61_2 G hI lv ⟨by omega, by omega⟩)) ?_
      rintro _ _ ⟨rfl, rfl⟩
      show pj_X _ _ G 48 [(0, .ref 27), (1, .ref 2), (2, .int lv), (3, .int dp), (4, .int v4), (5, .int v5)] [.retAddr 7, .ref 2] _
      have q6 : (pj_fi G 2 4).toInt = y1.toInt := by rw [show pj_fi G 2 4 = y1 from hy1.symm]
      refine pj_X_ca (vs := [.ref 2, .retAddr 7]) rfl (fun _ => rfl) ⟨Nat.le_of_ble_eq_true rfl, Nat.le_of_ble_eq_true rfl, pj_T_rcv hI rfl⟩ ⟨rfl, rfl⟩ (pj_Y_up (by decide) (ct_84_s7x G hI)) ?_
      rintro _ G8 ⟨y7, rfl, iG8, jG8, ry7, ey7, fy7⟩
      replace ey7 := ey7 _ rfl
      rw [← fy7, pj_bd_e]
      have kG8 : pj_kpt kc_62_2_3x G0 G8 := pj_kpt_t hK (pj_kpt_s jG8 rfl)
      have q9 : (pj_fi G8 2 4).toInt = (pj_fi G 2 4).toInt := by rw [jG8.1 (2, 4) (by decide)]
      obtain ⟨y10, hy10⟩ : ∃ z : Int32, z = pj_fi G8 2 4 := ⟨_, rfl⟩
      have ey10 : (pj_fi G8 2 4).toInt = y10.toInt := by rw [hy10]
      have ry10 : (-1 : Int) ≤ y10.toInt ∧ y10.toInt ≤ 80 := by rw [hy10]; exact iG8.2.1 2 4 (-1, 80) rfl
      show pj_X _ _ G8 51 [(0, .ref 27), (1, .ref 2), (2, .int lv), (3, .int dp), (4, .int v4), (5, .int v5)] [.int y7] _
      refine pj_X_of (fun r h => pj_R_to (G8, 56, [(6, .int y7), (0, .ref 27), (1, .ref 2), (2, .int lv), (3, .int dp), (4, .int v4), (5, .int v5)], [.int (Int32.ofInt (-1)), .int y7], 0, 0) 56 4 (fun _ => rfl) h) ?_
      cases b11 : pj_c1 .ne y7 (Int32.ofInt (-1)) with
      | true =>
        rw [pj_cT]
        have ub11 := pj_u_neT b11
        refine pj_X_of (fun r h => pj_R_icT 60 rfl rfl b11 h) ?_
        refine pj_X_of (fun r h => pj_R_to (G8, 65, [(6, .int y7), (0, .ref 27), (1, .ref 2), (2, .int lv), (3, .int dp), (4, .int v4), (5, .int v5)], [.int (lv + (Int32.ofInt 1)), .ref 2, .ref 27], 0, 0) 65 6 (fun _ => rfl) h) ?_
        obtain ⟨z12, hz12⟩ : ∃ z : Int32, z = lv + (Int32.ofInt 1) := ⟨_, rfl⟩
        refine pj_X_eqi hz12.symm ?_
        rw [← hz12, pj_nm_e]
        have fz12_0 : z12.toInt = lv.toInt + (Int32.ofInt 1).toInt := by rw [hz12]; exact pj_addI (by have := pj_i32 lv; have := pj_i32 (Int32.ofInt 1); omega) (by have := pj_i32 lv; have := pj_i32 (Int32.ofInt 1); omega)
        refine pj_X_of (fun r h => pj_R_to (G8, 66, [(6, .int y7), (0, .ref 27), (1, .ref 2), (2, .int lv), (3, .int dp), (4, .int v4), (5, .int v5)], [.int dp, .int z12, .ref 2, .ref 27], 0, 0) 66 2 (fun _ => rfl) h) ?_
        have q13 : (pj_fi G8 2 4).toInt = y10.toInt := by rw [show pj_fi G8 2 4 = y10 from hy10.symm]
        refine pj_X_ca (vs := [.ref 27, .ref 2, .int z12, .int dp]) rfl (fun _ => rfl) ⟨Nat.le_of_ble_eq_true rfl, Nat.le_of_ble_eq_true rfl, pj_T_rcv iG8 rfl⟩ ⟨rfl, rfl⟩ (pj_Y_up (by decide) (ct_62_3_3x G8 iG8 z12 dp ⟨by omega, by omega⟩ ⟨by omega, by omega⟩)) ?_
        rintro _ G15 ⟨rfl, iG15, jG15, eG15, fy14⟩
        replace eG15 := eG15 _ rfl
        rw [← fy14, pj_nm_e]
        have kG15 : pj_kpt kc_62_2_3x G0 G15 := pj_kpt_t kG8 (pj_kpt_s jG15 rfl)
        obtain ⟨y16, hy16⟩ : ∃ z : Int32, z = pj_fi G15 2 4 := ⟨_, rfl⟩
        have ey16 : (pj_fi G15 2 4).toInt = y16.toInt := by rw [hy16]
        have ry16 : (-1 : Int) ≤ y16.toInt ∧ y16.toInt ≤ 80 := by rw [hy16]; exact iG15.2.1 2 4 (-1, 80) rfl
        show pj_X _ _ G15 69 [(6, .int y7), (0, .ref 27), (1, .ref 2), (2, .int lv), (3, .int dp), (4, .int v4), (5, .int v5)] [] _
        refine pj_X_of (fun r h => pj_R_to (G15, 76, [(6, .int y7), (0, .ref 27), (1, .ref 2), (2, .int lv), (3, .int dp), (4, .int v4), (5, .int v5)], [.int (((Int16.ofInt 3000).toInt32) + y7), .ref 27], 0, 0) 76 5 (fun _ => rfl) h) ?_
        obtain ⟨z17, hz17⟩ : ∃ z : Int32, z = ((Int16.ofInt 3000).toInt32) + y7 := ⟨_, rfl⟩
        refine pj_X_eqi hz17.symm ?_
        rw [← hz17, pj_nm_e]
        have fz17_0 : z17.toInt = ((Int16.ofInt 3000).toInt32).toInt + y7.toInt := by rw [hz17]; exact pj_addI (by have := pj_i32 ((Int16.ofInt 3000).toInt32); have := pj_i32 y7; omega) (by have := pj_i32 ((Int16.ofInt 3000).toInt32); have := pj_i32 y7; omega)
        have q18 : (pj_fi G15 2 4).toInt = y16.toInt := by rw [show pj_fi G15 2 4 = y16 from hy16.symm]
        refine pj_X_ca (vs := [.ref 27, .int z17]) rfl (fun _ => rfl) ⟨Nat.le_of_ble_eq_true rfl, Nat.le_of_ble_eq_true rfl, pj_T_rcv iG15 rfl⟩ ⟨rfl, rfl⟩ (pj_Y_up (by decide) (ct_60x G15 iG15 z17 (by omega))) ?_
        rintro _ G20 ⟨rfl, iG20, jG20, eG20, fy19⟩
        replace eG20 := eG20 _ rfl
        rw [← fy19, pj_nm_e]
        have kG20 : pj_kpt kc_62_2_3x G0 G20 := pj_kpt_t kG15 (pj_kpt_s jG20 rfl)
        have q21 : (pj_fi G20 2 4).toInt = (pj_fi G15 2 4).toInt := by rw [jG20.1 (2, 4) (by decide)]
        obtain ⟨y22, hy22⟩ : ∃ z : Int32, z = pj_fi G20 2 4 := ⟨_, rfl⟩
        have ey22 : (pj_fi G20 2 4).toInt = y22.toInt := by rw [hy22]
        have ry22 : (-1 : Int) ≤ y22.toInt ∧ y22.toInt ≤ 80 := by rw [hy22]; exact iG20.2.1 2 4 (-1, 80) rfl
        show pj_X _ _ G20 79 [(6, .int y7), (0, .ref 27), (1, .ref 2), (2, .int lv), (3, .int dp), (4, .int v4), (5, .int v5)] [] _
        refine pj_X_of (fun r h => pj_R_to (G20, 82, [(5, .int (v5 + Int32.ofInt 1)), (6, .int y7), (0, .ref 27), (1, .ref 2), (2, .int lv), (3, .int dp), (4, .int v4)], [], 0, 0) 82 2 (fun _ => rfl) h) ?_
        obtain ⟨z23, hz23⟩ : ∃ z : Int32, z = v5 + Int32.ofInt 1 := ⟨_, rfl⟩
        rw [← hz23]
        rw [pj_nm_e]
        have fz23_0 : z23.toInt = v5.toInt + (Int32.ofInt 1).toInt := by rw [hz23]; exact pj_addI (by have := pj_i32 v5; have := pj_i32 (Int32.ofInt 1); omega) (by have := pj_i32 v5; have := pj_i32 (Int32.ofInt 1); omega)
        refine pj_X_of (fun r h => pj_R_to (G20, 36, [(5, .int z23), (6, .int y7), (0, .ref 27), (1, .ref 2), (2, .int lv), (3, .int dp), (4, .int v4)], [], 0, 0) 36 2 (fun _ => rfl) h) ?_
        have q24 : (pj_fi G20 2 4).toInt = y22.toInt := by rw [show pj_fi G20 2 4 = y22 from hy22.symm]
        exact pj_X_sub [(0, .ref 27), (1, .ref 2), (2, .int lv), (3, .int dp), (4, .int v4), (5, .int z23)] (show List.Nodup [0, 1, 2, 3, 4, 5] by decide) ⟨rfl, rfl, rfl, rfl, rfl, rfl, trivial⟩ (ih G20 iG20 kG20 v4 z23 ⟨by omega, by omega⟩ ⟨by omega, by omega⟩ (by omega) (pr_kc_t (pr_kc_t (pr_kc_t x1_ (pr_kc_k jG8 rfl)) eG15.2) eG20) (by omega))
      | false =>
        rw [pj_cF]
        have ub11 := pj_u_neF b11
        refine pj_X_of (fun r h => pj_R_icF rfl b11 h) ?_
        have q25 : (pj_fi G8 2 4).toInt = y10.toInt := by rw [show pj_fi G8 2 4 = y10 from hy10.symm]
        exact pj_X_rt rfl rfl ⟨rfl, iG8, kG8, (fun H hH => by subst hH; exact (⟨by omega, (pr_kc_t x1_ (pr_kc_k jG8 rfl))⟩)), rfl⟩
theorem ct_62_2_3x (G0 : pj_G) (hI : pj_Inv G0) (lv : Int32) (dp : Int32) (rlv : (2 : Int) ≤ lv.toInt ∧ lv.toInt ≤ 2) (rdp : (3 : Int) ≤ dp.toInt ∧ dp.toInt ≤ 3) : pj_Y 26 62 [.ref 27, .ref 2, .int lv, .int dp] G0 (fun v' G' => v' = none ∧ pj_Inv G' ∧ pj_kpt kc_62_2_3x G0 G' ∧ (∀ H, G0 = H → (((¬ (pj_fi H 2 4).toInt = -1 → (pj_fi G' 2 4).toInt = (pj_fi H 2 4).toInt)) ∧ (pr_kc H G'))) ∧ (G' = F_62_2_3x G0 lv dp)) := by
  have c0_ : ((Int16.ofInt 3000).toInt32).toInt = 3000 := by decide
  have c1_ : ((Int8.ofInt 40).toInt32).toInt = 40 := by decide
  have c2_ : (Int32.ofInt (-1)).toInt = -1 := by decide
  have c3_ : (Int32.ofInt 0).toInt = 0 := by decide
  have c4_ : (Int32.ofInt 1).toInt = 1 := by decide
  have c5_ : (Int32.ofInt 2).toInt = 2 := by decide
  refine pj_Y_X (M := pj_m62) rfl rfl (Nat.le_of_ble_eq_true rfl) ?_
  have hK : pj_kpt kc_62_2_3x G0 G0 := pj_kpt_r _ _
  show pj_X _ _ G0 0 [(0, .ref 27), (1, .ref 2), (2, .int lv), (3, .int dp)] [] _
  rw [F_62_2_3x_e]
  obtain ⟨y26, hy26⟩ : ∃ z : Int32, z = pj_fi G0 2 4 := ⟨_, rfl⟩
  have ey26 : (pj_fi G0 2 4).toInt = y26.toInt := by rw [hy26]
  have ry26 : (-1 : Int) ≤ y26.toInt ∧ y26.toInt ≤ 80 := by rw [hy26]; exact hI.2.1 2 4 (-1, 80) rfl
  refine pj_X_of (fun r h => pj_R_to (G0, 2, [(0, .ref 27), (1, .ref 2), (2, .int lv), (3, .int dp)], [.int (Int32.ofInt 2), .int lv], 0, 0) 2 3 (fun _ => rfl) h) ?_
  refine pj_X_of (fun r h => pj_R_icT 12 rfl rfl (pj_b_leT (by omega)) h) ?_
  refine pj_X_of (fun r h => pj_R_to (G0, 17, [(0, .ref 27), (1, .ref 2), (2, .int lv), (3, .int dp)], [.int (lv + (Int32.ofInt 1)), .ref 2, .ref 27], 0, 0) 17 6 (fun _ => rfl) h) ?_
  obtain ⟨z27, hz27⟩ : ∃ z : Int32, z = lv + (Int32.ofInt 1) := ⟨_, rfl⟩
  refine pj_X_eqi hz27.symm ?_
  rw [← hz27, pj_nm_e]
  have fz27_0 : z27.toInt = lv.toInt + (Int32.ofInt 1).toInt := by rw [hz27]; exact pj_addI (by have := pj_i32 lv; have := pj_i32 (Int32.ofInt 1); omega) (by have := pj_i32 lv; have := pj_i32 (Int32.ofInt 1); omega)
  refine pj_X_of (fun r h => pj_R_to (G0, 18, [(0, .ref 27), (1, .ref 2), (2, .int lv), (3, .int dp)], [.int dp, .int z27, .ref 2, .ref 27], 0, 0) 18 2 (fun _ => rfl) h) ?_
  have q28 : (pj_fi G0 2 4).toInt = y26.toInt := by rw [show pj_fi G0 2 4 = y26 from hy26.symm]
  refine pj_X_ca (vs := [.ref 27, .ref 2, .int z27, .int dp]) rfl (fun _ => rfl) ⟨Nat.le_of_ble_eq_true rfl, Nat.le_of_ble_eq_true rfl, pj_T_rcv hI rfl⟩ ⟨rfl, rfl⟩ (pj_Y_up (by decide) (ct_62_3_3x G0 hI z27 dp ⟨by omega, by omega⟩ ⟨by omega, by omega⟩)) ?_
  rintro _ G30 ⟨rfl, iG30, jG30, eG30, fy29⟩
  replace eG30 := eG30 _ rfl
  rw [← fy29, pj_nm_e]
  have kG30 : pj_kpt kc_62_2_3x G0 G30 := pj_kpt_t hK (pj_kpt_s jG30 rfl)
  obtain ⟨y31, hy31⟩ : ∃ z : Int32, z = pj_fi G30 2 4 := ⟨_, rfl⟩
  have ey31 : (pj_fi G30 2 4).toInt = y31.toInt := by rw [hy31]
  have ry31 : (-1 : Int) ≤ y31.toInt ∧ y31.toInt ≤ 80 := by rw [hy31]; exact iG30.2.1 2 4 (-1, 80) rfl
  show pj_X _ _ G30 21 [(0, .ref 27), (1, .ref 2), (2, .int lv), (3, .int dp)] [] _
  refine pj_X_of (fun r h => pj_R_to (G30, 22, [(0, .ref 27), (1, .ref 2), (2, .int lv), (3, .int dp)], [.int lv], 0, 0) 22 2 (fun _ => rfl) h) ?_
  refine pj_X_of (fun r h => pj_R_ifT 29 rfl rfl (pj_b0_neT (by omega)) h) ?_
  refine pj_X_of (fun r h => pj_R_to (G30, 36, [(5, .int (Int32.ofInt 0)), (4, .int ((Int8.ofInt 40).toInt32)), (0, .ref 27), (1, .ref 2), (2, .int lv), (3, .int dp)], [], 0, 0) 36 5 (fun _ => rfl) h) ?_
  have q32 : (pj_fi G30 2 4).toInt = y31.toInt := by rw [show pj_fi G30 2 4 = y31 from hy31.symm]
  exact pj_X_sub [(0, .ref 27), (1, .ref 2), (2, .int lv), (3, .int dp), (4, .int ((Int8.ofInt 40).toInt32)), (5, .int (Int32.ofInt 0))] (show List.Nodup [0, 1, 2, 3, 4, 5] by decide) ⟨rfl, rfl, rfl, rfl, rfl, rfl, trivial⟩ ((lp_ct_62_2_3x G0 hI lv dp rlv rdp 41) G30 iG30 kG30 ((Int8.ofInt 40).toInt32) (Int32.ofInt 0) ⟨by omega, by omega⟩ ⟨by omega, by omega⟩ (by omega) eG30.2 (by omega))
theorem fr_62_2_3x (G0 : pj_G) (hI : pj_Inv G0) (lv : Int32) (dp : Int32) (rlv : (2 : Int) ≤ lv.toInt ∧ lv.toInt ≤ 2) (rdp : (3 : Int) ≤ dp.toInt ∧ dp.toInt ≤ 3) : pj_Inv (F_62_2_3x G0 lv dp) ∧ pj_kpt kc_62_2_3x G0 (F_62_2_3x G0 lv dp) ∧ (((¬ (pj_fi G0 2 4).toInt = -1 → (pj_fi (F_62_2_3x G0 lv dp) 2 4).toInt = (pj_fi G0 2 4).toInt)) ∧ (pr_kc G0 (F_62_2_3x G0 lv dp))) := by
  obtain ⟨v, G', -, -, i, j, x, e⟩ := ct_62_2_3x G0 hI lv dp rlv rdp
  rw [← e]
  exact ⟨i, j, x _ rfl⟩
def kc_62_1_3x : pj_KT := ([(2, 3), (2, 4), (27, 3)], [2, 27, 28, 29], [28, 29])
noncomputable def L_62_1_3x (G0 : pj_G) (lv : Int32) (dp : Int32) (fu : Nat) : Int32 → Int32 → pj_G → pj_G := Nat.rec (motive := fun _ => Int32 → Int32 → pj_G → pj_G) (fun _ _ G => G) (fun _ ih v4 v5 G => cond (pj_c1 .ge v5 v4) (G) (pj_bd (F_84_s6x G) (fun y7 G8 => cond (pj_c1 .ne y7 (Int32.ofInt (-1))) (pj_nm (lv + (Int32.ofInt 1)) (fun z12 => pj_nm (F_62_2_3x G8 z12 dp) (fun G15 => pj_nm (((Int16.ofInt 3000).toInt32) + y7) (fun z17 => pj_nm (F_60x G15 z17) (fun G20 => pj_nm (v5 + Int32.ofInt 1) (fun z23 => ih v4 z23 G20)))))) (G8)))) fu
theorem L_62_1_3x_s0 (G0 : pj_G) (lv : Int32) (dp : Int32) (fu : Nat) (v4 : Int32) (v5 : Int32) (G : pj_G) : L_62_1_3x G0 lv dp (fu + 1) v4 v5 G = cond (pj_c1 .ge v5 v4) (G) (pj_bd (F_84_s6x G) (fun y7 G8 => cond (pj_c1 .ne y7 (Int32.ofInt (-1))) (pj_nm (lv + (Int32.ofInt 1)) (fun z12 => pj_nm (F_62_2_3x G8 z12 dp) (fun G15 => pj_nm (((Int16.ofInt 3000).toInt32) + y7) (fun z17 => pj_nm (F_60x G15 z17) (fun G20 => pj_nm (v5 + Int32.ofInt 1) (fun z23 => L_62_1_3x G0 lv dp fu v4 z23 G20)))))) (G8))) := rfl
noncomputable def F_62_1_3x (G0 : pj_G) (lv : Int32) (dp : Int32) : pj_G := pj_nm (lv + (Int32.ofInt 1)) (fun z27 => pj_nm (F_62_2_3x G0 z27 dp) (fun G30 => L_62_1_3x G0 lv dp 41 ((Int8.ofInt 40).toInt32) (Int32.ofInt 0) G30))
theorem F_62_1_3x_e (G0 : pj_G) (lv : Int32) (dp : Int32) : F_62_1_3x G0 lv dp = pj_nm (lv + (Int32.ofInt 1)) (fun z27 => pj_nm (F_62_2_3x G0 z27 dp) (fun G30 => L_62_1_3x G0 lv dp 41 ((Int8.ofInt 40).toInt32) (Int32.ofInt 0) G30)) := rfl
theorem lp_ct_62_1_3x (G0 : pj_G) (hI0 : pj_Inv G0) (lv : Int32) (dp : Int32) (rlv : (1 : Int) ≤ lv.toInt ∧ lv.toInt ≤ 1) (rdp : (3 : Int) ≤ dp.toInt ∧ dp.toInt ≤ 3) : ∀ mn : Nat, (∀ (G : pj_G) (hI : pj_Inv G) (hK : pj_kpt kc_62_1_3x G0 G) (v4 : Int32) (v5 : Int32), ((1 : Int) ≤ v4.toInt ∧ v4.toInt ≤ 40) → ((0 : Int) ≤ v5.toInt ∧ v5.toInt ≤ 40) → (¬ (pj_fi G0 2 4).toInt = -1 → (pj_fi G 2 4).toInt = (pj_fi G0 2 4).toInt) → (pr_kc G0 G) → 40 - v5.toInt < (mn : Int) → pj_X 26 pj_m62 G 36 [(0, .ref 27), (1, .ref 2), (2, .int lv), (3, .int dp), (4, .int v4), (5, .int v5)] [] (fun v' G' => v' = none ∧ pj_Inv G' ∧ pj_kpt kc_62_1_3x G0 G' ∧ (∀ H, G0 = H → (((¬ (pj_fi H 2 4).toInt = -1 → (pj_fi G' 2 4).toInt = (pj_fi H 2 4).toInt)) ∧ (pr_kc H G'))) ∧ (G' = L_62_1_3x G0 lv dp mn v4 v5 G))) := by
  have c0_ : ((Int16.ofInt 3000).toInt32).toInt = 3000 := by decide
  have c1_ : ((Int8.ofInt 40).toInt32).toInt = 40 := by decide
  have c2_ : (Int32.ofInt (-1)).toInt = -1 := by decide
  have c3_ : (Int32.ofInt 0).toInt = 0 := by decide
  have c4_ : (Int32.ofInt 1).toInt = 1 := by decide
  have c5_ : (Int32.ofInt 2).toInt = 2 := by decide
  intro mn
  induction mn with
  | zero =>
    intro G hI hK v4 v5 rv4 rv5 x0_ x1_ hm
    exfalso
    omega
  | succ mn ih =>
    intro G hI hK v4 v5 rv4 rv5 x0_ x1_ hm
    rw [L_62_1_3x_s0]
    obtain ⟨y1, hy1⟩ : ∃ z : Int32, z = pj_fi G 2 4 := ⟨_, rfl⟩
    have ey1 : (pj_fi G 2 4).toInt = y1.toInt := by rw [hy1]
    have ry1 : (-1 : Int) ≤ y1.toInt ∧ y1.toInt ≤ 80 := by rw [hy1]; exact hI.2.1 2 4 (-1, 80) rfl
    refine pj_X_of (fun r h => pj_R_to (G, 40, [(0, .ref 27), (1, .ref 2), (2, .int lv), (3, .int dp), (4, .int v4), (5, .int v5)], [.int v4, .int v5], 0, 0) 40 3 (fun _ => rfl) h) ?_
    cases b2 : pj_c1 .ge v5 v4 with
    | true =>
      rw [pj_cT]
      have ub2 := pj_u_geT b2
      refine pj_X_of (fun r h => pj_R_icT 85 rfl rfl b2 h) ?_
      have q3 : (pj_fi G 2 4).toInt = y1.toInt := by rw [show pj_fi G 2 4 = y1 from hy1.symm]
      exact pj_X_rt rfl rfl ⟨rfl, hI, hK, (fun H hH => by subst hH; exact (⟨by omega, x1_⟩)), rfl⟩
    | false =>
      rw [pj_cF]
      have ub2 := pj_u_geF b2
      refine pj_X_of (fun r h => pj_R_icF rfl b2 h) ?_
      refine pj_X_of (fun r h => pj_R_to (G, 45, [(0, .ref 27), (1, .ref 2), (2, .int lv), (3, .int dp), (4, .int v4), (5, .int v5)], [.int lv, .ref 2], 0, 0) 45 3 (fun _ => rfl) h) ?_
      have q4 : (pj_fi G 2 4).toInt = y1.toInt := by rw [show pj_fi G 2 4 = y1 from hy1.symm]
      refine pj_X_ca (vs := [.int lv]) rfl (fun _ => rfl) ⟨Nat.le_of_ble_eq_true rfl, Nat.le_of_ble_eq_true rfl, rfl⟩ ⟨rfl, rfl⟩ (pj_Y_up (by decide) (ct_61_1 G hI lv ⟨by omega, by omega⟩)) ?_
      rintro _ _ ⟨rfl, rfl⟩
      show pj_X _ _ G 48 [(0, .ref 27), (1, .ref 2), (2, .int lv), (3, .int dp), (4, .int v4), (5, .int v5)] [.retAddr 6, .ref 2] _
      have q6 : (pj_fi G 2 4).toInt = y1.toInt := by rw [show pj_fi G 2 4 = y1 from hy1.symm]
      refine pj_X_ca (vs := [.ref 2, .retAddr 6]) rfl (fun _ => rfl) ⟨Nat.le_of_ble_eq_true rfl, Nat.le_of_ble_eq_true rfl, pj_T_rcv hI rfl⟩ ⟨rfl, rfl⟩ (pj_Y_up (by decide) (ct_84_s6x G hI)) ?_
      rintro _ G8 ⟨y7, rfl, iG8, jG8, ry7, ey7, fy7⟩
      replace ey7 := ey7 _ rfl
      rw [← fy7, pj_bd_e]
      have kG8 : pj_kpt kc_62_1_3x G0 G8 := pj_kpt_t hK (pj_kpt_s jG8 rfl)
      have q9 : (pj_fi G8 2 4).toInt = (pj_fi G 2 4).toInt := by rw [jG8.1 (2, 4) (by decide)]
      obtain ⟨y10, hy10⟩ : ∃ z : Int32, z = pj_fi G8 2 4 := ⟨_, rfl⟩
      have ey10 : (pj_fi G8 2 4).toInt = y10.toInt := by rw [hy10]
      have ry10 : (-1 : Int) ≤ y10.toInt ∧ y10.toInt ≤ 80 := by rw [hy10]; exact iG8.2.1 2 4 (-1, 80) rfl
      show pj_X _ _ G8 51 [(0, .ref 27), (1, .ref 2), (2, .int lv), (3, .int dp), (4, .int v4), (5, .int v5)] [.int y7] _
      refine pj_X_of (fun r h => pj_R_to (G8, 56, [(6, .int y7), (0, .ref 27), (1, .ref 2), (2, .int lv), (3, .int dp), (4, .int v4), (5, .int v5)], [.int (Int32.ofInt (-1)), .int y7], 0, 0) 56 4 (fun _ => rfl) h) ?_
      cases b11 : pj_c1 .ne y7 (Int32.ofInt (-1)) with
      | true =>
        rw [pj_cT]
        have ub11 := pj_u_neT b11
        refine pj_X_of (fun r h => pj_R_icT 60 rfl rfl b11 h) ?_
        refine pj_X_of (fun r h => pj_R_to (G8, 65, [(6, .int y7), (0, .ref 27), (1, .ref 2), (2, .int lv), (3, .int dp), (4, .int v4), (5, .int v5)], [.int (lv + (Int32.ofInt 1)), .ref 2, .ref 27], 0, 0) 65 6 (fun _ => rfl) h) ?_
        obtain ⟨z12, hz12⟩ : ∃ z : Int32, z = lv + (Int32.ofInt 1) := ⟨_, rfl⟩
        refine pj_X_eqi hz12.symm ?_
        rw [← hz12, pj_nm_e]
        have fz12_0 : z12.toInt = lv.toInt + (Int32.ofInt 1).toInt := by rw [hz12]; exact pj_addI (by have := pj_i32 lv; have := pj_i32 (Int32.ofInt 1); omega) (by have := pj_i32 lv; have := pj_i32 (Int32.ofInt 1); omega)
        refine pj_X_of (fun r h => pj_R_to (G8, 66, [(6, .int y7), (0, .ref 27), (1, .ref 2), (2, .int lv), (3, .int dp), (4, .int v4), (5, .int v5)], [.int dp, .int z12, .ref 2, .ref 27], 0, 0) 66 2 (fun _ => rfl) h) ?_
        have q13 : (pj_fi G8 2 4).toInt = y10.toInt := by rw [show pj_fi G8 2 4 = y10 from hy10.symm]
        refine pj_X_ca (vs := [.ref 27, .ref 2, .int z12, .int dp]) rfl (fun _ => rfl) ⟨Nat.le_of_ble_eq_true rfl, Nat.le_of_ble_eq_true rfl, pj_T_rcv iG8 rfl⟩ ⟨rfl, rfl⟩ (pj_Y_up (by decide) (ct_62_2_3x G8 iG8 z12 dp ⟨by omega, by omega⟩ ⟨by omega, by omega⟩)) ?_
        rintro _ G15 ⟨rfl, iG15, jG15, eG15, fy14⟩
        replace eG15 := eG15 _ rfl
        rw [← fy14, pj_nm_e]
        have kG15 : pj_kpt kc_62_1_3x G0 G15 := pj_kpt_t kG8 (pj_kpt_s jG15 rfl)
        obtain ⟨y16, hy16⟩ : ∃ z : Int32, z = pj_fi G15 2 4 := ⟨_, rfl⟩
        have ey16 : (pj_fi G15 2 4).toInt = y16.toInt := by rw [hy16]
        have ry16 : (-1 : Int) ≤ y16.toInt ∧ y16.toInt ≤ 80 := by rw [hy16]; exact iG15.2.1 2 4 (-1, 80) rfl
        show pj_X _ _ G15 69 [(6, .int y7), (0, .ref 27), (1, .ref 2), (2, .int lv), (3, .int dp), (4, .int v4), (5, .int v5)] [] _
        refine pj_X_of (fun r h => pj_R_to (G15, 76, [(6, .int y7), (0, .ref 27), (1, .ref 2), (2, .int lv), (3, .int dp), (4, .int v4), (5, .int v5)], [.int (((Int16.ofInt 3000).toInt32) + y7), .ref 27], 0, 0) 76 5 (fun _ => rfl) h) ?_
        obtain ⟨z17, hz17⟩ : ∃ z : Int32, z = ((Int16.ofInt 3000).toInt32) + y7 := ⟨_, rfl⟩
        refine pj_X_eqi hz17.symm ?_
        rw [← hz17, pj_nm_e]
        have fz17_0 : z17.toInt = ((Int16.ofInt 3000).toInt32).toInt + y7.toInt := by rw [hz17]; exact pj_addI (by have := pj_i32 ((Int16.ofInt 3000).toInt32); have := pj_i32 y7; omega) (by have := pj_i32 ((Int16.ofInt 3000).toInt32); have := pj_i32 y7; omega)
        have q18 : (pj_fi G15 2 4).toInt = y16.toInt := by rw [show pj_fi G15 2 4 = y16 from hy16.symm]
        refine pj_X_ca (vs := [.ref 27, .int z17]) rfl (fun _ => rfl) ⟨Nat.le_of_ble_eq_true rfl, Nat.le_of_ble_eq_true rfl, pj_T_rcv iG15 rfl⟩ ⟨rfl, rfl⟩ (pj_Y_up (by decide) (ct_60x G15 iG15 z17 (by omega))) ?_
        rintro _ G20 ⟨rfl, iG20, jG20, eG20, fy19⟩
        replace eG20 := eG20 _ rfl
        rw [← fy19, pj_nm_e]
        have kG20 : pj_kpt kc_62_1_3x G0 G20 := pj_kpt_t kG15 (pj_kpt_s jG20 rfl)
        have q21 : (pj_fi G20 2 4).toInt = (pj_fi G15 2 4).toInt := by rw [jG20.1 (2, 4) (by decide)]
        obtain ⟨y22, hy22⟩ : ∃ z : Int32, z = pj_fi G20 2 4 := ⟨_, rfl⟩
        have ey22 : (pj_fi G20 2 4).toInt = y22.toInt := by rw [hy22]
        have ry22 : (-1 : Int) ≤ y22.toInt ∧ y22.toInt ≤ 80 := by rw [hy22]; exact iG20.2.1 2 4 (-1, 80) rfl
        show pj_X _ _ G20 79 [(6, .int y7), (0, .ref 27), (1, .ref 2), (2, .int lv), (3, .int dp), (4, .int v4), (5, .int v5)] [] _
        refine pj_X_of (fun r h => pj_R_to (G20, 82, [(5, .int (v5 + Int32.ofInt 1)), (6, .int y7), (0, .ref 27), (1, .ref 2), (2, .int lv), (3, .int dp), (4, .int v4)], [], 0, 0) 82 2 (fun _ => rfl) h) ?_
        obtain ⟨z23, hz23⟩ : ∃ z : Int32, z = v5 + Int32.ofInt 1 := ⟨_, rfl⟩
        rw [← hz23]
        rw [pj_nm_e]
        have fz23_0 : z23.toInt = v5.toInt + (Int32.ofInt 1).toInt := by rw [hz23]; exact pj_addI (by have := pj_i32 v5; have := pj_i32 (Int32.ofInt 1); omega) (by have := pj_i32 v5; have := pj_i32 (Int32.ofInt 1); omega)
        refine pj_X_of (fun r h => pj_R_to (G20, 36, [(5, .int z23), (6, .int y7), (0, .ref 27), (1, .ref 2), (2, .int lv), (3, .int dp), (4, .int v4)], [], 0, 0) 36 2 (fun _ => rfl) h) ?_
        have q24 : (pj_fi G20 2 4).toInt = y22.toInt := by rw [show pj_fi G20 2 4 = y22 from hy22.symm]
        exact pj_X_sub [(0, .ref 27), (1, .ref 2), (2, .int lv), (3, .int dp), (4, .int v4), (5, .int z23)] (show List.Nodup [0, 1, 2, 3, 4, 5] by decide) ⟨rfl, rfl, rfl, rfl, rfl, rfl, trivial⟩ (ih G20 iG20 kG20 v4 z23 ⟨by omega, by omega⟩ ⟨by omega, by omega⟩ (by omega) (pr_kc_t (pr_kc_t (pr_kc_t x1_ (pr_kc_k jG8 rfl)) eG15.2) eG20) (by omega))
      | false =>
        rw [pj_cF]
        have ub11 := pj_u_neF b11
        refine pj_X_of (fun r h => pj_R_icF rfl b11 h) ?_
        have q25 : (pj_fi G8 2 4).toInt = y10.toInt := by rw [show pj_fi G8 2 4 = y10 from hy10.symm]
        exact pj_X_rt rfl rfl ⟨rfl, iG8, kG8, (fun H hH => by subst hH; exact (⟨by omega, (pr_kc_t x1_ (pr_kc_k jG8 rfl))⟩)), rfl⟩
theorem ct_62_1_3x (G0 : pj_G) (hI : pj_Inv G0) (lv : Int32) (dp : Int32) (rlv : (1 : Int) ≤ lv.toInt ∧ lv.toInt ≤ 1) (rdp : (3 : Int) ≤ dp.toInt ∧ dp.toInt ≤ 3) : pj_Y 27 62 [.ref 27, .ref 2, .int lv, .int dp] G0 (fun v' G' => v' = none ∧ pj_Inv G' ∧ pj_kpt kc_62_1_3x G0 G' ∧ (∀ H, G0 = H → (((¬ (pj_fi H 2 4).toInt = -1 → (pj_fi G' 2 4).toInt = (pj_fi H 2 4).toInt)) ∧ (pr_kc H G'))) ∧ (G' = F_62_1_3x G0 lv dp)) := by
  have c0_ : ((Int16.ofInt 3000).toInt32).toInt = 3000 := by decide
  have c1_ : ((Int8.ofInt 40).toInt32).toInt = 40 := by decide
  have c2_ : (Int32.ofInt (-1)).toInt = -1 := by decide
  have c3_ : (Int32.ofInt 0).toInt = 0 := by decide
  have c4_ : (Int32.ofInt 1).toInt = 1 := by decide
  have c5_ : (Int32.ofInt 2).toInt = 2 := by decide
  refine pj_Y_X (M := pj_m62) rfl rfl (Nat.le_of_ble_eq_true rfl) ?_
  have hK : pj_kpt kc_62_1_3x G0 G0 := pj_kpt_r _ _
  show pj_X _ _ G0 0 [(0, .ref 27), (1, .ref 2), (2, .int lv), (3, .int dp)] [] _
  rw [F_62_1_3x_e]
  obtain ⟨y26, hy26⟩ : ∃ z : Int32, z = pj_fi G0 2 4 := ⟨_, rfl⟩
  have ey26 : (pj_fi G0 2 4).toInt = y26.toInt := by rw [hy26]
  have ry26 : (-1 : Int) ≤ y26.toInt ∧ y26.toInt ≤ 80 := by rw [hy26]; exact hI.2.1 2 4 (-1, 80) rfl
  refine pj_X_of (fun r h => pj_R_to (G0, 2, [(0, .ref 27), (1, .ref 2), (2, .int lv), (3, .int dp)], [.int (Int32.ofInt 2), .int lv], 0, 0) 2 3 (fun _ => rfl) h) ?_
  refine pj_X_of (fun r h => pj_R_icT 12 rfl rfl (pj_b_leT (by omega)) h) ?_
  refine pj_X_of (fun r h => pj_R_to (G0, 17, [(0, .ref 27), (1, .ref 2), (2, .int lv), (3, .int dp)], [.int (lv + (Int32.ofInt 1)), .ref 2, .ref 27], 0, 0) 17 6 (fun _ => rfl) h) ?_
  obtain ⟨z27, hz27⟩ : ∃ z : Int32, z = lv + (Int32.ofInt 1) := ⟨_, rfl⟩
  refine pj_X_eqi hz27.symm ?_
  rw [← hz27, pj_nm_e]
  have fz27_0 : z27.toInt = lv.toInt + (Int32.ofInt 1).toInt := by rw [hz27]; exact pj_addI (by have := pj_i32 lv; have := pj_i32 (Int32.ofInt 1); omega) (by have := pj_i32 lv; have := pj_i32 (Int32.ofInt 1); omega)
  refine pj_X_of (fun r h => pj_R_to (G0, 18, [(0, .ref 27), (1, .ref 2), (2, .int lv), (3, .int dp)], [.int dp, .int z27, .ref 2, .ref 27], 0, 0) 18 2 (fun _ => rfl) h) ?_
  have q28 : (pj_fi G0 2 4).toInt = y26.toInt := by rw [show pj_fi G0 2 4 = y26 from hy26.symm]
  refine pj_X_ca (vs := [.ref 27, .ref 2, .int z27, .int dp]) rfl (fun _ => rfl) ⟨Nat.le_of_ble_eq_true rfl, Nat.le_of_ble_eq_true rfl, pj_T_rcv hI rfl⟩ ⟨rfl, rfl⟩ (pj_Y_up (by decide) (ct_62_2_3x G0 hI z27 dp ⟨by omega, by omega⟩ ⟨by omega, by omega⟩)) ?_
  rintro _ G30 ⟨rfl, iG30, jG30, eG30, fy29⟩
  replace eG30 := eG30 _ rfl
  rw [← fy29, pj_nm_e]
  have kG30 : pj_kpt kc_62_1_3x G0 G30 := pj_kpt_t hK (pj_kpt_s jG30 rfl)
  obtain ⟨y31, hy31⟩ : ∃ z : Int32, z = pj_fi G30 2 4 := ⟨_, rfl⟩
  have ey31 : (pj_fi G30 2 4).toInt = y31.toInt := by rw [hy31]
  have ry31 : (-1 : Int) ≤ y31.toInt ∧ y31.toInt ≤ 80 := by rw [hy31]; exact iG30.2.1 2 4 (-1, 80) rfl
  show pj_X _ _ G30 21 [(0, .ref 27), (1, .ref 2), (2, .int lv), (3, .int dp)] [] _
  refine pj_X_of (fun r h => pj_R_to (G30, 22, [(0, .ref 27), (1, .ref 2), (2, .int lv), (3, .int dp)], [.int lv], 0, 0) 22 2 (fun _ => rfl) h) ?_
  refine pj_X_of (fun r h => pj_R_ifT 29 rfl rfl (pj_b0_neT (by omega)) h) ?_
  refine pj_X_of (fun r h => pj_R_to (G30, 36, [(5, .int (Int32.ofInt 0)), (4, .int ((Int8.ofInt 40).toInt32)), (0, .ref 27), (1, .ref 2), (2, .int lv), (3, .int dp)], [], 0, 0) 36 5 (fun _ => rfl) h) ?_
  have q32 : (pj_fi G30 2 4).toInt = y31.toInt := by rw [show pj_fi G30 2 4 = y31 from hy31.symm]
  exact pj_X_sub [(0, .ref 27), (1, .ref 2), (2, .int lv), (3, .int dp), (4, .int ((Int8.ofInt 40).toInt32)), (5, .int (Int32.ofInt 0))] (show List.Nodup [0, 1, 2, 3, 4, 5] by decide) ⟨rfl, rfl, rfl, rfl, rfl, rfl, trivial⟩ ((lp_ct_62_1_3x G0 hI lv dp rlv rdp 41) G30 iG30 kG30 ((Int8.ofInt 40).toInt32) (Int32.ofInt 0) ⟨by omega, by omega⟩ ⟨by omega, by omega⟩ (by omega) eG30.2 (by omega))
theorem fr_62_1_3x (G0 : pj_G) (hI : pj_Inv G0) (lv : Int32) (dp : Int32) (rlv : (1 : Int) ≤ lv.toInt ∧ lv.toInt ≤ 1) (rdp : (3 : Int) ≤ dp.toInt ∧ dp.toInt ≤ 3) : pj_Inv (F_62_1_3x G0 lv dp) ∧ pj_kpt kc_62_1_3x G0 (F_62_1_3x G0 lv dp) ∧ (((¬ (pj_fi G0 2 4).toInt = -1 → (pj_fi (F_62_1_3x G0 lv dp) 2 4).toInt = (pj_fi G0 2 4).toInt)) ∧ (pr_kc G0 (F_62_1_3x G0 lv dp))) := by
  obtain ⟨v, G', -, -, i, j, x, e⟩ := ct_62_1_3x G0 hI lv dp rlv rdp
  rw [← e]
  exact ⟨i, j, x _ rfl⟩
def kc_62_0_3x : pj_KT := ([(2, 3), (2, 4), (27, 3)], [2, 27, 28, 29], [28, 29])
noncomputable def L_62_0_3x (G0 : pj_G) (lv : Int32) (dp : Int32) (fu : Nat) : Int32 → Int32 → pj_G → pj_G := Nat.rec (motive := fun _ => Int32 → Int32 → pj_G → pj_G) (fun _ _ G => G) (fun _ ih v4 v5 G => cond (pj_c1 .ge v5 v4) (G) (pj_bd (F_84_s5x G) (fun y7 G8 => cond (pj_c1 .ne y7 (Int32.ofInt (-1))) (pj_nm (lv + (Int32.ofInt 1)) (fun z12 => pj_nm (F_62_1_3x G8 z12 dp) (fun G15 => pj_nm (((Int16.ofInt 3000).toInt32) + y7) (fun z17 => pj_nm (F_60x G15 z17) (fun G20 => pj_nm (v5 + Int32.ofInt 1) (fun z23 => ih v4 z23 G20)))))) (G8)))) fu
theorem L_62_0_3x_s0 (G0 : pj_G) (lv : Int32) (dp : Int32) (fu : Nat) (v4 : Int32) (v5 : Int32) (G : pj_G) : L_62_0_3x G0 lv dp (fu + 1) v4 v5 G = cond (pj_c1 .ge v5 v4) (G) (pj_bd (F_84_s5x G) (fun y7 G8 => cond (pj_c1 .ne y7 (Int32.ofInt (-1))) (pj_nm (lv + (Int32.ofInt 1)) (fun z12 => pj_nm (F_62_1_3x G8 z12 dp) (fun G15 => pj_nm (((Int16.ofInt 3000).toInt32) + y7) (fun z17 => pj_nm (F_60x G15 z17) (fun G20 => pj_nm (v5 + Int32.ofInt 1) (fun z23 => L_62_0_3x G0 lv dp fu v4 z23 G20)))))) (G8))) := rfl
noncomputable def F_62_0_3x (G0 : pj_G) (lv : Int32) (dp : Int32) : pj_G := pj_nm (lv + (Int32.ofInt 1)) (fun z27 => pj_nm (F_62_1_3x G0 z27 dp) (fun G30 => L_62_0_3x G0 lv dp 41 (Int32.ofInt 1) (Int32.ofInt 0) G30))
theorem F_62_0_3x_e (G0 : pj_G) (lv : Int32) (dp : Int32) : F_62_0_3x G0 lv dp = pj_nm (lv + (Int32.ofInt 1)) (fun z27 => pj_nm (F_62_1_3x G0 z27 dp) (fun G30 => L_62_0_3x G0 lv dp 41 (Int32.ofInt 1) (Int32.ofInt 0) G30)) := rfl
theorem lp_ct_62_0_3x (G0 : pj_G) (hI0 : pj_Inv G0) (lv : Int32) (dp : Int32) (rlv : (0 : Int) ≤ lv.toInt ∧ lv.toInt ≤ 0) (rdp : (3 : Int) ≤ dp.toInt ∧ dp.toInt ≤ 3) : ∀ mn : Nat, (∀ (G : pj_G) (hI : pj_Inv G) (hK : pj_kpt kc_62_0_3x G0 G) (v4 : Int32) (v5 : Int32), ((1 : Int) ≤ v4.toInt ∧ v4.toInt ≤ 40) → ((0 : Int) ≤ v5.toInt ∧ v5.toInt ≤ 40) → (¬ (pj_fi G0 2 4).toInt = -1 → (pj_fi G 2 4).toInt = (pj_fi G0 2 4).toInt) → (pr_kc G0 G) → 40 - v5.toInt < (mn : Int) → pj_X 27 pj_m62 G 36 [(0, .ref 27), (1, .ref 2), (2, .int lv), (3, .int dp), (4, .int v4), (5, .int v5)] [] (fun v' G' => v' = none ∧ pj_Inv G' ∧ pj_kpt kc_62_0_3x G0 G' ∧ (∀ H, G0 = H → (((¬ (pj_fi H 2 4).toInt = -1 → (pj_fi G' 2 4).toInt = (pj_fi H 2 4).toInt)) ∧ (pr_kc H G'))) ∧ (G' = L_62_0_3x G0 lv dp mn v4 v5 G))) := by
  have c0_ : ((Int16.ofInt 3000).toInt32).toInt = 3000 := by decide
  have c1_ : (Int32.ofInt (-1)).toInt = -1 := by decide
  have c2_ : (Int32.ofInt 0).toInt = 0 := by decide
  have c3_ : (Int32.ofInt 1).toInt = 1 := by decide
  have c4_ : (Int32.ofInt 2).toInt = 2 := by decide
  intro mn
  induction mn with
  | zero =>
    intro G hI hK v4 v5 rv4 rv5 x0_ x1_ hm
    exfalso
    omega
  | succ mn ih =>
    intro G hI hK v4 v5 rv4 rv5 x0_ x1_ hm
    rw [L_62_0_3x_s0]
    obtain ⟨y1, hy1⟩ : ∃ z : Int32, z = pj_fi G 2 4 := ⟨_, rfl⟩
    have ey1 : (pj_fi G 2 4).toInt = y1.toInt := by rw [hy1]
    have ry1 : (-1 : Int) ≤ y1.toInt ∧ y1.toInt ≤ 80 := by rw [hy1]; exact hI.2.1 2 4 (-1, 80) rfl
    refine pj_X_of (fun r h => pj_R_to (G, 40, [(0, .ref 27), (1, .ref 2), (2, .int lv), (3, .int dp), (4, .int v4), (5, .int v5)], [.int v4, .int v5], 0, 0) 40 3 (fun _ => rfl) h) ?_
    cases b2 : pj_c1 .ge v5 v4 with
    | true =>
      rw [pj_cT]
      have ub2 := pj_u_geT b2
      refine pj_X_of (fun r h => pj_R_icT 85 rfl rfl b2 h) ?_
      have q3 : (pj_fi G 2 4).toInt = y1.toInt := by rw [show pj_fi G 2 4 = y1 from hy1.symm]
      exact pj_X_rt rfl rfl ⟨rfl, hI, hK, (fun H hH => by subst hH; exact (⟨by omega, x1_⟩)), rfl⟩
    | false =>
      rw [pj_cF]
      have ub2 := pj_u_geF b2
      refine pj_X_of (fun r h => pj_R_icF rfl b2 h) ?_
      refine pj_X_of (fun r h => pj_R_to (G, 45, [(0, .ref 27), (1, .ref 2), (2, .int lv), (3, .int dp), (4, .int v4), (5, .int v5)], [.int lv, .ref 2], 0, 0) 45 3 (fun _ => rfl) h) ?_
      have q4 : (pj_fi G 2 4).toInt = y1.toInt := by rw [show pj_fi G 2 4 = y1 from hy1.symm]
      refine pj_X_ca (vs := [.int lv]) rfl (fun _ => rfl) ⟨Nat.le_of_ble_eq_true rfl, Nat.le_of_ble_eq_true rfl, rfl⟩ ⟨rfl, rfl⟩ (pj_Y_up (by decide) (ct_61_0 G hI lv ⟨by omega, by omega⟩)) ?_
      rintro _ _ ⟨rfl, rfl⟩
      show pj_X _ _ G 48 [(0, .ref 27), (1, .ref 2), (2, .int lv), (3, .int dp), (4, .int v4), (5, .int v5)] [.retAddr 5, .ref 2] _
      have q6 : (pj_fi G 2 4).toInt = y1.toInt := by rw [show pj_fi G 2 4 = y1 from hy1.symm]
      refine pj_X_ca (vs := [.ref 2, .retAddr 5]) rfl (fun _ => rfl) ⟨Nat.le_of_ble_eq_true rfl, Nat.le_of_ble_eq_true rfl, pj_T_rcv hI rfl⟩ ⟨rfl, rfl⟩ (pj_Y_up (by decide) (ct_84_s5x G hI)) ?_
      rintro _ G8 ⟨y7, rfl, iG8, jG8, ry7, ey7, fy7⟩
      replace ey7 := ey7 _ rfl
      rw [← fy7, pj_bd_e]
      have kG8 : pj_kpt kc_62_0_3x G0 G8 := pj_kpt_t hK (pj_kpt_s jG8 rfl)
      have q9 : (pj_fi G8 2 4).toInt = (pj_fi G 2 4).toInt := by rw [jG8.1 (2, 4) (by decide)]
      obtain ⟨y10, hy10⟩ : ∃ z : Int32, z = pj_fi G8 2 4 := ⟨_, rfl⟩
      have ey10 : (pj_fi G8 2 4).toInt = y10.toInt := by rw [hy10]
      have ry10 : (-1 : Int) ≤ y10.toInt ∧ y10.toInt ≤ 80 := by rw [hy10]; exact iG8.2.1 2 4 (-1, 80) rfl
      show pj_X _ _ G8 51 [(0, .ref 27), (1, .ref 2), (2, .int lv), (3, .int dp), (4, .int v4), (5, .int v5)] [.int y7] _
      refine pj_X_of (fun r h => pj_R_to (G8, 56, [(6, .int y7), (0, .ref 27), (1, .ref 2), (2, .int lv), (3, .int dp), (4, .int v4), (5, .int v5)], [.int (Int32.ofInt (-1)), .int y7], 0, 0) 56 4 (fun _ => rfl) h) ?_
      cases b11 : pj_c1 .ne y7 (Int32.ofInt (-1)) with
      | true =>
        rw [pj_cT]
        have ub11 := pj_u_neT b11
        refine pj_X_of (fun r h => pj_R_icT 60 rfl rfl b11 h) ?_
        refine pj_X_of (fun r h => pj_R_to (G8, 65, [(6, .int y7), (0, .ref 27), (1, .ref 2), (2, .int lv), (3, .int dp), (4, .int v4), (5, .int v5)], [.int (lv + (Int32.ofInt 1)), .ref 2, .ref 27], 0, 0) 65 6 (fun _ => rfl) h) ?_
        obtain ⟨z12, hz12⟩ : ∃ z : Int32, z = lv + (Int32.ofInt 1) := ⟨_, rfl⟩
        refine pj_X_eqi hz12.symm ?_
        rw [← hz12, pj_nm_e]
        have fz12_0 : z12.toInt = lv.toInt + (Int32.ofInt 1).toInt := by rw [hz12]; exact pj_addI (by have := pj_i32 lv; have := pj_i32 (Int32.ofInt 1); omega) (by have := pj_i32 lv; have := pj_i32 (Int32.ofInt 1); omega)
        refine pj_X_of (fun r h => pj_R_to (G8, 66, [(6, .int y7), (0, .ref 27), (1, .ref 2), (2, .int lv), (3, .int dp), (4, .int v4), (5, .int v5)], [.int dp, .int z12, .ref 2, .ref 27], 0, 0) 66 2 (fun _ => rfl) h) ?_
        have q13 : (pj_fi G8 2 4).toInt = y10.toInt := by rw [show pj_fi G8 2 4 = y10 from hy10.symm]
        refine pj_X_ca (vs := [.ref 27, .ref 2, .int z12, .int dp]) rfl (fun _ => rfl) ⟨Nat.le_of_ble_eq_true rfl, Nat.le_of_ble_eq_true rfl, pj_T_rcv iG8 rfl⟩ ⟨rfl, rfl⟩ (pj_Y_up (by decide) (ct_62_1_3x G8 iG8 z12 dp ⟨by omega, by omega⟩ ⟨by omega, by omega⟩)) ?_
        rintro _ G15 ⟨rfl, iG15, jG15, eG15, fy14⟩
        replace eG15 := eG15 _ rfl
        rw [← fy14, pj_nm_e]
        have kG15 : pj_kpt kc_62_0_3x G0 G15 := pj_kpt_t kG8 (pj_kpt_s jG15 rfl)
        obtain ⟨y16, hy16⟩ : ∃ z : Int32, z = pj_fi G15 2 4 := ⟨_, rfl⟩
        have ey16 : (pj_fi G15 2 4).toInt = y16.toInt := by rw [hy16]
        have ry16 : (-1 : Int) ≤ y16.toInt ∧ y16.toInt ≤ 80 := by rw [hy16]; exact iG15.2.1 2 4 (-1, 80) rfl
        show pj_X _ _ G15 69 [(6, .int y7), (0, .ref 27), (1, .ref 2), (2, .int lv), (3, .int dp), (4, .int v4), (5, .int v5)] [] _
        refine pj_X_of (fun r h => pj_R_to (G15, 76, [(6, .int y7), (0, .ref 27), (1, .ref 2), (2, .int lv), (3, .int dp), (4, .int v4), (5, .int v5)], [.int (((Int16.ofInt 3000).toInt32) + y7), .ref 27], 0, 0) 76 5 (fun _ => rfl) h) ?_
        obtain ⟨z17, hz17⟩ : ∃ z : Int32, z = ((Int16.ofInt 3000).toInt32) + y7 := ⟨_, rfl⟩
        refine pj_X_eqi hz17.symm ?_
        rw [← hz17, pj_nm_e]
        have fz17_0 : z17.toInt = ((Int16.ofInt 3000).toInt32).toInt + y7.toInt := by rw [hz17]; exact pj_addI (by have := pj_i32 ((Int16.ofInt 3000).toInt32); have := pj_i32 y7; omega) (by have := pj_i32 ((Int16.ofInt 3000).toInt32); have := pj_i32 y7; omega)
        have q18 : (pj_fi G15 2 4).toInt = y16.toInt := by rw [show pj_fi G15 2 4 = y16 from hy16.symm]
        refine pj_X_ca (vs := [.ref 27, .int z17]) rfl (fun _ => rfl) ⟨Nat.le_of_ble_eq_true rfl, Nat.le_of_ble_eq_true rfl, pj_T_rcv iG15 rfl⟩ ⟨rfl, rfl⟩ (pj_Y_up (by decide) (ct_60x G15 iG15 z17 (by omega))) ?_
        rintro _ G20 ⟨rfl, iG20, jG20, eG20, fy19⟩
        replace eG20 := eG20 _ rfl
        rw [← fy19, pj_nm_e]
        have kG20 : pj_kpt kc_62_0_3x G0 G20 := pj_kpt_t kG15 (pj_kpt_s jG20 rfl)
        have q21 : (pj_fi G20 2 4).toInt = (pj_fi G15 2 4).toInt := by rw [jG20.1 (2, 4) (by decide)]
        obtain ⟨y22, hy22⟩ : ∃ z : Int32, z = pj_fi G20 2 4 := ⟨_, rfl⟩
        have ey22 : (pj_fi G20 2 4).toInt = y22.toInt := by rw [hy22]
        have ry22 : (-1 : Int) ≤ y22.toInt ∧ y22.toInt ≤ 80 := by rw [hy22]; exact iG20.2.1 2 4 (-1, 80) rfl
        show pj_X _ _ G20 79 [(6, .int y7), (0, .ref 27), (1, .ref 2), (2, .int lv), (3, .int dp), (4, .int v4), (5, .int v5)] [] _
        refine pj_X_of (fun r h => pj_R_to (G20, 82, [(5, .int (v5 + Int32.ofInt 1)), (6, .int y7), (0, .ref 27), (1, .ref 2), (2, .int lv), (3, .int dp), (4, .int v4)], [], 0, 0) 82 2 (fun _ => rfl) h) ?_
        obtain ⟨z23, hz23⟩ : ∃ z : Int32, z = v5 + Int32.ofInt 1 := ⟨_, rfl⟩
        rw [← hz23]
        rw [pj_nm_e]
        have fz23_0 : z23.toInt = v5.toInt + (Int32.ofInt 1).toInt := by rw [hz23]; exact pj_addI (by have := pj_i32 v5; have := pj_i32 (Int32.ofInt 1); omega) (by have := pj_i32 v5; have := pj_i32 (Int32.ofInt 1); omega)
        refine pj_X_of (fun r h => pj_R_to (G20, 36, [(5, .int z23), (6, .int y7), (0, .ref 27), (1, .ref 2), (2, .int lv), (3, .int dp), (4, .int v4)], [], 0, 0) 36 2 (fun _ => rfl) h) ?_
        have q24 : (pj_fi G20 2 4).toInt = y22.toInt := by rw [show pj_fi G20 2 4 = y22 from hy22.symm]
        exact pj_X_sub [(0, .ref 27), (1, .ref 2), (2, .int lv), (3, .int dp), (4, .int v4), (5, .int z23)] (show List.Nodup [0, 1, 2, 3, 4, 5] by decide) ⟨rfl, rfl, rfl, rfl, rfl, rfl, trivial⟩ (ih G20 iG20 kG20 v4 z23 ⟨by omega, by omega⟩ ⟨by omega, by omega⟩ (by omega) (pr_kc_t (pr_kc_t (pr_kc_t x1_ (pr_kc_k jG8 rfl)) eG15.2) eG20) (by omega))
      | false =>
        rw [pj_cF]
        have ub11 := pj_u_neF b11
        refine pj_X_of (fun r h => pj_R_icF rfl b11 h) ?_
        have q25 : (pj_fi G8 2 4).toInt = y10.toInt := by rw [show pj_fi G8 2 4 = y10 from hy10.symm]
        exact pj_X_rt rfl rfl ⟨rfl, iG8, kG8, (fun H hH => by subst hH; exact (⟨by omega, (pr_kc_t x1_ (pr_kc_k jG8 rfl))⟩)), rfl⟩
theorem ct_62_0_3x (G0 : pj_G) (hI : pj_Inv G0) (lv : Int32) (dp : Int32) (rlv : (0 : Int) ≤ lv.toInt ∧ lv.toInt ≤ 0) (rdp : (3 : Int) ≤ dp.toInt ∧ dp.toInt ≤ 3) : pj_Y 28 62 [.ref 27, .ref 2, .int lv, .int dp] G0 (fun v' G' => v' = none ∧ pj_Inv G' ∧ pj_kpt kc_62_0_3x G0 G' ∧ (∀ H, G0 = H → (((¬ (pj_fi H 2 4).toInt = -1 → (pj_fi G' 2 4).toInt = (pj_fi H 2 4).toInt)) ∧ (pr_kc H G'))) ∧ (G' = F_62_0_3x G0 lv dp)) := by
  have c0_ : ((Int16.ofInt 3000).toInt32).toInt = 3000 := by decide
  have c1_ : (Int32.ofInt (-1)).toInt = -1 := by decide
  have c2_ : (Int32.ofInt 0).toInt = 0 := by decide
  have c3_ : (Int32.ofInt 1).toInt = 1 := by decide
  have c4_ : (Int32.ofInt 2).toInt = 2 := by decide
  refine pj_Y_X (M := pj_m62) rfl rfl (Nat.le_of_ble_eq_true rfl) ?_
  have hK : pj_kpt kc_62_0_3x G0 G0 := pj_kpt_r _ _
  show pj_X _ _ G0 0 [(0, .ref 27), (1, .ref 2), (2, .int lv), (3, .int dp)] [] _
  rw [F_62_0_3x_e]
  obtain ⟨y26, hy26⟩ : ∃ z : Int32, z = pj_fi G0 2 4 := ⟨_, rfl⟩
  have ey26 : (pj_fi G0 2 4).toInt = y26.toInt := by rw [hy26]
  have ry26 : (-1 : Int) ≤ y26.toInt ∧ y26.toInt ≤ 80 := by rw [hy26]; exact hI.2.1 2 4 (-1, 80) rfl
  refine pj_X_of (fun r h => pj_R_to (G0, 2, [(0, .ref 27), (1, .ref 2), (2, .int lv), (3, .int dp)], [.int (Int32.ofInt 2), .int lv], 0, 0) 2 3 (fun _ => rfl) h) ?_
  refine pj_X_of (fun r h => pj_R_icT 12 rfl rfl (pj_b_leT (by omega)) h) ?_
  refine pj_X_of (fun r h => pj_R_to (G0, 17, [(0, .ref 27), (1, .ref 2), (2, .int lv), (3, .int dp)], [.int (lv + (Int32.ofInt 1)), .ref 2, .ref 27], 0, 0) 17 6 (fun _ => rfl) h) ?_
  obtain ⟨z27, hz27⟩ : ∃ z : Int32, z = lv + (Int32.ofInt 1) := ⟨_, rfl⟩
  refine pj_X_eqi hz27.symm ?_
  rw [← hz27, pj_nm_e]
  have fz27_0 : z27.toInt = lv.toInt + (Int32.ofInt 1).toInt := by rw [hz27]; exact pj_addI (by have := pj_i32 lv; have := pj_i32 (Int32.ofInt 1); omega) (by have := pj_i32 lv; have := pj_i32 (Int32.ofInt 1); omega)
  refine pj_X_of (fun r h => pj_R_to (G0, 18, [(0, .ref 27), (1, .ref 2), (2, .int lv), (3, .int dp)], [.int dp, .int z27, .ref 2, .ref 27], 0, 0) 18 2 (fun _ => rfl) h) ?_
  have q28 : (pj_fi G0 2 4).toInt = y26.toInt := by rw [show pj_fi G0 2 4 = y26 from hy26.symm]
  refine pj_X_ca (vs := [.ref 27, .ref 2, .int z27, .int dp]) rfl (fun _ => rfl) ⟨Nat.le_of_ble_eq_true rfl, Nat.le_of_ble_eq_true rfl, pj_T_rcv hI rfl⟩ ⟨rfl, rfl⟩ (pj_Y_up (by decide) (ct_62_1_3x G0 hI z27 dp ⟨by omega, by omega⟩ ⟨by omega, by omega⟩)) ?_
  rintro _ G30 ⟨rfl, iG30, jG30, eG30, fy29⟩
  replace eG30 := eG30 _ rfl
  rw [← fy29, pj_nm_e]
  have kG30 : pj_kpt kc_62_0_3x G0 G30 := pj_kpt_t hK (pj_kpt_s jG30 rfl)
  obtain ⟨y31, hy31⟩ : ∃ z : Int32, z = pj_fi G30 2 4 := ⟨_, rfl⟩
  have ey31 : (pj_fi G30 2 4).toInt = y31.toInt := by rw [hy31]
  have ry31 : (-1 : Int) ≤ y31.toInt ∧ y31.toInt ≤ 80 := by rw [hy31]; exact iG30.2.1 2 4 (-1, 80) rfl
  show pj_X _ _ G30 21 [(0, .ref 27), (1, .ref 2), (2, .int lv), (3, .int dp)] [] _
  refine pj_X_of (fun r h => pj_R_to (G30, 22, [(0, .ref 27), (1, .ref 2), (2, .int lv), (3, .int dp)], [.int lv], 0, 0) 22 2 (fun _ => rfl) h) ?_
  refine pj_X_of (fun r h => pj_R_ifF rfl (pj_b0_neF (by omega)) h) ?_
  refine pj_X_of (fun r h => pj_R_to (G30, 36, [(5, .int (Int32.ofInt 0)), (4, .int (Int32.ofInt 1)), (0, .ref 27), (1, .ref 2), (2, .int lv), (3, .int dp)], [], 0, 0) 36 6 (fun _ => rfl) h) ?_
  have q32 : (pj_fi G30 2 4).toInt = y31.toInt := by rw [show pj_fi G30 2 4 = y31 from hy31.symm]
  exact pj_X_sub [(0, .ref 27), (1, .ref 2), (2, .int lv), (3, .int dp), (4, .int (Int32.ofInt 1)), (5, .int (Int32.ofInt 0))] (show List.Nodup [0, 1, 2, 3, 4, 5] by decide) ⟨rfl, rfl, rfl, rfl, rfl, rfl, trivial⟩ ((lp_ct_62_0_3x G0 hI lv dp rlv rdp 41) G30 iG30 kG30 (Int32.ofInt 1) (Int32.ofInt 0) ⟨by omega, by omega⟩ ⟨by omega, by omega⟩ (by omega) eG30.2 (by omega))
theorem fr_62_0_3x (G0 : pj_G) (hI : pj_Inv G0) (lv : Int32) (dp : Int32) (rlv : (0 : Int) ≤ lv.toInt ∧ lv.toInt ≤ 0) (rdp : (3 : Int) ≤ dp.toInt ∧ dp.toInt ≤ 3) : pj_Inv (F_62_0_3x G0 lv dp) ∧ pj_kpt kc_62_0_3x G0 (F_62_0_3x G0 lv dp) ∧ (((¬ (pj_fi G0 2 4).toInt = -1 → (pj_fi (F_62_0_3x G0 lv dp) 2 4).toInt = (pj_fi G0 2 4).toInt)) ∧ (pr_kc G0 (F_62_0_3x G0 lv dp))) := by
  obtain ⟨v, G', -, -, i, j, x, e⟩ := ct_62_0_3x G0 hI lv dp rlv rdp
  rw [← e]
  exact ⟨i, j, x _ rfl⟩
def kc_64_2x : pj_KT := ([(2, 3), (2, 4), (27, 3)], [2, 27, 28, 29], [28, 29])
noncomputable def F_64_2x (G0 : pj_G) (dp : Int32) : pj_G := pj_nm (F_85x G0) (fun y3 => cond (pj_c1 .eq y3 0) (pj_bd (F_82x G0 ((Int8.ofInt 40).toInt32)) (fun y6 G7 => cond (pj_c1 .eq y6 0) (pj_bd (F_84_s8x G7) (fun y12 G13 => cond (pj_c1 .ne y12 (Int32.ofInt (-1))) (pj_nm ((y12.toUInt32 % 65536).toInt32) (fun z17 => pj_nm (F_291_s8x G13 z17) (fun y19 => pj_nm (((Int16.ofInt 1000).toInt32) + y19) (fun z20 => pj_nm (F_60x G13 z20) (fun G23 => G23))))) (pj_nm (F_81x G13) (fun G29 => G29)))) (pj_nm (dp + (Int32.ofInt 1)) (fun z32 => pj_nm (F_62_0_3x G7 (Int32.ofInt 0) z32) (fun G35 => pj_bd (F_83x G35 ((Int8.ofInt 41).toInt32) ((Int8.ofInt 41).toInt32)) (fun y38 G39 => G39)))))) (pj_bd (F_86x G0 (Int32.ofInt 3)) (fun y43 G44 => pj_nm (F_60x G44 y43) (fun G48 => G48))))
theorem F_64_2x_e (G0 : pj_G) (dp : Int32) : F_64_2x G0 dp = pj_nm (F_85x G0) (fun y3 => cond (pj_c1 .eq y3 0) (pj_bd (F_82x G0 ((Int8.ofInt 40).toInt32)) (fun y6 G7 => cond (pj_c1 .eq y6 0) (pj_bd (F_84_s8x G7) (fun y12 G13 => cond (pj_c1 .ne y12 (Int32.ofInt (-1))) (pj_nm ((y12.toUInt32 % 65536).toInt32) (fun z17 => pj_nm (F_291_s8x G13 z17) (fun y19 => pj_nm (((Int16.ofInt 1000).toInt32) + y19) (fun z20 => pj_nm (F_60x G13 z20) (fun G23 => G23))))) (pj_nm (F_81x G13) (fun G29 => G29)))) (pj_nm (dp + (Int32.ofInt 1)) (fun z32 => pj_nm (F_62_0_3x G7 (Int32.ofInt 0) z32) (fun G35 => pj_bd (F_83x G35 ((Int8.ofInt 41).toInt32) ((Int8.ofInt 41).toInt32)) (fun y38 G39 => G39)))))) (pj_bd (F_86x G0 (Int32.ofInt 3)) (fun y43 G44 => pj_nm (F_60x G44 y43) (fun G48 => G48)))) := rfl
theorem ct_64_2x (G0 : pj_G) (hI : pj_Inv G0) (dp : Int32) (rdp : (2 : Int) ≤ dp.toInt ∧ dp.toInt ≤ 2) : pj_Y 29 64 [.ref 27, .ref 2, .int dp] G0 (fun v' G' => v' = none ∧ pj_Inv G' ∧ pj_kpt kc_64_2x G0 G' ∧ (∀ H, G0 = H → (((¬ (pj_fi H 2 4).toInt = -1 → (pj_fi G' 2 4).toInt = (pj_fi H 2 4).toInt)) ∧ (pr_kc H G'))) ∧ (G' = F_64_2x G0 dp)) := by
  have c0_ : ((Int16.ofInt 1000).toInt32).toInt = 1000 := by decide
  have c1_ : ((Int8.ofInt 40).toInt32).toInt = 40 := by decide
  have c2_ : ((Int8.ofInt 41).toInt32).toInt = 41 := by decide
  have c3_ : (Int32.ofInt (-1)).toInt = -1 := by decide
  have c4_ : (Int32.ofInt 0).toInt = 0 := by decide
  have c5_ : (Int32.ofInt 1).toInt = 1 := by decide
  have c6_ : (Int32.ofInt 3).toInt = 3 := by decide
  have c7_ : (Int32.ofInt 4).toInt = 4 := by decide
  refine pj_Y_X (M := pj_m64) rfl rfl (Nat.le_of_ble_eq_true rfl) ?_
  have hK : pj_kpt kc_64_2x G0 G0 := pj_kpt_r _ _
  show pj_X _ _ G0 0 [(0, .ref 27), (1, .ref 2), (2, .int dp)] [] _
  rw [F_64_2x_e]
  obtain ⟨y1, hy1⟩ : ∃ z : Int32, z = pj_fi G0 2 4 := ⟨_, rfl⟩
  have ey1 : (pj_fi G0 2 4).toInt = y1.toInt := by rw [hy1]
  have ry1 : (-1 : Int) ≤ y1.toInt ∧ y1.toInt ≤ 80 := by rw [hy1]; exact hI.2.1 2 4 (-1, 80) rfl
  refine pj_X_of (fun r h => pj_R_to (G0, 1, [(0, .ref 27), (1, .ref 2), (2, .int dp)], [.ref 2], 0, 0) 1 2 (fun _ => rfl) h) ?_
  have q2 : (pj_fi G0 2 4).toInt = y1.toInt := by rw [show pj_fi G0 2 4 = y1 from hy1.symm]
  refine pj_X_ca (vs := [.ref 2]) rfl (fun _ => rfl) ⟨Nat.le_of_ble_eq_true rfl, Nat.le_of_ble_eq_true rfl, pj_T_rcv hI rfl⟩ ⟨rfl, rfl⟩ (pj_Y_up (by decide) (ct_85x G0 hI)) ?_
  rintro _ _ ⟨y3, rfl, rfl, ry3, ey3, fy3⟩
  replace ey3 := ey3 _ rfl
  rw [← fy3, pj_nm_e]
  show pj_X _ _ G0 4 [(0, .ref 27), (1, .ref 2), (2, .int dp)] [.int y3] _
  cases b4 : pj_c1 .eq y3 0 with
  | true =>
    rw [pj_cT]
    have ub4 := pj_u0_eqT b4
    refine pj_X_of (fun r h => pj_R_ifT 19 rfl rfl b4 h) ?_
    refine pj_X_of (fun r h => pj_R_to (G0, 21, [(0, .ref 27), (1, .ref 2), (2, .int dp)], [.int (Int32.ofInt 4), .int dp], 0, 0) 21 3 (fun _ => rfl) h) ?_
    refine pj_X_of (fun r h => pj_R_icF rfl (pj_b_geF (by omega)) h) ?_
    refine pj_X_of (fun r h => pj_R_to (G0, 27, [(0, .ref 27), (1, .ref 2), (2, .int dp)], [.int ((Int8.ofInt 40).toInt32), .ref 2], 0, 0) 27 3 (fun _ => rfl) h) ?_
    have q5 : (pj_fi G0 2 4).toInt = y1.toInt := by rw [show pj_fi G0 2 4 = y1 from hy1.symm]
    refine pj_X_ca (vs := [.ref 2, .int ((Int8.ofInt 40).toInt32)]) rfl (fun _ => rfl) ⟨Nat.le_of_ble_eq_true rfl, Nat.le_of_ble_eq_true rfl, pj_T_rcv hI rfl⟩ ⟨rfl, rfl⟩ (pj_Y_up (by decide) (ct_82x G0 hI ((Int8.ofInt 40).toInt32) ⟨by omega, by omega⟩)) ?_
    rintro _ G7 ⟨y6, rfl, iG7, jG7, ry6, ey6, fy6⟩
    replace ey6 := ey6 _ rfl
    rw [← fy6, pj_bd_e]
    have kG7 : pj_kpt kc_64_2x G0 G7 := pj_kpt_t hK (pj_kpt_s jG7 rfl)
    have q8 : (pj_fi G7 2 4).toInt = (pj_fi G0 2 4).toInt := by rw [jG7.1 (2, 4) (by decide)]
    obtain ⟨y9, hy9⟩ : ∃ z : Int32, z = pj_fi G7 2 4 := ⟨_, rfl⟩
    have ey9 : (pj_fi G7 2 4).toInt = y9.toInt := by rw [hy9]
    have ry9 : (-1 : Int) ≤ y9.toInt ∧ y9.toInt ≤ 80 := by rw [hy9]; exact iG7.2.1 2 4 (-1, 80) rfl
    show pj_X _ _ G7 30 [(0, .ref 27), (1, .ref 2), (2, .int dp)] [.int y6] _
    cases b10 : pj_c1 .eq y6 0 with
    | true =>
      rw [pj_cT]
      have ub10 := pj_u0_eqT b10
      refine pj_X_of (fun r h => pj_R_ifT 54 rfl rfl b10 h) ?_
      refine pj_X_of (fun r h => pj_R_to (G7, 57, [(0, .ref 27), (1, .ref 2), (2, .int dp)], [.retAddr 8, .ref 2], 0, 0) 57 3 (fun _ => rfl) h) ?_
      have q11 : (pj_fi G7 2 4).toInt = y9.toInt := by rw [show pj_fi G7 2 4 = y9 from hy9.symm]
      refine pj_X_ca (vs := [.ref 2, .retAddr 8]) rfl (fun _ => rfl) ⟨Nat.le_of_ble_eq_true rfl, Nat.le_of_ble_eq_true rfl, pj_T_rcv iG7 rfl⟩ ⟨rfl, rfl⟩ (pj_Y_up (by decide) (ct_84_s8x G7 iG7)) ?_
      rintro _ G13 ⟨y12, rfl, iG13, jG13, ry12, ey12, fy12⟩
      replace ey12 := ey12 _ rfl
      rw [← fy12, pj_bd_e]
      have kG13 : pj_kpt kc_64_2x G0 G13 := pj_kpt_t kG7 (pj_kpt_s jG13 rfl)
      have q14 : (pj_fi G13 2 4).toInt = (pj_fi G7 2 4).toInt := by rw [jG13.1 (2, 4) (by decide)]
      obtain ⟨y15, hy15⟩ : ∃ z : Int32, z = pj_fi G13 2 4 := ⟨_, rfl⟩
      have ey15 : (pj_fi G13 2 4).toInt = y15.toInt := by rw [hy15]
      have ry15 : (-1 : Int) ≤ y15.toInt ∧ y15.toInt ≤ 80 := by rw [hy15]; exact iG13.2.1 2 4 (-1, 80) rfl
      show pj_X _ _ G13 60 [(0, .ref 27), (1, .ref 2), (2, .int dp)] [.int y12] _
      refine pj_X_of (fun r h => pj_R_to (G13, 63, [(3, .int y12), (0, .ref 27), (1, .ref 2), (2, .int dp)], [.int (Int32.ofInt (-1)), .int y12], 0, 0) 63 4 (fun _ => rfl) h) ?_
      cases b16 : pj_c1 .ne y12 (Int32.ofInt (-1)) with
      | true =>
        rw [pj_cT]
        have ub16 := pj_u_neT b16
        refine pj_X_of (fun r h => pj_R_icT 73 rfl rfl b16 h) ?_
        refine pj_X_of (fun r h => pj_R_to (G13, 81, [(3, .int y12), (0, .ref 27), (1, .ref 2), (2, .int dp)], [.int ((y12.toUInt32 % 65536).toInt32), .retAddr 8, .int ((Int16.ofInt 1000).toInt32), .ref 27], 0, 0) 81 6 (fun _ => rfl) h) ?_
        obtain ⟨z17, hz17⟩ : ∃ z : Int32, z = (y12.toUInt32 % 65536).toInt32 := ⟨_, rfl⟩
        refine pj_X_eqi hz17.symm ?_
        rw [← hz17, pj_nm_e]
        have fz17_0 : z17.toInt = y12.toInt := by rw [hz17]; exact pj_i2cI (by omega) (by omega)
        have q18 : (pj_fi G13 2 4).toInt = y15.toInt := by rw [show pj_fi G13 2 4 = y15 from hy15.symm]
        refine pj_X_ca (vs := [.retAddr 8, .int z17]) rfl (fun _ => rfl) ⟨Nat.le_of_ble_eq_true rfl, Nat.le_of_ble_eq_true rfl, rfl⟩ ⟨rfl, rfl⟩ (pj_Y_up (by decide) (ct_290_s8x G13 iG13 z17 ⟨by omega, by omega⟩)) ?_
        rintro _ _ ⟨y19, rfl, rfl, ry19, fy19⟩
        rw [← fy19, pj_nm_e]
        show pj_X _ _ G13 84 [(3, .int y12), (0, .ref 27), (1, .ref 2), (2, .int dp)] [.int y19, .int ((Int16.ofInt 1000).toInt32), .ref 27] _
        refine pj_X_of (fun r h => pj_R_to (G13, 85, [(3, .int y12), (0, .ref 27), (1, .ref 2), (2, .int dp)], [.int (((Int16.ofInt 1000).toInt32) + y19), .ref 27], 0, 0) 85 2 (fun _ => rfl) h) ?_
        obtain ⟨z20, hz20⟩ : ∃ z : Int32, z = ((Int16.ofInt 1000).toInt32) + y19 := ⟨_, rfl⟩
        refine pj_X_eqi hz20.symm ?_
        rw [← hz20, pj_nm_e]
        have fz20_0 : z20.toInt = ((Int16.ofInt 1000).toInt32).toInt + y19.toInt := by rw [hz20]; exact pj_addI (by have := pj_i32 ((Int16.ofInt 1000).toInt32); have := pj_i32 y19; omega) (by have := pj_i32 ((Int16.ofInt 1000).toInt32); have := pj_i32 y19; omega)
        have q21 : (pj_fi G13 2 4).toInt = y15.toInt := by rw [show pj_fi G13 2 4 = y15 from hy15.symm]
        refine pj_X_ca (vs := [.ref 27, .int z20]) rfl (fun _ => rfl) ⟨Nat.le_of_ble_eq_true rfl, Nat.le_of_ble_eq_true rfl, pj_T_rcv iG13 rfl⟩ ⟨rfl, rfl⟩ (pj_Y_up (by decide) (ct_60x G13 iG13 z20 (by omega))) ?_
        rintro _ G23 ⟨rfl, iG23, jG23, eG23, fy22⟩
        replace eG23 := eG23 _ rfl
        rw [← fy22, pj_nm_e]
        have kG23 : pj_kpt kc_64_2x G0 G23 := pj_kpt_t kG13 (pj_kpt_s jG23 rfl)
        have q24 : (pj_fi G23 2 4).toInt = (pj_fi G13 2 4).toInt := by rw [jG23.1 (2, 4) (by decide)]
        obtain ⟨y25, hy25⟩ : ∃ z : Int32, z = pj_fi G23 2 4 := ⟨_, rfl⟩
        have ey25 : (pj_fi G23 2 4).toInt = y25.toInt := by rw [hy25]
        have ry25 : (-1 : Int) ≤ y25.toInt ∧ y25.toInt ≤ 80 := by rw [hy25]; exact iG23.2.1 2 4 (-1, 80) rfl
        show pj_X _ _ G23 88 [(3, .int y12), (0, .ref 27), (1, .ref 2), (2, .int dp)] [] _
        have q26 : (pj_fi G23 2 4).toInt = y25.toInt := by rw [show pj_fi G23 2 4 = y25 from hy25.symm]
        exact pj_X_rt rfl rfl ⟨rfl, iG23, kG23, (fun H hH => by subst hH; exact (⟨by omega, (pr_kc_t (pr_kc_t (pr_kc_k jG7 rfl) (pr_kc_k jG13 rfl)) eG23)⟩)), rfl⟩
      | false =>
        rw [pj_cF]
        have ub16 := pj_u_neF b16
        refine pj_X_of (fun r h => pj_R_icF rfl b16 h) ?_
        refine pj_X_of (fun r h => pj_R_to (G13, 67, [(3, .int y12), (0, .ref 27), (1, .ref 2), (2, .int dp)], [.ref 2], 0, 0) 67 2 (fun _ => rfl) h) ?_
        have q27 : (pj_fi G13 2 4).toInt = y15.toInt := by rw [show pj_fi G13 2 4 = y15 from hy15.symm]
        refine pj_X_ca (vs := [.ref 2]) rfl (fun _ => rfl) ⟨Nat.le_of_ble_eq_true rfl, Nat.le_of_ble_eq_true rfl, pj_T_rcv iG13 rfl⟩ ⟨rfl, rfl⟩ (pj_Y_up (by decide) (ct_81x G13 iG13)) ?_
        rintro _ G29 ⟨rfl, iG29, jG29, eG29, fy28⟩
        replace eG29 := eG29 _ rfl
        rw [← fy28, pj_nm_e]
        have kG29 : pj_kpt kc_64_2x G0 G29 := pj_kpt_t kG13 (pj_kpt_s jG29 rfl)
        obtain ⟨y30, hy30⟩ : ∃ z : Int32, z = pj_fi G29 2 4 := ⟨_, rfl⟩
        have ey30 : (pj_fi G29 2 4).toInt = y30.toInt := by rw [hy30]
        have ry30 : (-1 : Int) ≤ y30.toInt ∧ y30.toInt ≤ 80 := by rw [hy30]; exact iG29.2.1 2 4 (-1, 80) rfl
        show pj_X _ _ G29 70 [(3, .int y12), (0, .ref 27), (1, .ref 2), (2, .int dp)] [] _
        refine pj_X_of (fun r h => pj_R_to (G29, 88, [(3, .int y12), (0, .ref 27), (1, .ref 2), (2, .int dp)], [], 0, 0) 88 2 (fun _ => rfl) h) ?_
        have q31 : (pj_fi G29 2 4).toInt = y30.toInt := by rw [show pj_fi G29 2 4 = y30 from hy30.symm]
        exact pj_X_rt rfl rfl ⟨rfl, iG29, kG29, (fun H hH => by subst hH; exact (⟨by omega, (pr_kc_t (pr_kc_t (pr_kc_k jG7 rfl) (pr_kc_k jG13 rfl)) (pr_kc_k jG29 rfl))⟩)), rfl⟩
    | false =>
      rw [pj_cF]
      have ub10 := pj_u0_eqF b10
      refine pj_X_of (fun r h => pj_R_ifF rfl b10 h) ?_
      refine pj_X_of (fun r h => pj_R_to (G7, 39, [(0, .ref 27), (1, .ref 2), (2, .int dp)], [.int (dp + (Int32.ofInt 1)), .int (Int32.ofInt 0), .ref 2, .ref 27], 0, 0) 39 7 (fun _ => rfl) h) ?_
      obtain ⟨z32, hz32⟩ : ∃ z : Int32, z = dp + (Int32.ofInt 1) := ⟨_, rfl⟩
      refine pj_X_eqi hz32.symm ?_
      rw [← hz32, pj_nm_e]
      have fz32_0 : z32.toInt = dp.toInt + (Int32.ofInt 1).toInt := by rw [hz32]; exact pj_addI (by have := pj_i32 dp; have := pj_i32 (Int32.ofInt 1); omega) (by have := pj_i32 dp; have := pj_i32 (Int32.ofInt 1); omega)
      have q33 : (pj_fi G7 2 4).toInt = y9.toInt := by rw [show pj_fi G7 2 4 = y9 from hy9.symm]
      refine pj_X_ca (vs := [.ref 27, .ref 2, .int (Int32.ofInt 0), .int z32]) rfl (fun _ => rfl) ⟨Nat.le_of_ble_eq_true rfl, Nat.le_of_ble_eq_true rfl, pj_T_rcv iG7 rfl⟩ ⟨rfl, rfl⟩ (pj_Y_up (by decide) (ct_62_0_3x G7 iG7 (Int32.ofInt 0) z32 ⟨by omega, by omega⟩ ⟨by omega, by omega⟩)) ?_
      rintro _ G35 ⟨rfl, iG35, jG35, eG35, fy34⟩
      replace eG35 := eG35 _ rfl
      rw [← fy34, pj_nm_e]
      have kG35 : pj_kpt kc_64_2x G0 G35 := pj_kpt_t kG7 (pj_kpt_s jG35 rfl)
      obtain ⟨y36, hy36⟩ : ∃ z : Int32, z = pj_fi G35 2 4 := ⟨_, rfl⟩
      have ey36 : (pj_fi G35 2 4).toInt = y36.toInt := by rw [hy36]
      have ry36 : (-1 : Int) ≤ y36.toInt ∧ y36.toInt ≤ 80 := by rw [hy36]; exact iG35.2.1 2 4 (-1, 80) rfl
      show pj_X _ _ G35 42 [(0, .ref 27), (1, .ref 2), (2, .int dp)] [] _
      refine pj_X_of (fun r h => pj_R_to (G35, 47, [(0, .ref 27), (1, .ref 2), (2, .int dp)], [.int ((Int8.ofInt 41).toInt32), .int ((Int8.ofInt 41).toInt32), .ref 2], 0, 0) 47 4 (fun _ => rfl) h) ?_
      have q37 : (pj_fi G35 2 4).toInt = y36.toInt := by rw [show pj_fi G35 2 4 = y36 from hy36.symm]
      refine pj_X_ca (vs := [.ref 2, .int ((Int8.ofInt 41).toInt32), .int ((Int8.ofInt 41).toInt32)]) rfl (fun _ => rfl) ⟨Nat.le_of_ble_eq_true rfl, Nat.le_of_ble_eq_true rfl, pj_T_rcv iG35 rfl⟩ ⟨rfl, rfl⟩ (pj_Y_up (by decide) (ct_83x G35 iG35 ((Int8.ofInt 41).toInt32) ((Int8.ofInt 41).toInt32) ⟨by omega, by omega⟩ ⟨by omega, by omega⟩)) ?_
      rintro _ G39 ⟨y38, rfl, iG39, jG39, ry38, ey38, fy38⟩
      replace ey38 := ey38 _ rfl
      rw [← fy38, pj_bd_e]
      have kG39 : pj_kpt kc_64_2x G0 G39 := pj_kpt_t kG35 (pj_kpt_s jG39 rfl)
      obtain ⟨y40, hy40⟩ : ∃ z : Int32, z = pj_fi G39 2 4 := ⟨_, rfl⟩
      have ey40 : (pj_fi G39 2 4).toInt = y40.toInt := by rw [hy40]
      have ry40 : (-1 : Int) ≤ y40.toInt ∧ y40.toInt ≤ 80 := by rw [hy40]; exact iG39.2.1 2 4 (-1, 80) rfl
      show pj_X _ _ G39 50 [(0, .ref 27), (1, .ref 2), (2, .int dp)] [.int y38] _
      refine pj_X_of (fun r h => pj_R_to (G39, 88, [(0, .ref 27), (1, .ref 2), (2, .int dp)], [], 0, 0) 88 3 (fun _ => rfl) h) ?_
      have q41 : (pj_fi G39 2 4).toInt = y40.toInt := by rw [show pj_fi G39 2 4 = y40 from hy40.symm]
      exact pj_X_rt rfl rfl ⟨rfl, iG39, kG39, (fun H hH => by subst hH; exact (⟨by omega, (pr_kc_t (pr_kc_t (pr_kc_k jG7 rfl) eG35.2) (pr_kc_k jG39 rfl))⟩)), rfl⟩
  | false =>
    rw [pj_cF]
    have ub4 := pj_u0_eqF b4
    refine pj_X_of (fun r h => pj_R_ifF rfl b4 h) ?_
    refine pj_X_of (fun r h => pj_R_to (G0, 10, [(0, .ref 27), (1, .ref 2), (2, .int dp)], [.int (Int32.ofInt 3), .ref 2, .ref 27], 0, 0) 10 4 (fun _ => rfl) h) ?_
    have q42 : (pj_fi G0 2 4).toInt = y1.toInt := by rw [show pj_fi G0 2 4 = y1 from hy1.symm]
    refine pj_X_ca (vs := [.ref 2, .int (Int32.ofInt 3)]) rfl (fun _ => rfl) ⟨Nat.le_of_ble_eq_true rfl, Nat.le_of_ble_eq_true rfl, pj_T_rcv hI rfl⟩ ⟨rfl, rfl⟩ (pj_Y_up (by decide) (ct_86x G0 hI (Int32.ofInt 3) ⟨by omega, by omega⟩)) ?_
    rintro _ G44 ⟨y43, rfl, iG44, jG44, ry43, fy43⟩
    rw [← fy43, pj_bd_e]
    have kG44 : pj_kpt kc_64_2x G0 G44 := pj_kpt_t hK (pj_kpt_s jG44 rfl)
    obtain ⟨y45, hy45⟩ : ∃ z : Int32, z = pj_fi G44 2 4 := ⟨_, rfl⟩
    have ey45 : (pj_fi G44 2 4).toInt = y45.toInt := by rw [hy45]
    have ry45 : (-1 : Int) ≤ y45.toInt ∧ y45.toInt ≤ 80 := by rw [hy45]; exact iG44.2.1 2 4 (-1, 80) rfl
    show pj_X _ _ G44 13 [(0, .ref 27), (1, .ref 2), (2, .int dp)] [.int y43, .ref 27] _
    have q46 : (pj_fi G44 2 4).toInt = y45.toInt := by rw [show pj_fi G44 2 4 = y45 from hy45.symm]
    refine pj_X_ca (vs := [.ref 27, .int y43]) rfl (fun _ => rfl) ⟨Nat.le_of_ble_eq_true rfl, Nat.le_of_ble_eq_true rfl, pj_T_rcv iG44 rfl⟩ ⟨rfl, rfl⟩ (pj_Y_up (by decide) (ct_60x G44 iG44 y43 (by omega))) ?_
    rintro _ G48 ⟨rfl, iG48, jG48, eG48, fy47⟩
    replace eG48 := eG48 _ rfl
    rw [← fy47, pj_nm_e]
    have kG48 : pj_kpt kc_64_2x G0 G48 := pj_kpt_t kG44 (pj_kpt_s jG48 rfl)
    have q49 : (pj_fi G48 2 4).toInt = (pj_fi G44 2 4).toInt := by rw [jG48.1 (2, 4) (by decide)]
    obtain ⟨y50, hy50⟩ : ∃ z : Int32, z = pj_fi G48 2 4 := ⟨_, rfl⟩
    have ey50 : (pj_fi G48 2 4).toInt = y50.toInt := by rw [hy50]
    have ry50 : (-1 : Int) ≤ y50.toInt ∧ y50.toInt ≤ 80 := by rw [hy50]; exact iG48.2.1 2 4 (-1, 80) rfl
    show pj_X _ _ G48 16 [(0, .ref 27), (1, .ref 2), (2, .int dp)] [] _
    refine pj_X_of (fun r h => pj_R_to (G48, 88, [(0, .ref 27), (1, .ref 2), (2, .int dp)], [], 0, 0) 88 2 (fun _ => rfl) h) ?_
    have q51 : (pj_fi G48 2 4).toInt = y50.toInt := by rw [show pj_fi G48 2 4 = y50 from hy50.symm]
    exact pj_X_rt rfl rfl ⟨rfl, iG48, kG48, (fun H hH => by subst hH; exact (⟨by omega, (pr_kc_t (pr_kc_k jG44 rfl) eG48)⟩)), rfl⟩
theorem fr_64_2x (G0 : pj_G) (hI : pj_Inv G0) (dp : Int32) (rdp : (2 : Int) ≤ dp.toInt ∧ dp.toInt ≤ 2) : pj_Inv (F_64_2x G0 dp) ∧ pj_kpt kc_64_2x G0 (F_64_2x G0 dp) ∧ (((¬ (pj_fi G0 2 4).toInt = -1 → (pj_fi (F_64_2x G0 dp) 2 4).toInt = (pj_fi G0 2 4).toInt)) ∧ (pr_kc G0 (F_64_2x G0 dp))) := by
  obtain ⟨v, G', -, -, i, j, x, e⟩ := ct_64_2x G0 hI dp rdp
  rw [← e]
  exact ⟨i, j, x _ rfl⟩
def kc_63_2x : pj_KT := ([(2, 3), (2, 4), (27, 3)], [2, 27, 28, 29], [28, 29])
noncomputable def L_63_2x (G0 : pj_G) (dp : Int32) (fu : Nat) : Int32 → Int32 → pj_G → pj_G := Nat.rec (motive := fun _ => Int32 → Int32 → pj_G → pj_G) (fun _ _ G => G) (fun _ ih v3 v4 G => cond (pj_c1 .ge v4 ((Int8.ofInt 40).toInt32)) (pj_nm (F_64_2x G dp) (fun G5 => cond (pj_c1 .eq v3 0) (G5) (pj_nm (F_60x G5 ((Int16.ofInt 2000).toInt32)) (fun G11 => G11)))) (pj_bd (F_82x G ((Int8.ofInt 45).toInt32)) (fun y16 G17 => cond (pj_c1 .eq y16 0) (pj_nm (F_64_2x G17 dp) (fun G23 => cond (pj_c1 .eq v3 0) (G23) (pj_nm (F_60x G23 ((Int16.ofInt 2000).toInt32)) (fun G29 => G29)))) (cond (pj_c1 .ne v3 0) (pj_nm (v4 + Int32.ofInt 1) (fun z34 => ih (Int32.ofInt 0) z34 G17)) (pj_nm (v4 + Int32.ofInt 1) (fun z36 => ih (Int32.ofInt 1) z36 G17)))))) fu
theorem L_63_2x_s0 (G0 : pj_G) (dp : Int32) (fu : Nat) (v3 : Int32) (v4 : Int32) (G : pj_G) : L_63_2x G0 dp (fu + 1) v3 v4 G = cond (pj_c1 .ge v4 ((Int8.ofInt 40).toInt32)) (pj_nm (F_64_2x G dp) (fun G5 => cond (pj_c1 .eq v3 0) (G5) (pj_nm (F_60x G5 ((Int16.ofInt 2000).toInt32)) (fun G11 => G11)))) (pj_bd (F_82x G ((Int8.ofInt 45).toInt32)) (fun y16 G17 => cond (pj_c1 .eq y16 0) (pj_nm (F_64_2x G17 dp) (fun G23 => cond (pj_c1 .eq v3 0) (G23) (pj_nm (F_60x G23 ((Int16.ofInt 2000).toInt32)) (fun G29 => G29)))) (cond (pj_c1 .ne v3 0) (pj_nm (v4 + Int32.ofInt 1) (fun z34 => L_63_2x G0 dp fu (Int32.ofInt 0) z34 G17)) (pj_nm (v4 + Int32.ofInt 1) (fun z36 => L_63_2x G0 dp fu (Int32.ofInt 1) z36 G17))))) := rfl
noncomputable def F_63_2x (G0 : pj_G) (dp : Int32) : pj_G := L_63_2x G0 dp 41 (Int32.ofInt 0) (Int32.ofInt 0) G0
theorem F_63_2x_e (G0 : pj_G) (dp : Int32) : F_63_2x G0 dp = L_63_2x G0 dp 41 (Int32.ofInt 0) (Int32.ofInt 0) G0 := rfl
theorem lp_ct_63_2x (G0 : pj_G) (hI0 : pj_Inv G0) (dp : Int32) (rdp : (2 : Int) ≤ dp.toInt ∧ dp.toInt ≤ 2) : ∀ mn : Nat, (∀ (G : pj_G) (hI : pj_Inv G) (hK : pj_kpt kc_63_2x G0 G) (v3 : Int32) (v4 : Int32), ((0 : Int) ≤ v3.toInt ∧ v3.toInt ≤ 1) → ((0 : Int) ≤ v4.toInt ∧ v4.toInt ≤ 40) → (¬ (pj_fi G0 2 4).toInt = -1 → (pj_fi G 2 4).toInt = (pj_fi G0 2 4).toInt) → (pr_kc G0 G) → 40 - v4.toInt < (mn : Int) → pj_X 29 pj_m63 G 5 [(0, .ref 27), (1, .ref 2), (2, .int dp), (3, .int v3), (4, .int v4)] [] (fun v' G' => v' = none ∧ pj_Inv G' ∧ pj_kpt kc_63_2x G0 G' ∧ (∀ H, G0 = H → (((¬ (pj_fi H 2 4).toInt = -1 → (pj_fi G' 2 4).toInt = (pj_fi H 2 4).toInt)) ∧ (pr_kc H G'))) ∧ (G' = L_63_2x G0 dp mn v3 v4 G))) := by
  have c0_ : ((Int16.ofInt 2000).toInt32).toInt = 2000 := by decide
  have c1_ : ((Int8.ofInt 40).toInt32).toInt = 40 := by decide
  have c2_ : ((Int8.ofInt 45).toInt32).toInt = 45 := by decide
  have c3_ : (Int32.ofInt 0).toInt = 0 := by decide
  have c4_ : (Int32.ofInt 1).toInt = 1 := by decide
  intro mn
  induction mn with
  | zero =>
    intro G hI hK v3 v4 rv3 rv4 x0_ x1_ hm
    exfalso
    omega
  | succ mn ih =>
    intro G hI hK v3 v4 rv3 rv4 x0_ x1_ hm
    rw [L_63_2x_s0]
    obtain ⟨y1, hy1⟩ : ∃ z : Int32, z = pj_fi G 2 4 := ⟨_, rfl⟩
    have ey1 : (pj_fi G 2 4).toInt = y1.toInt := by rw [hy1]
    have ry1 : (-1 : Int) ≤ y1.toInt ∧ y1.toInt ≤ 80 := by rw [hy1]; exact hI.2.1 2 4 (-1, 80) rfl
    refine pj_X_of (fun r h => pj_R_to (G, 9, [(0, .ref 27), (1, .ref 2), (2, .int dp), (3, .int v3), (4, .int v4)], [.int ((Int8.ofInt 40).toInt32), .int v4], 0, 0) 9 3 (fun _ => rfl) h) ?_
    cases b2 : pj_c1 .ge v4 ((Int8.ofInt 40).toInt32) with
    | true =>
      rw [pj_cT]
      have ub2 := pj_u_geT b2
      refine pj_X_of (fun r h => pj_R_icT 37 rfl rfl b2 h) ?_
      refine pj_X_of (fun r h => pj_R_to (G, 40, [(0, .ref 27), (1, .ref 2), (2, .int dp), (3, .int v3), (4, .int v4)], [.int dp, .ref 2, .ref 27], 0, 0) 40 4 (fun _ => rfl) h) ?_
      have q3 : (pj_fi G 2 4).toInt = y1.toInt := by rw [show pj_fi G 2 4 = y1 from hy1.symm]
      refine pj_X_ca (vs := [.ref 27, .ref 2, .int dp]) rfl (fun _ => rfl) ⟨Nat.le_of_ble_eq_true rfl, Nat.le_of_ble_eq_true rfl, pj_T_rcv hI rfl⟩ ⟨rfl, rfl⟩ (pj_Y_up (by decide) (ct_64_2x G hI dp ⟨by omega, by omega⟩)) ?_
      rintro _ G5 ⟨rfl, iG5, jG5, eG5, fy4⟩
      replace eG5 := eG5 _ rfl
      rw [← fy4, pj_nm_e]
      have kG5 : pj_kpt kc_63_2x G0 G5 := pj_kpt_t hK (pj_kpt_s jG5 rfl)
      obtain ⟨y6, hy6⟩ : ∃ z : Int32, z = pj_fi G5 2 4 := ⟨_, rfl⟩
      have ey6 : (pj_fi G5 2 4).toInt = y6.toInt := by rw [hy6]
      have ry6 : (-1 : Int) ≤ y6.toInt ∧ y6.toInt ≤ 80 := by rw [hy6]; exact iG5.2.1 2 4 (-1, 80) rfl
      show pj_X _ _ G5 43 [(0, .ref 27), (1, .ref 2), (2, .int dp), (3, .int v3), (4, .int v4)] [] _
      refine pj_X_of (fun r h => pj_R_to (G5, 44, [(0, .ref 27), (1, .ref 2), (2, .int dp), (3, .int v3), (4, .int v4)], [.int v3], 0, 0) 44 2 (fun _ => rfl) h) ?_
      cases b7 : pj_c1 .eq v3 0 with
      | true =>
        rw [pj_cT]
        have ub7 := pj_u0_eqT b7
        refine pj_X_of (fun r h => pj_R_ifT 54 rfl rfl b7 h) ?_
        have q8 : (pj_fi G5 2 4).toInt = y6.toInt := by rw [show pj_fi G5 2 4 = y6 from hy6.symm]
        exact pj_X_rt rfl rfl ⟨rfl, iG5, kG5, (fun H hH => by subst hH; exact (⟨by omega, (pr_kc_t x1_ eG5.2)⟩)), rfl⟩
      | false =>
        rw [pj_cF]
        have ub7 := pj_u0_eqF b7
        refine pj_X_of (fun r h => pj_R_ifF rfl b7 h) ?_
        refine pj_X_of (fun r h => pj_R_to (G5, 51, [(0, .ref 27), (1, .ref 2), (2, .int dp), (3, .int v3), (4, .int v4)], [.int ((Int16.ofInt 2000).toInt32), .ref 27], 0, 0) 51 3 (fun _ => rfl) h) ?_
        have q9 : (pj_fi G5 2 4).toInt = y6.toInt := by rw [show pj_fi G5 2 4 = y6 from hy6.symm]
        refine pj_X_ca (vs := [.ref 27, .int ((Int16.ofInt 2000).toInt32)]) rfl (fun _ => rfl) ⟨Nat.le_of_ble_eq_true rfl, Nat.le_of_ble_eq_true rfl, pj_T_rcv iG5 rfl⟩ ⟨rfl, rfl⟩ (pj_Y_up (by decide) (ct_60x G5 iG5 ((Int16.ofInt 2000).toInt32) (by omega))) ?_
        rintro _ G11 ⟨rfl, iG11, jG11, eG11, fy10⟩
        replace eG11 := eG11 _ rfl
        rw [← fy10, pj_nm_e]
        have kG11 : pj_kpt kc_63_2x G0 G11 := pj_kpt_t kG5 (pj_kpt_s jG11 rfl)
        have q12 : (pj_fi G11 2 4).toInt = (pj_fi G5 2 4).toInt := by rw [jG11.1 (2, 4) (by decide)]
        obtain ⟨y13, hy13⟩ : ∃ z : Int32, z = pj_fi G11 2 4 := ⟨_, rfl⟩
        have ey13 : (pj_fi G11 2 4).toInt = y13.toInt := by rw [hy13]
        have ry13 : (-1 : Int) ≤ y13.toInt ∧ y13.toInt ≤ 80 := by rw [hy13]; exact iG11.2.1 2 4 (-1, 80) rfl
        show pj_X _ _ G11 54 [(0, .ref 27), (1, .ref 2), (2, .int dp), (3, .int v3), (4, .int v4)] [] _
        have q14 : (pj_fi G11 2 4).toInt = y13.toInt := by rw [show pj_fi G11 2 4 = y13 from hy13.symm]
        exact pj_X_rt rfl rfl ⟨rfl, iG11, kG11, (fun H hH => by subst hH; exact (⟨by omega, (pr_kc_t (pr_kc_t x1_ eG5.2) eG11)⟩)), rfl⟩
    | false =>
      rw [pj_cF]
      have ub2 := pj_u_geF b2
      refine pj_X_of (fun r h => pj_R_icF rfl b2 h) ?_
      refine pj_X_of (fun r h => pj_R_to (G, 15, [(0, .ref 27), (1, .ref 2), (2, .int dp), (3, .int v3), (4, .int v4)], [.int ((Int8.ofInt 45).toInt32), .ref 2], 0, 0) 15 3 (fun _ => rfl) h) ?_
      have q15 : (pj_fi G 2 4).toInt = y1.toInt := by rw [show pj_fi G 2 4 = y1 from hy1.symm]
      refine pj_X_ca (vs := [.ref 2, .int ((Int8.ofInt 45).toInt32)]) rfl (fun _ => rfl) ⟨Nat.le_of_ble_eq_true rfl, Nat.le_of_ble_eq_true rfl, pj_T_rcv hI rfl⟩ ⟨rfl, rfl⟩ (pj_Y_up (by decide) (ct_82x G hI ((Int8.ofInt 45).toInt32) ⟨by omega, by omega⟩)) ?_
      rintro _ G17 ⟨y16, rfl, iG17, jG17, ry16, ey16, fy16⟩
      replace ey16 := ey16 _ rfl
      rw [← fy16, pj_bd_e]
      have kG17 : pj_kpt kc_63_2x G0 G17 := pj_kpt_t hK (pj_kpt_s jG17 rfl)
      have q18 : (pj_fi G17 2 4).toInt = (pj_fi G 2 4).toInt := by rw [jG17.1 (2, 4) (by decide)]
      obtain ⟨y19, hy19⟩ : ∃ z : Int32, z = pj_fi G17 2 4 := ⟨_, rfl⟩
      have ey19 : (pj_fi G17 2 4).toInt = y19.toInt := by rw [hy19]
      have ry19 : (-1 : Int) ≤ y19.toInt ∧ y19.toInt ≤ 80 := by rw [hy19]; exact iG17.2.1 2 4 (-1, 80) rfl
      show pj_X _ _ G17 18 [(0, .ref 27), (1, .ref 2), (2, .int dp), (3, .int v3), (4, .int v4)] [.int y16] _
      cases b20 : pj_c1 .eq y16 0 with
      | true =>
        rw [pj_cT]
        have ub20 := pj_u0_eqT b20
        refine pj_X_of (fun r h => pj_R_ifT 37 rfl rfl b20 h) ?_
        refine pj_X_of (fun r h => pj_R_to (G17, 40, [(0, .ref 27), (1, .ref 2), (2, .int dp), (3, .int v3), (4, .int v4)], [.int dp, .ref 2, .ref 27], 0, 0) 40 4 (fun _ => rfl) h) ?_
        have q21 : (pj_fi G17 2 4).toInt = y19.toInt := by rw [show pj_fi G17 2 4 = y19 from hy19.symm]
        refine pj_X_ca (vs := [.ref 27, .ref 2, .int dp]) rfl (fun _ => rfl) ⟨Nat.le_of_ble_eq_true rfl, Nat.le_of_ble_eq_true rfl, pj_T_rcv iG17 rfl⟩ ⟨rfl, rfl⟩ (pj_Y_up (by decide) (ct_64_2x G17 iG17 dp ⟨by omega, by omega⟩)) ?_
        rintro _ G23 ⟨rfl, iG23, jG23, eG23, fy22⟩
        replace eG23 := eG23 _ rfl
        rw [← fy22, pj_nm_e]
        have kG23 : pj_kpt kc_63_2x G0 G23 := pj_kpt_t kG17 (pj_kpt_s jG23 rfl)
        obtain ⟨y24, hy24⟩ : ∃ z : Int32, z = pj_fi G23 2 4 := ⟨_, rfl⟩
        have ey24 : (pj_fi G23 2 4).toInt = y24.toInt := by rw [hy24]
        have ry24 : (-1 : Int) ≤ y24.toInt ∧ y24.toInt ≤ 80 := by rw [hy24]; exact iG23.2.1 2 4 (-1, 80) rfl
        show pj_X _ _ G23 43 [(0, .ref 27), (1, .ref 2), (2, .int dp), (3, .int v3), (4, .int v4)] [] _
        refine pj_X_of (fun r h => pj_R_to (G23, 44, [(0, .ref 27), (1, .ref 2), (2, .int dp), (3, .int v3), (4, .int v4)], [.int v3], 0, 0) 44 2 (fun _ => rfl) h) ?_
        cases b25 : pj_c1 .eq v3 0 with
        | true =>
          rw [pj_cT]
          have ub25 := pj_u0_eqT b25
          refine pj_X_of (fun r h => pj_R_ifT 54 rfl rfl b25 h) ?_
          have q26 : (pj_fi G23 2 4).toInt = y24.toInt := by rw [show pj_fi G23 2 4 = y24 from hy24.symm]
          exact pj_X_rt rfl rfl ⟨rfl, iG23, kG23, (fun H hH => by subst hH; exact (⟨by omega, (pr_kc_t (pr_kc_t x1_ (pr_kc_k jG17 rfl)) eG23.2)⟩)), rfl⟩
        | false =>
          rw [pj_cF]
          have ub25 := pj_u0_eqF b25
          refine pj_X_of (fun r h => pj_R_ifF rfl b25 h) ?_
          refine pj_X_of (fun r h => pj_R_to (G23, 51, [(0, .ref 27), (1, .ref 2), (2, .int dp), (3, .int v3), (4, .int v4)], [.int ((Int16.ofInt 2000).toInt32), .ref 27], 0, 0) 51 3 (fun _ => rfl) h) ?_
          have q27 : (pj_fi G23 2 4).toInt = y24.toInt := by rw [show pj_fi G23 2 4 = y24 from hy24.symm]
          refine pj_X_ca (vs := [.ref 27, .int ((Int16.ofInt 2000).toInt32)]) rfl (fun _ => rfl) ⟨Nat.le_of_ble_eq_true rfl, Nat.le_of_ble_eq_true rfl, pj_T_rcv iG23 rfl⟩ ⟨rfl, rfl⟩ (pj_Y_up (by decide) (ct_60x G23 iG23 ((Int16.ofInt 2000).toInt32) (by omega))) ?_
          rintro _ G29 ⟨rfl, iG29, jG29, eG29, fy28⟩
          replace eG29 := eG29 _ rfl
          rw [← fy28, pj_nm_e]
          have kG29 : pj_kpt kc_63_2x G0 G29 := pj_kpt_t kG23 (pj_kpt_s jG29 rfl)
          have q30 : (pj_fi G29 2 4).toInt = (pj_fi G23 2 4).toInt := by rw [jG29.1 (2, 4) (by decide)]
          obtain ⟨y31, hy31⟩ : ∃ z : Int32, z = pj_fi G29 2 4 := ⟨_, rfl⟩
          have ey31 : (pj_fi G29 2 4).toInt = y31.toInt := by rw [hy31]
          have ry31 : (-1 : Int) ≤ y31.toInt ∧ y31.toInt ≤ 80 := by rw [hy31]; exact iG29.2.1 2 4 (-1, 80) rfl
          show pj_X _ _ G29 54 [(0, .ref 27), (1, .ref 2), (2, .int dp), (3, .int v3), (4, .int v4)] [] _
          have q32 : (pj_fi G29 2 4).toInt = y31.toInt := by rw [show pj_fi G29 2 4 = y31 from hy31.symm]
          exact pj_X_rt rfl rfl ⟨rfl, iG29, kG29, (fun H hH => by subst hH; exact (⟨by omega, (pr_kc_t (pr_kc_t (pr_kc_t x1_ (pr_kc_k jG17 rfl)) eG23.2) eG29)⟩)), rfl⟩
      | false =>
        rw [pj_cF]
        have ub20 := pj_u0_eqF b20
        refine pj_X_of (fun r h => pj_R_ifF rfl b20 h) ?_
        refine pj_X_of (fun r h => pj_R_to (G17, 22, [(0, .ref 27), (1, .ref 2), (2, .int dp), (3, .int v3), (4, .int v4)], [.int v3], 0, 0) 22 2 (fun _ => rfl) h) ?_
        cases b33 : pj_c1 .ne v3 0 with
        | true =>
          rw [pj_cT]
          have ub33 := pj_u0_neT b33
          refine pj_X_of (fun r h => pj_R_ifT 29 rfl rfl b33 h) ?_
          refine pj_X_of (fun r h => pj_R_to (G17, 34, [(4, .int (v4 + Int32.ofInt 1)), (3, .int (Int32.ofInt 0)), (0, .ref 27), (1, .ref 2), (2, .int dp)], [], 0, 0) 34 4 (fun _ => rfl) h) ?_
          obtain ⟨z34, hz34⟩ : ∃ z : Int32, z = v4 + Int32.ofInt 1 := ⟨_, rfl⟩
          rw [← hz34]
          rw [pj_nm_e]
          have fz34_0 : z34.toInt = v4.toInt + (Int32.ofInt 1).toInt := by rw [hz34]; exact pj_addI (by have := pj_i32 v4; have := pj_i32 (Int32.ofInt 1); omega) (by have := pj_i32 v4; have := pj_i32 (Int32.ofInt 1); omega)
          refine pj_X_of (fun r h => pj_R_to (G17, 5, [(4, .int z34), (3, .int (Int32.ofInt 0)), (0, .ref 27), (1, .ref 2), (2, .int dp)], [], 0, 0) 5 2 (fun _ => rfl) h) ?_
          have q35 : (pj_fi G17 2 4).toInt = y19.toInt := by rw [show pj_fi G17 2 4 = y19 from hy19.symm]
          exact pj_X_sub [(0, .ref 27), (1, .ref 2), (2, .int dp), (3, .int (Int32.ofInt 0)), (4, .int z34)] (show List.Nodup [0, 1, 2, 3, 4] by decide) ⟨rfl, rfl, rfl, rfl, rfl, trivial⟩ (ih G17 iG17 kG17 (Int32.ofInt 0) z34 ⟨by omega, by omega⟩ ⟨by omega, by omega⟩ (by omega) (pr_kc_t x1_ (pr_kc_k jG17 rfl)) (by omega))
        | false =>
          rw [pj_cF]
          have ub33 := pj_u0_neF b33
          refine pj_X_of (fun r h => pj_R_ifF rfl b33 h) ?_
          refine pj_X_of (fun r h => pj_R_to (G17, 34, [(4, .int (v4 + Int32.ofInt 1)), (3, .int (Int32.ofInt 1)), (0, .ref 27), (1, .ref 2), (2, .int dp)], [], 0, 0) 34 5 (fun _ => rfl) h) ?_
          obtain ⟨z36, hz36⟩ : ∃ z : Int32, z = v4 + Int32.ofInt 1 := ⟨_, rfl⟩
          rw [← hz36]
          rw [pj_nm_e]
          have fz36_0 : z36.toInt = v4.toInt + (Int32.ofInt 1).toInt := by rw [hz36]; exact pj_addI (by have := pj_i32 v4; have := pj_i32 (Int32.ofInt 1); omega) (by have := pj_i32 v4; have := pj_i32 (Int32.ofInt 1); omega)
          refine pj_X_of (fun r h => pj_R_to (G17, 5, [(4, .int z36), (3, .int (Int32.ofInt 1)), (0, .ref 27), (1, .ref 2), (2, .int dp)], [], 0, 0) 5 2 (fun _ => rfl) h) ?_
          have q37 : (pj_fi G17 2 4).toInt = y19.toInt := by rw [show pj_fi G17 2 4 = y19 from hy19.symm]
          exact pj_X_sub [(0, .ref 27), (1, .ref 2), (2, .int dp), (3, .int (Int32.ofInt 1)), (4, .int z36)] (show List.Nodup [0, 1, 2, 3, 4] by decide) ⟨rfl, rfl, rfl, rfl, rfl, trivial⟩ (ih G17 iG17 kG17 (Int32.ofInt 1) z36 ⟨by omega, by omega⟩ ⟨by omega, by omega⟩ (by omega) (pr_kc_t x1_ (pr_kc_k jG17 rfl)) (by omega))
theorem ct_63_2x (G0 : pj_G) (hI : pj_Inv G0) (dp : Int32) (rdp : (2 : Int) ≤ dp.toInt ∧ dp.toInt ≤ 2) : pj_Y 30 63 [.ref 27, .ref 2, .int dp] G0 (fun v' G' => v' = none ∧ pj_Inv G' ∧ pj_kpt kc_63_2x G0 G' ∧ (∀ H, G0 = H → (((¬ (pj_fi H 2 4).toInt = -1 → (pj_fi G' 2 4).toInt = (pj_fi H 2 4).toInt)) ∧ (pr_kc H G'))) ∧ (G' = F_63_2x G0 dp)) := by
  have c0_ : ((Int16.ofInt 2000).toInt32).toInt = 2000 := by decide
  have c1_ : ((Int8.ofInt 40).toInt32).toInt = 40 := by decide
  have c2_ : ((Int8.ofInt 45).toInt32).toInt = 45 := by decide
  have c3_ : (Int32.ofInt 0).toInt = 0 := by decide
  have c4_ : (Int32.ofInt 1).toInt = 1 := by decide
  refine pj_Y_X (M := pj_m63) rfl rfl (Nat.le_of_ble_eq_true rfl) ?_
  have hK : pj_kpt kc_63_2x G0 G0 := pj_kpt_r _ _
  show pj_X _ _ G0 0 [(0, .ref 27), (1, .ref 2), (2, .int dp)] [] _
  rw [F_63_2x_e]
  obtain ⟨y38, hy38⟩ : ∃ z : Int32, z = pj_fi G0 2 4 := ⟨_, rfl⟩
  have ey38 : (pj_fi G0 2 4).toInt = y38.toInt := by rw [hy38]
  have ry38 : (-1 : Int) ≤ y38.toInt ∧ y38.toInt ≤ 80 := by rw [hy38]; exact hI.2.1 2 4 (-1, 80) rfl
  refine pj_X_of (fun r h => pj_R_to (G0, 5, [(4, .int (Int32.ofInt 0)), (3, .int (Int32.ofInt 0)), (0, .ref 27), (1, .ref 2), (2, .int dp)], [], 0, 0) 5 5 (fun _ => rfl) h) ?_
  have q39 : (pj_fi G0 2 4).toInt = y38.toInt := by rw [show pj_fi G0 2 4 = y38 from hy38.symm]
  exact pj_X_sub [(0, .ref 27), (1, .ref 2), (2, .int dp), (3, .int (Int32.ofInt 0)), (4, .int (Int32.ofInt 0))] (show List.Nodup [0, 1, 2, 3, 4] by decide) ⟨rfl, rfl, rfl, rfl, rfl, trivial⟩ ((lp_ct_63_2x G0 hI dp rdp 41) G0 hI hK (Int32.ofInt 0) (Int32.ofInt 0) ⟨by omega, by omega⟩ ⟨by omega, by omega⟩ (by omega) (pr_kc_r _) (by omega))
theorem fr_63_2x (G0 : pj_G) (hI : pj_Inv G0) (dp : Int32) (rdp : (2 : Int) ≤ dp.toInt ∧ dp.toInt ≤ 2) : pj_Inv (F_63_2x G0 dp) ∧ pj_kpt kc_63_2x G0 (F_63_2x G0 dp) ∧ (((¬ (pj_fi G0 2 4).toInt = -1 → (pj_fi (F_63_2x G0 dp) 2 4).toInt = (pj_fi G0 2 4).toInt)) ∧ (pr_kc G0 (F_63_2x G0 dp))) := by
  obtain ⟨v, G', -, -, i, j, x, e⟩ := ct_63_2x G0 hI dp rdp
  rw [← e]
  exact ⟨i, j, x _ rfl⟩
def kc_62_3_2x : pj_KT := ([(2, 3), (2, 4), (27, 3)], [2, 27, 28, 29], [28, 29])
noncomputable def F_62_3_2x (G0 : pj_G) (lv : Int32) (dp : Int32) : pj_G := pj_nm (F_63_2x G0 dp) (fun G4 => G4)
theorem F_62_3_2x_e (G0 : pj_G) (lv : Int32) (dp : Int32) : F_62_3_2x G0 lv dp = pj_nm (F_63_2x G0 dp) (fun G4 => G4) := rfl
theorem ct_62_3_2x (G0 : pj_G) (hI : pj_Inv G0) (lv : Int32) (dp : Int32) (rlv : (3 : Int) ≤ lv.toInt ∧ lv.toInt ≤ 3) (rdp : (2 : Int) ≤ dp.toInt ∧ dp.toInt ≤ 2) : pj_Y 31 62 [.ref 27, .ref 2, .int lv, .int dp] G0 (fun v' G' => v' = none ∧ pj_Inv G' ∧ pj_kpt kc_62_3_2x G0 G' ∧ (∀ H, G0 = H → (((¬ (pj_fi H 2 4).toInt = -1 → (pj_fi G' 2 4).toInt = (pj_fi H 2 4).toInt)) ∧ (pr_kc H G'))) ∧ (G' = F_62_3_2x G0 lv dp)) := by
  have c0_ : (Int32.ofInt 2).toInt = 2 := by decide
  refine pj_Y_X (M := pj_m62) rfl rfl (Nat.le_of_ble_eq_true rfl) ?_
  have hK : pj_kpt kc_62_3_2x G0 G0 := pj_kpt_r _ _
  show pj_X _ _ G0 0 [(0, .ref 27), (1, .ref 2), (2, .int lv), (3, .int dp)] [] _
  rw [F_62_3_2x_e]
  obtain ⟨y1, hy1⟩ : ∃ z : Int32, z = pj_fi G0 2 4 := ⟨_, rfl⟩
  have ey1 : (pj_fi G0 2 4).toInt = y1.toInt := by rw [hy1]
  have ry1 : (-1 : Int) ≤ y1.toInt ∧ y1.toInt ≤ 80 := by rw [hy1]; exact hI.2.1 2 4 (-1, 80) rfl
  refine pj_X_of (fun r h => pj_R_to (G0, 2, [(0, .ref 27), (1, .ref 2), (2, .int lv), (3, .int dp)], [.int (Int32.ofInt 2), .int lv], 0, 0) 2 3 (fun _ => rfl) h) ?_
  refine pj_X_of (fun r h => pj_R_icF rfl (pj_b_leF (by omega)) h) ?_
  refine pj_X_of (fun r h => pj_R_to (G0, 8, [(0, .ref 27), (1, .ref 2), (2, .int lv), (3, .int dp)], [.int dp, .ref 2, .ref 27], 0, 0) 8 4 (fun _ => rfl) h) ?_
  have q2 : (pj_fi G0 2 4).toInt = y1.toInt := by rw [show pj_fi G0 2 4 = y1 from hy1.symm]
  refine pj_X_ca (vs := [.ref 27, .ref 2, .int dp]) rfl (fun _ => rfl) ⟨Nat.le_of_ble_eq_true rfl, Nat.le_of_ble_eq_true rfl, pj_T_rcv hI rfl⟩ ⟨rfl, rfl⟩ (pj_Y_up (by decide) (ct_63_2x G0 hI dp ⟨by omega, by omega⟩)) ?_
  rintro _ G4 ⟨rfl, iG4, jG4, eG4, fy3⟩
  replace eG4 := eG4 _ rfl
  rw [← fy3, pj_nm_e]
  have kG4 : pj_kpt kc_62_3_2x G0 G4 := pj_kpt_t hK (pj_kpt_s jG4 rfl)
  obtain ⟨y5, hy5⟩ : ∃ z : Int32, z = pj_fi G4 2 4 := ⟨_, rfl⟩
  have ey5 : (pj_fi G4 2 4).toInt = y5.toInt := by rw [hy5]
  have ry5 : (-1 : Int) ≤ y5.toInt ∧ y5.toInt ≤ 80 := by rw [hy5]; exact iG4.2.1 2 4 (-1, 80) rfl
  show pj_X _ _ G4 11 [(0, .ref 27), (1, .ref 2), (2, .int lv), (3, .int dp)] [] _
  have q6 : (pj_fi G4 2 4).toInt = y5.toInt := by rw [show pj_fi G4 2 4 = y5 from hy5.symm]
  exact pj_X_rt rfl rfl ⟨rfl, iG4, kG4, (fun H hH => by subst hH; exact (⟨by omega, eG4.2⟩)), rfl⟩
theorem fr_62_3_2x (G0 : pj_G) (hI : pj_Inv G0) (lv : Int32) (dp : Int32) (rlv : (3 : Int) ≤ lv.toInt ∧ lv.toInt ≤ 3) (rdp : (2 : Int) ≤ dp.toInt ∧ dp.toInt ≤ 2) : pj_Inv (F_62_3_2x G0 lv dp) ∧ pj_kpt kc_62_3_2x G0 (F_62_3_2x G0 lv dp) ∧ (((¬ (pj_fi G0 2 4).toInt = -1 → (pj_fi (F_62_3_2x G0 lv dp) 2 4).toInt = (pj_fi G0 2 4).toInt)) ∧ (pr_kc G0 (F_62_3_2x G0 lv dp))) := by
  obtain ⟨v, G', -, -, i, j, x, e⟩ := ct_62_3_2x G0 hI lv dp rlv rdp
  rw [← e]
  exact ⟨i, j, x _ rfl⟩
def kc_62_2_2x : pj_KT := ([(2, 3), (2, 4), (27, 3)], [2, 27, 28, 29], [28, 29])
noncomputable def L_62_2_2x (G0 : pj_G) (lv : Int32) (dp : Int32) (fu : Nat) : Int32 → Int32 → pj_G → pj_G := Nat.rec (motive := fun _ => Int32 → Int32 → pj_G → pj_G) (fun _ _ G => G) (fun _ ih v4 v5 G => cond (pj_c1 .ge v5 v4) (G) (pj_bd (F_84_s7x G) (fun y7 G8 => cond (pj_c1 .ne y7 (Int32.ofInt (-1))) (pj_nm (lv + (Int32.ofInt 1)) (fun z12 => pj_nm (F_62_3_2x G8 z12 dp) (fun G15 => pj_nm (((Int16.ofInt 3000).toInt32) + y7) (fun z17 => pj_nm (F_60x G15 z17) (fun G20 => pj_nm (v5 + Int32.ofInt 1) (fun z23 => ih v4 z23 G20)))))) (G8)))) fu
theorem L_62_2_2x_s0 (G0 : pj_G) (lv : Int32) (dp : Int32) (fu : Nat) (v4 : Int32) (v5 : Int32) (G : pj_G) : L_62_2_2x G0 lv dp (fu + 1) v4 v5 G = cond (pj_c1 .ge v5 v4) (G) (pj_bd (F_84_s7x G) (fun y7 G8 => cond (pj_c1 .ne y7 (Int32.ofInt (-1))) (pj_nm (lv + (Int32.ofInt 1)) (fun z12 => pj_nm (F_62_3_2x G8 z12 dp) (fun G15 => pj_nm (((Int16.ofInt 3000).toInt32) + y7) (fun z17 => pj_nm (F_60x G15 z17) (fun G20 => pj_nm (v5 + Int32.ofInt 1) (fun z23 => L_62_2_2x G0 lv dp fu v4 z23 G20)))))) (G8))) := rfl
noncomputable def F_62_2_2x (G0 : pj_G) (lv : Int32) (dp : Int32) : pj_G := pj_nm (lv + (Int32.ofInt 1)) (fun z27 => pj_nm (F_62_3_2x G0 z27 dp) (fun G30 => L_62_2_2x G0 lv dp 41 ((Int8.ofInt 40).toInt32) (Int32.ofInt 0) G30))
theorem F_62_2_2x_e (G0 : pj_G) (lv : Int32) (dp : Int32) : F_62_2_2x G0 lv dp = pj_nm (lv + (Int32.ofInt 1)) (fun z27 => pj_nm (F_62_3_2x G0 z27 dp) (fun G30 => L_62_2_2x G0 lv dp 41 ((Int8.ofInt 40).toInt32) (Int32.ofInt 0) G30)) := rfl
theorem lp_ct_62_2_2x (G0 : pj_G) (hI0 : pj_Inv G0) (lv : Int32) (dp : Int32) (rlv : (2 : Int) ≤ lv.toInt ∧ lv.toInt ≤ 2) (rdp : (2 : Int) ≤ dp.toInt ∧ dp.toInt ≤ 2) : ∀ mn : Nat, (∀ (G : pj_G) (hI : pj_Inv G) (hK : pj_kpt kc_62_2_2x G0 G) (v4 : Int32) (v5 : Int32), ((1 : Int) ≤ v4.toInt ∧ v4.toInt ≤ 40) → ((0 : Int) ≤ v5.toInt ∧ v5.toInt ≤ 40) → (¬ (pj_fi G0 2 4).toInt = -1 → (pj_fi G 2 4).toInt = (pj_fi G0 2 4).toInt) → (pr_kc G0 G) → 40 - v5.toInt < (mn : Int) → pj_X 31 pj_m62 G 36 [(0, .ref 27), (1, .ref 2), (2, .int lv), (3, .int dp), (4, .int v4), (5, .int v5)] [] (fun v' G' => v' = none ∧ pj_Inv G' ∧ pj_kpt kc_62_2_2x G0 G' ∧ (∀ H, G0 = H → (((¬ (pj_fi H 2 4).toInt = -1 → (pj_fi G' 2 4).toInt = (pj_fi H 2 4).toInt)) ∧ (pr_kc H G'))) ∧ (G' = L_62_2_2x G0 lv dp mn v4 v5 G))) := by
  have c0_ : ((Int16.ofInt 3000).toInt32).toInt = 3000 := by decide
  have c1_ : ((Int8.ofInt 40).toInt32).toInt = 40 := by decide
  have c2_ : (Int32.ofInt (-1)).toInt = -1 := by decide
  have c3_ : (Int32.ofInt 0).toInt = 0 := by decide
  have c4_ : (Int32.ofInt 1).toInt = 1 := by decide
  have c5_ : (Int32.ofInt 2).toInt = 2 := by decide
  intro mn
  induction mn with
  | zero =>
    intro G hI hK v4 v5 rv4 rv5 x0_ x1_ hm
    exfalso
    omega
  | succ mn ih =>
    intro G hI hK v4 v5 rv4 rv5 x0_ x1_ hm
    rw [L_62_2_2x_s0]
    obtain ⟨y1, hy1⟩ : ∃ z : Int32, z = pj_fi G 2 4 := ⟨_, rfl⟩
    have ey1 : (pj_fi G 2 4).toInt = y1.toInt := by rw [hy1]
    have ry1 : (-1 : Int) ≤ y1.toInt ∧ y1.toInt ≤ 80 := by rw [hy1]; exact hI.2.1 2 4 (-1, 80) rfl
    refine pj_X_of (fun r h => pj_R_to (G, 40, [(0, .ref 27), (1, .ref 2), (2, .int lv), (3, .int dp), (4, .int v4), (5, .int v5)], [.int v4, .int v5], 0, 0) 40 3 (fun _ => rfl) h) ?_
    cases b2 : pj_c1 .ge v5 v4 with
    | true =>
      rw [pj_cT]
      have ub2 := pj_u_geT b2
      refine pj_X_of (fun r h => pj_R_icT 85 rfl rfl b2 h) ?_
      have q3 : (pj_fi G 2 4).toInt = y1.toInt := by rw [show pj_fi G 2 4 = y1 from hy1.symm]
      exact pj_X_rt rfl rfl ⟨rfl, hI, hK, (fun H hH => by subst hH; exact (⟨by omega, x1_⟩)), rfl⟩
    | false =>
      rw [pj_cF]
      have ub2 := pj_u_geF b2
      refine pj_X_of (fun r h => pj_R_icF rfl b2 h) ?_
      refine pj_X_of (fun r h => pj_R_to (G, 45, [(0, .ref 27), (1, .ref 2), (2, .int lv), (3, .int dp), (4, .int v4), (5, .int v5)], [.int lv, .ref 2], 0, 0) 45 3 (fun _ => rfl) h) ?_
      have q4 : (pj_fi G 2 4).toInt = y1.toInt := by rw [show pj_fi G 2 4 = y1 from hy1.symm]
      refine pj_X_ca (vs := [.int lv]) rfl (fun _ => rfl) ⟨Nat.le_of_ble_eq_true rfl, Nat.le_of_ble_eq_true rfl, rfl⟩ ⟨rfl, rfl⟩ (pj_Y_up (by decide) (ct_61_2 G hI lv ⟨by omega, by omega⟩)) ?_
      rintro _ _ ⟨rfl, rfl⟩
      show pj_X _ _ G 48 [(0, .ref 27), (1, .ref 2), (2, .int lv), (3, .int dp), (4, .int v4), (5, .int v5)] [.retAddr 7, .ref 2] _
      have q6 : (pj_fi G 2 4).toInt = y1.toInt := by rw [show pj_fi G 2 4 = y1 from hy1.symm]
      refine pj_X_ca (vs := [.ref 2, .retAddr 7]) rfl (fun _ => rfl) ⟨Nat.le_of_ble_eq_true rfl, Nat.le_of_ble_eq_true rfl, pj_T_rcv hI rfl⟩ ⟨rfl, rfl⟩ (pj_Y_up (by decide) (ct_84_s7x G hI)) ?_
      rintro _ G8 ⟨y7, rfl, iG8, jG8, ry7, ey7, fy7⟩
      replace ey7 := ey7 _ rfl
      rw [← fy7, pj_bd_e]
      have kG8 : pj_kpt kc_62_2_2x G0 G8 := pj_kpt_t hK (pj_kpt_s jG8 rfl)
      have q9 : (pj_fi G8 2 4).toInt = (pj_fi G 2 4).toInt := by rw [jG8.1 (2, 4) (by decide)]
      obtain ⟨y10, hy10⟩ : ∃ z : Int32, z = pj_fi G8 2 4 := ⟨_, rfl⟩
      have ey10 : (pj_fi G8 2 4).toInt = y10.toInt := by rw [hy10]
      have ry10 : (-1 : Int) ≤ y10.toInt ∧ y10.toInt ≤ 80 := by rw [hy10]; exact iG8.2.1 2 4 (-1, 80) rfl
      show pj_X _ _ G8 51 [(0, .ref 27), (1, .ref 2), (2, .int lv), (3, .int dp), (4, .int v4), (5, .int v5)] [.int y7] _
      refine pj_X_of (fun r h => pj_R_to (G8, 56, [(6, .int y7), (0, .ref 27), (1, .ref 2), (2, .int lv), (3, .int dp), (4, .int v4), (5, .int v5)], [.int (Int32.ofInt (-1)), .int y7], 0, 0) 56 4 (fun _ => rfl) h) ?_
      cases b11 : pj_c1 .ne y7 (Int32.ofInt (-1)) with
      | true =>
        rw [pj_cT]
        have ub11 := pj_u_neT b11
        refine pj_X_of (fun r h => pj_R_icT 60 rfl rfl b11 h) ?_
        refine pj_X_of (fun r h => pj_R_to (G8, 65, [(6, .int y7), (0, .ref 27), (1, .ref 2), (2, .int lv), (3, .int dp), (4, .int v4), (5, .int v5)], [.int (lv + (Int32.ofInt 1)), .ref 2, .ref 27], 0, 0) 65 6 (fun _ => rfl) h) ?_
        obtain ⟨z12, hz12⟩ : ∃ z : Int32, z = lv + (Int32.ofInt 1) := ⟨_, rfl⟩
        refine pj_X_eqi hz12.symm ?_
        rw [← hz12, pj_nm_e]
        have fz12_0 : z12.toInt = lv.toInt + (Int32.ofInt 1).toInt := by rw [hz12]; exact pj_addI (by have := pj_i32 lv; have := pj_i32 (Int32.ofInt 1); omega) (by have := pj_i32 lv; have := pj_i32 (Int32.ofInt 1); omega)
        refine pj_X_of (fun r h => pj_R_to (G8, 66, [(6, .int y7), (0, .ref 27), (1, .ref 2), (2, .int lv), (3, .int dp), (4, .int v4), (5, .int v5)], [.int dp, .int z12, .ref 2, .ref 27], 0, 0) 66 2 (fun _ => rfl) h) ?_
        have q13 : (pj_fi G8 2 4).toInt = y10.toInt := by rw [show pj_fi G8 2 4 = y10 from hy10.symm]
        refine pj_X_ca (vs := [.ref 27, .ref 2, .int z12, .int dp]) rfl (fun _ => rfl) ⟨Nat.le_of_ble_eq_true rfl, Nat.le_of_ble_eq_true rfl, pj_T_rcv iG8 rfl⟩ ⟨rfl, rfl⟩ (pj_Y_up (by decide) (ct_62_3_2x G8 iG8 z12 dp ⟨by omega, by omega⟩ ⟨by omega, by omega⟩)) ?_
        rintro _ G15 ⟨rfl, iG15, jG15, eG15, fy14⟩
        replace eG15 := eG15 _ rfl
        rw [← fy14, pj_nm_e]
        have kG15 : pj_kpt kc_62_2_2x G0 G15 := pj_kpt_t kG8 (pj_kpt_s jG15 rfl)
        obtain ⟨y16, hy16⟩ : ∃ z : Int32, z = pj_fi G15 2 4 := ⟨_, rfl⟩
        have ey16 : (pj_fi G15 2 4).toInt = y16.toInt := by rw [hy16]
        have ry16 : (-1 : Int) ≤ y16.toInt ∧ y16.toInt ≤ 80 := by rw [hy16]; exact iG15.2.1 2 4 (-1, 80) rfl
        show pj_X _ _ G15 69 [(6, .int y7), (0, .ref 27), (1, .ref 2), (2, .int lv), (3, .int dp), (4, .int v4), (5, .int v5)] [] _
        refine pj_X_of (fun r h => pj_R_to (G15, 76, [(6, .int y7), (0, .ref 27), (1, .ref 2), (2, .int lv), (3, .int dp), (4, .int v4), (5, .int v5)], [.int (((Int16.ofInt 3000).toInt32) + y7), .ref 27], 0, 0) 76 5 (fun _ => rfl) h) ?_
        obtain ⟨z17, hz17⟩ : ∃ z : Int32, z = ((Int16.ofInt 3000).toInt32) + y7 := ⟨_, rfl⟩
        refine pj_X_eqi hz17.symm ?_
        rw [← hz17, pj_nm_e]
        have fz17_0 : z17.toInt = ((Int16.ofInt 3000).toInt32).toInt + y7.toInt := by rw [hz17]; exact pj_addI (by have := pj_i32 ((Int16.ofInt 3000).toInt32); have := pj_i32 y7; omega) (by have := pj_i32 ((Int16.ofInt 3000).toInt32); have := pj_i32 y7; omega)
        have q18 : (pj_fi G15 2 4).toInt = y16.toInt := by rw [show pj_fi G15 2 4 = y16 from hy16.symm]
        refine pj_X_ca (vs := [.ref 27, .int z17]) rfl (fun _ => rfl) ⟨Nat.le_of_ble_eq_true rfl, Nat.le_of_ble_eq_true rfl, pj_T_rcv iG15 rfl⟩ ⟨rfl, rfl⟩ (pj_Y_up (by decide) (ct_60x G15 iG15 z17 (by omega))) ?_
        rintro _ G20 ⟨rfl, iG20, jG20, eG20, fy19⟩
        replace eG20 := eG20 _ rfl
        rw [← fy19, pj_nm_e]
        have kG20 : pj_kpt kc_62_2_2x G0 G20 := pj_kpt_t kG15 (pj_kpt_s jG20 rfl)
        have q21 : (pj_fi G20 2 4).toInt = (pj_fi G15 2 4).toInt := by rw [jG20.1 (2, 4) (by decide)]
        obtain ⟨y22, hy22⟩ : ∃ z : Int32, z = pj_fi G20 2 4 := ⟨_, rfl⟩
        have ey22 : (pj_fi G20 2 4).toInt = y22.toInt := by rw [hy22]
        have ry22 : (-1 : Int) ≤ y22.toInt ∧ y22.toInt ≤ 80 := by rw [hy22]; exact iG20.2.1 2 4 (-1, 80) rfl
        show pj_X _ _ G20 79 [(6, .int y7), (0, .ref 27), (1, .ref 2), (2, .int lv), (3, .int dp), (4, .int v4), (5, .int v5)] [] _
        refine pj_X_of (fun r h => pj_R_to (G20, 82, [(5, .int (v5 + Int32.ofInt 1)), (6, .int y7), (0, .ref 27), (1, .ref 2), (2, .int lv), (3, .int dp), (4, .int v4)], [], 0, 0) 82 2 (fun _ => rfl) h) ?_
        obtain ⟨z23, hz23⟩ : ∃ z : Int32, z = v5 + Int32.ofInt 1 := ⟨_, rfl⟩
        rw [← hz23]
        rw [pj_nm_e]
        have fz23_0 : z23.toInt = v5.toInt + (Int32.ofInt 1).toInt := by rw [hz23]; exact pj_addI (by have := pj_i32 v5; have := pj_i32 (Int32.ofInt 1); omega) (by have := pj_i32 v5; have := pj_i32 (Int32.ofInt 1); omega)
        refine pj_X_of (fun r h => pj_R_to (G20, 36, [(5, .int z23), (6, .int y7), (0, .ref 27), (1, .ref 2), (2, .int lv), (3, .int dp), (4, .int v4)], [], 0, 0) 36 2 (fun _ => rfl) h) ?_
        have q24 : (pj_fi G20 2 4).toInt = y22.toInt := by rw [show pj_fi G20 2 4 = y22 from hy22.symm]
        exact pj_X_sub [(0, .ref 27), (1, .ref 2), (2, .int lv), (3, .int dp), (4, .int v4), (5, .int z23)] (show List.Nodup [0, 1, 2, 3, 4, 5] by decide) ⟨rfl, rfl, rfl, rfl, rfl, rfl, trivial⟩ (ih G20 iG20 kG20 v4 z23 ⟨by omega, by omega⟩ ⟨by omega, by omega⟩ (by omega) (pr_kc_t (pr_kc_t (pr_kc_t x1_ (pr_kc_k jG8 rfl)) eG15.2) eG20) (by omega))
      | false =>
        rw [pj_cF]
        have ub11 := pj_u_neF b11
        refine pj_X_of (fun r h => pj_R_icF rfl b11 h) ?_
        have q25 : (pj_fi G8 2 4).toInt = y10.toInt := by rw [show pj_fi G8 2 4 = y10 from hy10.symm]
        exact pj_X_rt rfl rfl ⟨rfl, iG8, kG8, (fun H hH => by subst hH; exact (⟨by omega, (pr_kc_t x1_ (pr_kc_k jG8 rfl))⟩)), rfl⟩
theorem ct_62_2_2x (G0 : pj_G) (hI : pj_Inv G0) (lv : Int32) (dp : Int32) (rlv : (2 : Int) ≤ lv.toInt ∧ lv.toInt ≤ 2) (rdp : (2 : Int) ≤ dp.toInt ∧ dp.toInt ≤ 2) : pj_Y 32 62 [.ref 27, .ref 2, .int lv, .int dp] G0 (fun v' G' => v' = none ∧ pj_Inv G' ∧ pj_kpt kc_62_2_2x G0 G' ∧ (∀ H, G0 = H → (((¬ (pj_fi H 2 4).toInt = -1 → (pj_fi G' 2 4).toInt = (pj_fi H 2 4).toInt)) ∧ (pr_kc H G'))) ∧ (G' = F_62_2_2x G0 lv dp)) := by
  have c0_ : ((Int16.ofInt 3000).toInt32).toInt = 3000 := by decide
  have c1_ : ((Int8.ofInt 40).toInt32).toInt = 40 := by decide
  have c2_ : (Int32.ofInt (-1)).toInt = -1 := by decide
  have c3_ : (Int32.ofInt 0).toInt = 0 := by decide
  have c4_ : (Int32.ofInt 1).toInt = 1 := by decide
  have c5_ : (Int32.ofInt 2).toInt = 2 := by decide
  refine pj_Y_X (M := pj_m62) rfl rfl (Nat.le_of_ble_eq_true rfl) ?_
  have hK : pj_kpt kc_62_2_2x G0 G0 := pj_kpt_r _ _
  show pj_X _ _ G0 0 [(0, .ref 27), (1, .ref 2), (2, .int lv), (3, .int dp)] [] _
  rw [F_62_2_2x_e]
  obtain ⟨y26, hy26⟩ : ∃ z : Int32, z = pj_fi G0 2 4 := ⟨_, rfl⟩
  have ey26 : (pj_fi G0 2 4).toInt = y26.toInt := by rw [hy26]
  have ry26 : (-1 : Int) ≤ y26.toInt ∧ y26.toInt ≤ 80 := by rw [hy26]; exact hI.2.1 2 4 (-1, 80) rfl
  refine pj_X_of (fun r h => pj_R_to (G0, 2, [(0, .ref 27), (1, .ref 2), (2, .int lv), (3, .int dp)], [.int (Int32.ofInt 2), .int lv], 0, 0) 2 3 (fun _ => rfl) h) ?_
  refine pj_X_of (fun r h => pj_R_icT 12 rfl rfl (pj_b_leT (by omega)) h) ?_
  refine pj_X_of (fun r h => pj_R_to (G0, 17, [(0, .ref 27), (1, .ref 2), (2, .int lv), (3, .int dp)], [.int (lv + (Int32.ofInt 1)), .ref 2, .ref 27], 0, 0) 17 6 (fun _ => rfl) h) ?_
  obtain ⟨z27, hz27⟩ : ∃ z : Int32, z = lv + (Int32.ofInt 1) := ⟨_, rfl⟩
  refine pj_X_eqi hz27.symm ?_
  rw [← hz27, pj_nm_e]
  have fz27_0 : z27.toInt = lv.toInt + (Int32.ofInt 1).toInt := by rw [hz27]; exact pj_addI (by have := pj_i32 lv; have := pj_i32 (Int32.ofInt 1); omega) (by have := pj_i32 lv; have := pj_i32 (Int32.ofInt 1); omega)
  refine pj_X_of (fun r h => pj_R_to (G0, 18, [(0, .ref 27), (1, .ref 2), (2, .int lv), (3, .int dp)], [.int dp, .int z27, .ref 2, .ref 27], 0, 0) 18 2 (fun _ => rfl) h) ?_
  have q28 : (pj_fi G0 2 4).toInt = y26.toInt := by rw [show pj_fi G0 2 4 = y26 from hy26.symm]
  refine pj_X_ca (vs := [.ref 27, .ref 2, .int z27, .int dp]) rfl (fun _ => rfl) ⟨Nat.le_of_ble_eq_true rfl, Nat.le_of_ble_eq_true rfl, pj_T_rcv hI rfl⟩ ⟨rfl, rfl⟩ (pj_Y_up (by decide) (ct_62_3_2x G0 hI z27 dp ⟨by omega, by omega⟩ ⟨by omega, by omega⟩)) ?_
  rintro _ G30 ⟨rfl, iG30, jG30, eG30, fy29⟩
  replace eG30 := eG30 _ rfl
  rw [← fy29, pj_nm_e]
  have kG30 : pj_kpt kc_62_2_2x G0 G30 := pj_kpt_t hK (pj_kpt_s jG30 rfl)
  obtain ⟨y31, hy31⟩ : ∃ z : Int32, z = pj_fi G30 2 4 := ⟨_, rfl⟩
  have ey31 : (pj_fi G30 2 4).toInt = y31.toInt := by rw [hy31]
  have ry31 : (-1 : Int) ≤ y31.toInt ∧ y31.toInt ≤ 80 := by rw [hy31]; exact iG30.2.1 2 4 (-1, 80) rfl
  show pj_X _ _ G30 21 [(0, .ref 27), (1, .ref 2), (2, .int lv), (3, .int dp)] [] _
  refine pj_X_of (fun r h => pj_R_to (G30, 22, [(0, .ref 27), (1, .ref 2), (2, .int lv), (3, .int dp)], [.int lv], 0, 0) 22 2 (fun _ => rfl) h) ?_
  refine pj_X_of (fun r h => pj_R_ifT 29 rfl rfl (pj_b0_neT (by omega)) h) ?_
  refine pj_X_of (fun r h => pj_R_to (G30, 36, [(5, .int (Int32.ofInt 0)), (4, .int ((Int8.ofInt 40).toInt32)), (0, .ref 27), (1, .ref 2), (2, .int lv), (3, .int dp)], [], 0, 0) 36 5 (fun _ => rfl) h) ?_
  have q32 : (pj_fi G30 2 4).toInt = y31.toInt := by rw [show pj_fi G30 2 4 = y31 from hy31.symm]
  exact pj_X_sub [(0, .ref 27), (1, .ref 2), (2, .int lv), (3, .int dp), (4, .int ((Int8.ofInt 40).toInt32)), (5, .int (Int32.ofInt 0))] (show List.Nodup [0, 1, 2, 3, 4, 5] by decide) ⟨rfl, rfl, rfl, rfl, rfl, rfl, trivial⟩ ((lp_ct_62_2_2x G0 hI lv dp rlv rdp 41) G30 iG30 kG30 ((Int8.ofInt 40).toInt32) (Int32.ofInt 0) ⟨by omega, by omega⟩ ⟨by omega, by omega⟩ (by omega) eG30.2 (by omega))
theorem fr_62_2_2x (G0 : pj_G) (hI : pj_Inv G0) (lv : Int32) (dp : Int32) (rlv : (2 : Int) ≤ lv.toInt ∧ lv.toInt ≤ 2) (rdp : (2 : Int) ≤ dp.toInt ∧ dp.toInt ≤ 2) : pj_Inv (F_62_2_2x G0 lv dp) ∧ pj_kpt kc_62_2_2x G0 (F_62_2_2x G0 lv dp) ∧ (((¬ (pj_fi G0 2 4).toInt = -1 → (pj_fi (F_62_2_2x G0 lv dp) 2 4).toInt = (pj_fi G0 2 4).toInt)) ∧ (pr_kc G0 (F_62_2_2x G0 lv dp))) := by
  obtain ⟨v, G', -, -, i, j, x, e⟩ := ct_62_2_2x G0 hI lv dp rlv rdp
  rw [← e]
  exact ⟨i, j, x _ rfl⟩
def kc_62_1_2x : pj_KT := ([(2, 3), (2, 4), (27, 3)], [2, 27, 28, 29], [28, 29])
noncomputable def L_62_1_2x (G0 : pj_G) (lv : Int32) (dp : Int32) (fu : Nat) : Int32 → Int32 → pj_G → pj_G := Nat.rec (motive := fun _ => Int32 → Int32 → pj_G → pj_G) (fun _ _ G => G) (fun _ ih v4 v5 G => cond (pj_c1 .ge v5 v4) (G) (pj_bd (F_84_s6x G) (fun y7 G8 => cond (pj_c1 .ne y7 (Int32.ofInt (-1))) (pj_nm (lv + (Int32.ofInt 1)) (fun z12 => pj_nm (F_62_2_2x G8 z12 dp) (fun G15 => pj_nm (((Int16.ofInt 3000).toInt32) + y7) (fun z17 => pj_nm (F_60x G15 z17) (fun G20 => pj_nm (v5 + Int32.ofInt 1) (fun z23 => ih v4 z23 G20)))))) (G8)))) fu
theorem L_62_1_2x_s0 (G0 : pj_G) (lv : Int32) (dp : Int32) (fu : Nat) (v4 : Int32) (v5 : Int32) (G : pj_G) : L_62_1_2x G0 lv dp (fu + 1) v4 v5 G = cond (pj_c1 .ge v5 v4) (G) (pj_bd (F_84_s6x G) (fun y7 G8 => cond (pj_c1 .ne y7 (Int32.ofInt (-1))) (pj_nm (lv + (Int32.ofInt 1)) (fun z12 => pj_nm (F_62_2_2x G8 z12 dp) (fun G15 => pj_nm (((Int16.ofInt 3000).toInt32) + y7) (fun z17 => pj_nm (F_60x G15 z17) (fun G20 => pj_nm (v5 + Int32.ofInt 1) (fun z23 => L_62_1_2x G0 lv dp fu v4 z23 G20)))))) (G8))) := rfl
noncomputable def F_62_1_2x (G0 : pj_G) (lv : Int32) (dp : Int32) : pj_G := pj_nm (lv + (Int32.ofInt 1)) (fun z27 => pj_nm (F_62_2_2x G0 z27 dp) (fun G30 => L_62_1_2x G0 lv dp 41 ((Int8.ofInt 40).toInt32) (Int32.ofInt 0) G30))
theorem F_62_1_2x_e (G0 : pj_G) (lv : Int32) (dp : Int32) : F_62_1_2x G0 lv dp = pj_nm (lv + (Int32.ofInt 1)) (fun z27 => pj_nm (F_62_2_2x G0 z27 dp) (fun G30 => L_62_1_2x G0 lv dp 41 ((Int8.ofInt 40).toInt32) (Int32.ofInt 0) G30)) := rfl
theorem lp_ct_62_1_2x (G0 : pj_G) (hI0 : pj_Inv G0) (lv : Int32) (dp : Int32) (rlv : (1 : Int) ≤ lv.toInt ∧ lv.toInt ≤ 1) (rdp : (2 : Int) ≤ dp.toInt ∧ dp.toInt ≤ 2) : ∀ mn : Nat, (∀ (G : pj_G) (hI : pj_Inv G) (hK : pj_kpt kc_62_1_2x G0 G) (v4 : Int32) (v5 : Int32), ((1 : Int) ≤ v4.toInt ∧ v4.toInt ≤ 40) → ((0 : Int) ≤ v5.toInt ∧ v5.toInt ≤ 40) → (¬ (pj_fi G0 2 4).toInt = -1 → (pj_fi G 2 4).toInt = (pj_fi G0 2 4).toInt) → (pr_kc G0 G) → 40 - v5.toInt < (mn : Int) → pj_X 32 pj_m62 G 36 [(0, .ref 27), (1, .ref 2), (2, .int lv), (3, .int dp), (4, .int v4), (5, .int v5)] [] (fun v' G' => v' = none ∧ pj_Inv G' ∧ pj_kpt kc_62_1_2x G0 G' ∧ (∀ H, G0 = H → (((¬ (pj_fi H 2 4).toInt = -1 → (pj_fi G' 2 4).toInt = (pj_fi H 2 4).toInt)) ∧ (pr_kc H G'))) ∧ (G' = L_62_1_2x G0 lv dp mn v4 v5 G))) := by
  have c0_ : ((Int16.ofInt 3000).toInt32).toInt = 3000 := by decide
  have c1_ : ((Int8.ofInt 40).toInt32).toInt = 40 := by decide
  have c2_ : (Int32.ofInt (-1)).toInt = -1 := by decide
  have c3_ : (Int32.ofInt 0).toInt = 0 := by decide
  have c4_ : (Int32.ofInt 1).toInt = 1 := by decide
  have c5_ : (Int32.ofInt 2).toInt = 2 := by decide
  intro mn
  induction mn with
  | zero =>
    intro G hI hK v4 v5 rv4 rv5 x0_ x1_ hm
    exfalso
    omega
  | succ mn ih =>
    intro G hI hK v4 v5 rv4 rv5 x0_ x1_ hm
    rw [L_62_1_2x_s0]
    obtain ⟨y1, hy1⟩ : ∃ z : Int32, z = pj_fi G 2 4 := ⟨_, rfl⟩
    have ey1 : (pj_fi G 2 4).toInt = y1.toInt := by rw [hy1]
    have ry1 : (-1 : Int) ≤ y1.toInt ∧ y1.toInt ≤ 80 := by rw [hy1]; exact hI.2.1 2 4 (-1, 80) rfl
    refine pj_X_of (fun r h => pj_R_to (G, 40, [(0, .ref 27), (1, .ref 2), (2, .int lv), (3, .int dp), (4, .int v4), (5, .int v5)], [.int v4, .int v5], 0, 0) 40 3 (fun _ => rfl) h) ?_
    cases b2 : pj_c1 .ge v5 v4 with
    | true =>
      rw [pj_cT]
      have ub2 := pj_u_geT b2
      refine pj_X_of (fun r h => pj_R_icT 85 rfl rfl b2 h) ?_
      have q3 : (pj_fi G 2 4).toInt = y1.toInt := by rw [show pj_fi G 2 4 = y1 from hy1.symm]
      exact pj_X_rt rfl rfl ⟨rfl, hI, hK, (fun H hH => by subst hH; exact (⟨by omega, x1_⟩)), rfl⟩
    | false =>
      rw [pj_cF]
      have ub2 := pj_u_geF b2
      refine pj_X_of (fun r h => pj_R_icF rfl b2 h) ?_
      refine pj_X_of (fun r h => pj_R_to (G, 45, [(0, .ref 27), (1, .ref 2), (2, .int lv), (3, .int dp), (4, .int v4), (5, .int v5)], [.int lv, .ref 2], 0, 0) 45 3 (fun _ => rfl) h) ?_
      have q4 : (pj_fi G 2 4).toInt = y1.toInt := by rw [show pj_fi G 2 4 = y1 from hy1.symm]
      refine pj_X_ca (vs := [.int lv]) rfl (fun _ => rfl) ⟨Nat.le_of_ble_eq_true rfl, Nat.le_of_ble_eq_true rfl, rfl⟩ ⟨rfl, rfl⟩ (pj_Y_up (by decide) (ct_61_1 G hI lv ⟨by omega, by omega⟩)) ?_
      rintro _ _ ⟨rfl, rfl⟩
      show pj_X _ _ G 48 [(0, .ref 27), (1, .ref 2), (2, .int lv), (3, .int dp), (4, .int v4), (5, .int v5)] [.retAddr 6, .ref 2] _
      have q6 : (pj_fi G 2 4).toInt = y1.toInt := by rw [show pj_fi G 2 4 = y1 from hy1.symm]
      refine pj_X_ca (vs := [.ref 2, .retAddr 6]) rfl (fun _ => rfl) ⟨Nat.le_of_ble_eq_true rfl, Nat.le_of_ble_eq_true rfl, pj_T_rcv hI rfl⟩ ⟨rfl, rfl⟩ (pj_Y_up (by decide) (ct_84_s6x G hI)) ?_
      rintro _ G8 ⟨y7, rfl, iG8, jG8, ry7, ey7, fy7⟩
      replace ey7 := ey7 _ rfl
      rw [← fy7, pj_bd_e]
      have kG8 : pj_kpt kc_62_1_2x G0 G8 := pj_kpt_t hK (pj_kpt_s jG8 rfl)
      have q9 : (pj_fi G8 2 4).toInt = (pj_fi G 2 4).toInt := by rw [jG8.1 (2, 4) (by decide)]
      obtain ⟨y10, hy10⟩ : ∃ z : Int32, z = pj_fi G8 2 4 := ⟨_, rfl⟩
      have ey10 : (pj_fi G8 2 4).toInt = y10.toInt := by rw [hy10]
      have ry10 : (-1 : Int) ≤ y10.toInt ∧ y10.toInt ≤ 80 := by rw [hy10]; exact iG8.2.1 2 4 (-1, 80) rfl
      show pj_X _ _ G8 51 [(0, .ref 27), (1, .ref 2), (2, .int lv), (3, .int dp), (4, .int v4), (5, .int v5)] [.int y7] _
      refine pj_X_of (fun r h => pj_R_to (G8, 56, [(6, .int y7), (0, .ref 27), (1, .ref 2), (2, .int lv), (3, .int dp), (4, .int v4), (5, .int v5)], [.int (Int32.ofInt (-1)), .int y7], 0, 0) 56 4 (fun _ => rfl) h) ?_
      cases b11 : pj_c1 .ne y7 (Int32.ofInt (-1)) with
      | true =>
        rw [pj_cT]
        have ub11 := pj_u_neT b11
        refine pj_X_of (fun r h => pj_R_icT 60 rfl rfl b11 h) ?_
        refine pj_X_of (fun r h => pj_R_to (G8, 65, [(6, .int y7), (0, .ref 27), (1, .ref 2), (2, .int lv), (3, .int dp), (4, .int v4), (5, .int v5)], [.int (lv + (Int32.ofInt 1)), .ref 2, .ref 27], 0, 0) 65 6 (fun _ => rfl) h) ?_
        obtain ⟨z12, hz12⟩ : ∃ z : Int32, z = lv + (Int32.ofInt 1) := ⟨_, rfl⟩
        refine pj_X_eqi hz12.symm ?_
        rw [← hz12, pj_nm_e]
        have fz12_0 : z12.toInt = lv.toInt + (Int32.ofInt 1).toInt := by rw [hz12]; exact pj_addI (by have := pj_i32 lv; have := pj_i32 (Int32.ofInt 1); omega) (by have := pj_i32 lv; have := pj_i32 (Int32.ofInt 1); omega)
        refine pj_X_of (fun r h => pj_R_to (G8, 66, [(6, .int y7), (0, .ref 27), (1, .ref 2), (2, .int lv), (3, .int dp), (4, .int v4), (5, .int v5)], [.int dp, .int z12, .ref 2, .ref 27], 0, 0) 66 2 (fun _ => rfl) h) ?_
        have q13 : (pj_fi G8 2 4).toInt = y10.toInt := by rw [show pj_fi G8 2 4 = y10 from hy10.symm]
        refine pj_X_ca (vs := [.ref 27, .ref 2, .int z12, .int dp]) rfl (fun _ => rfl) ⟨Nat.le_of_ble_eq_true rfl, Nat.le_of_ble_eq_true rfl, pj_T_rcv iG8 rfl⟩ ⟨rfl, rfl⟩ (pj_Y_up (by decide) (ct_62_2_2x G8 iG8 z12 dp ⟨by omega, by omega⟩ ⟨by omega, by omega⟩)) ?_
        rintro _ G15 ⟨rfl, iG15, jG15, eG15, fy14⟩
        replace eG15 := eG15 _ rfl
        rw [← fy14, pj_nm_e]
        have kG15 : pj_kpt kc_62_1_2x G0 G15 := pj_kpt_t kG8 (pj_kpt_s jG15 rfl)
        obtain ⟨y16, hy16⟩ : ∃ z : Int32, z = pj_fi G15 2 4 := ⟨_, rfl⟩
        have ey16 : (pj_fi G15 2 4).toInt = y16.toInt := by rw [hy16]
        have ry16 : (-1 : Int) ≤ y16.toInt ∧ y16.toInt ≤ 80 := by rw [hy16]; exact iG15.2.1 2 4 (-1, 80) rfl
        show pj_X _ _ G15 69 [(6, .int y7), (0, .ref 27), (1, .ref 2), (2, .int lv), (3, .int dp), (4, .int v4), (5, .int v5)] [] _
        refine pj_X_of (fun r h => pj_R_to (G15, 76, [(6, .int y7), (0, .ref 27), (1, .ref 2), (2, .int lv), (3, .int dp), (4, .int v4), (5, .int v5)], [.int (((Int16.ofInt 3000).toInt32) + y7), .ref 27], 0, 0) 76 5 (fun _ => rfl) h) ?_
        obtain ⟨z17, hz17⟩ : ∃ z : Int32, z = ((Int16.ofInt 3000).toInt32) + y7 := ⟨_, rfl⟩
        refine pj_X_eqi hz17.symm ?_
        rw [← hz17, pj_nm_e]
        have fz17_0 : z17.toInt = ((Int16.ofInt 3000).toInt32).toInt + y7.toInt := by rw [hz17]; exact pj_addI (by have := pj_i32 ((Int16.ofInt 3000).toInt32); have := pj_i32 y7; omega) (by have := pj_i32 ((Int16.ofInt 3000).toInt32); have := pj_i32 y7; omega)
        have q18 : (pj_fi G15 2 4).toInt = y16.toInt := by rw [show pj_fi G15 2 4 = y16 from hy16.symm]
        refine pj_X_ca (vs := [.ref 27, .int z17]) rfl (fun _ => rfl) ⟨Nat.le_of_ble_eq_true rfl, Nat.le_of_ble_eq_true rfl, pj_T_rcv iG15 rfl⟩ ⟨rfl, rfl⟩ (pj_Y_up (by decide) (ct_60x G15 iG15 z17 (by omega))) ?_
        rintro _ G20 ⟨rfl, iG20, jG20, eG20, fy19⟩
        replace eG20 := eG20 _ rfl
        rw [← fy19, pj_nm_e]
        have kG20 : pj_kpt kc_62_1_2x G0 G20 := pj_kpt_t kG15 (pj_kpt_s jG20 rfl)
        have q21 : (pj_fi G20 2 4).toInt = (pj_fi G15 2 4).toInt := by rw [jG20.1 (2, 4) (by decide)]
        obtain ⟨y22, hy22⟩ : ∃ z : Int32, z = pj_fi G20 2 4 := ⟨_, rfl⟩
        have ey22 : (pj_fi G20 2 4).toInt = y22.toInt := by rw [hy22]
        have ry22 : (-1 : Int) ≤ y22.toInt ∧ y22.toInt ≤ 80 := by rw [hy22]; exact iG20.2.1 2 4 (-1, 80) rfl
        show pj_X _ _ G20 79 [(6, .int y7), (0, .ref 27), (1, .ref 2), (2, .int lv), (3, .int dp), (4, .int v4), (5, .int v5)] [] _
        refine pj_X_of (fun r h => pj_R_to (G20, 82, [(5, .int (v5 + Int32.ofInt 1)), (6, .int y7), (0, .ref 27), (1, .ref 2), (2, .int lv), (3, .int dp), (4, .int v4)], [], 0, 0) 82 2 (fun _ => rfl) h) ?_
        obtain ⟨z23, hz23⟩ : ∃ z : Int32, z = v5 + Int32.ofInt 1 := ⟨_, rfl⟩
        rw [← hz23]
        rw [pj_nm_e]
        have fz23_0 : z23.toInt = v5.toInt + (Int32.ofInt 1).toInt := by rw [hz23]; exact pj_addI (by have := pj_i32 v5; have := pj_i32 (Int32.ofInt 1); omega) (by have := pj_i32 v5; have := pj_i32 (Int32.ofInt 1); omega)
        refine pj_X_of (fun r h => pj_R_to (G20, 36, [(5, .int z23), (6, .int y7), (0, .ref 27), (1, .ref 2), (2, .int lv), (3, .int dp), (4, .int v4)], [], 0, 0) 36 2 (fun _ => rfl) h) ?_
        have q24 : (pj_fi G20 2 4).toInt = y22.toInt := by rw [show pj_fi G20 2 4 = y22 from hy22.symm]
        exact pj_X_sub [(0, .ref 27), (1, .ref 2), (2, .int lv), (3, .int dp), (4, .int v4), (5, .int z23)] (show List.Nodup [0, 1, 2, 3, 4, 5] by decide) ⟨rfl, rfl, rfl, rfl, rfl, rfl, trivial⟩ (ih G20 iG20 kG20 v4 z23 ⟨by omega, by omega⟩ ⟨by omega, by omega⟩ (by omega) (pr_kc_t (pr_kc_t (pr_kc_t x1_ (pr_kc_k jG8 rfl)) eG15.2) eG20) (by omega))
      | false =>
        rw [pj_cF]
        have ub11 := pj_u_neF b11
        refine pj_X_of (fun r h => pj_R_icF rfl b11 h) ?_
        have q25 : (pj_fi G8 2 4).toInt = y10.toInt := by rw [show pj_fi G8 2 4 = y10 from hy10.symm]
        exact pj_X_rt rfl rfl ⟨rfl, iG8, kG8, (fun H hH => by subst hH; exact (⟨by omega, (pr_kc_t x1_ (pr_kc_k jG8 rfl))⟩)), rfl⟩
theorem ct_62_1_2x (G0 : pj_G) (hI : pj_Inv G0) (lv : Int32) (dp : Int32) (rlv : (1 : Int) ≤ lv.toInt ∧ lv.toInt ≤ 1) (rdp : (2 : Int) ≤ dp.toInt ∧ dp.toInt ≤ 2) : pj_Y 33 62 [.ref 27, .ref 2, .int lv, .int dp] G0 (fun v' G' => v' = none ∧ pj_Inv G' ∧ pj_kpt kc_62_1_2x G0 G' ∧ (∀ H, G0 = H → (((¬ (pj_fi H 2 4).toInt = -1 → (pj_fi G' 2 4).toInt = (pj_fi H 2 4).toInt)) ∧ (pr_kc H G'))) ∧ (G' = F_62_1_2x G0 lv dp)) := by
  have c0_ : ((Int16.ofInt 3000).toInt32).toInt = 3000 := by decide
  have c1_ : ((Int8.ofInt 40).toInt32).toInt = 40 := by decide
  have c2_ : (Int32.ofInt (-1)).toInt = -1 := by decide
  have c3_ : (Int32.ofInt 0).toInt = 0 := by decide
  have c4_ : (Int32.ofInt 1).toInt = 1 := by decide
  have c5_ : (Int32.ofInt 2).toInt = 2 := by decide
  refine pj_Y_X (M := pj_m62) rfl rfl (Nat.le_of_ble_eq_true rfl) ?_
  have hK : pj_kpt kc_62_1_2x G0 G0 := pj_kpt_r _ _
  show pj_X _ _ G0 0 [(0, .ref 27), (1, .ref 2), (2, .int lv), (3, .int dp)] [] _
  rw [F_62_1_2x_e]
  obtain ⟨y26, hy26⟩ : ∃ z : Int32, z = pj_fi G0 2 4 := ⟨_, rfl⟩
  have ey26 : (pj_fi G0 2 4).toInt = y26.toInt := by rw [hy26]
  have ry26 : (-1 : Int) ≤ y26.toInt ∧ y26.toInt ≤ 80 := by rw [hy26]; exact hI.2.1 2 4 (-1, 80) rfl
  refine pj_X_of (fun r h => pj_R_to (G0, 2, [(0, .ref 27), (1, .ref 2), (2, .int lv), (3, .int dp)], [.int (Int32.ofInt 2), .int lv], 0, 0) 2 3 (fun _ => rfl) h) ?_
  refine pj_X_of (fun r h => pj_R_icT 12 rfl rfl (pj_b_leT (by omega)) h) ?_
  refine pj_X_of (fun r h => pj_R_to (G0, 17, [(0, .ref 27), (1, .ref 2), (2, .int lv), (3, .int dp)], [.int (lv + (Int32.ofInt 1)), .ref 2, .ref 27], 0, 0) 17 6 (fun _ => rfl) h) ?_
  obtain ⟨z27, hz27⟩ : ∃ z : Int32, z = lv + (Int32.ofInt 1) := ⟨_, rfl⟩
  refine pj_X_eqi hz27.symm ?_
  rw [← hz27, pj_nm_e]
  have fz27_0 : z27.toInt = lv.toInt + (Int32.ofInt 1).toInt := by rw [hz27]; exact pj_addI (by have := pj_i32 lv; have := pj_i32 (Int32.ofInt 1); omega) (by have := pj_i32 lv; have := pj_i32 (Int32.ofInt 1); omega)
  refine pj_X_of (fun r h => pj_R_to (G0, 18, [(0, .ref 27), (1, .ref 2), (2, .int lv), (3, .int dp)], [.int dp, .int z27, .ref 2, .ref 27], 0, 0) 18 2 (fun _ => rfl) h) ?_
  have q28 : (pj_fi G0 2 4).toInt = y26.toInt := by rw [show pj_fi G0 2 4 = y26 from hy26.symm]
  refine pj_X_ca (vs := [.ref 27, .ref 2, .int z27, .int dp]) rfl (fun _ => rfl) ⟨Nat.le_of_ble_eq_true rfl, Nat.le_of_ble_eq_true rfl, pj_T_rcv hI rfl⟩ ⟨rfl, rfl⟩ (pj_Y_up (by decide) (ct_62_2_2x G0 hI z27 dp ⟨by omega, by omega⟩ ⟨by omega, by omega⟩)) ?_
  rintro _ G30 ⟨rfl, iG30, jG30, eG30, fy29⟩
  replace eG30 := eG30 _ rfl
  rw [← fy29, pj_nm_e]
  have kG30 : pj_kpt kc_62_1_2x G0 G30 := pj_kpt_t hK (pj_kpt_s jG30 rfl)
  obtain ⟨y31, hy31⟩ : ∃ z : Int32, z = pj_fi G30 2 4 := ⟨_, rfl⟩
  have ey31 : (pj_fi G30 2 4).toInt = y31.toInt := by rw [hy31]
  have ry31 : (-1 : Int) ≤ y31.toInt ∧ y31.toInt ≤ 80 := by rw [hy31]; exact iG30.2.1 2 4 (-1, 80) rfl
  show pj_X _ _ G30 21 [(0, .ref 27), (1, .ref 2), (2, .int lv), (3, .int dp)] [] _
  refine pj_X_of (fun r h => pj_R_to (G30, 22, [(0, .ref 27), (1, .ref 2), (2, .int lv), (3, .int dp)], [.int lv], 0, 0) 22 2 (fun _ => rfl) h) ?_
  refine pj_X_of (fun r h => pj_R_ifT 29 rfl rfl (pj_b0_neT (by omega)) h) ?_
  refine pj_X_of (fun r h => pj_R_to (G30, 36, [(5, .int (Int32.ofInt 0)), (4, .int ((Int8.ofInt 40).toInt32)), (0, .ref 27), (1, .ref 2), (2, .int lv), (3, .int dp)], [], 0, 0) 36 5 (fun _ => rfl) h) ?_
  have q32 : (pj_fi G30 2 4).toInt = y31.toInt := by rw [show pj_fi G30 2 4 = y31 from hy31.symm]
  exact pj_X_sub [(0, .ref 27), (1, .ref 2), (2, .int lv), (3, .int dp), (4, .int ((Int8.ofInt 40).toInt32)), (5, .int (Int32.ofInt 0))] (show List.Nodup [0, 1, 2, 3, 4, 5] by decide) ⟨rfl, rfl, rfl, rfl, rfl, rfl, trivial⟩ ((lp_ct_62_1_2x G0 hI lv dp rlv rdp 41) G30 iG30 kG30 ((Int8.ofInt 40).toInt32) (Int32.ofInt 0) ⟨by omega, by omega⟩ ⟨by omega, by omega⟩ (by omega) eG30.2 (by omega))
theorem fr_62_1_2x (G0 : pj_G) (hI : pj_Inv G0) (lv : Int32) (dp : Int32) (rlv : (1 : Int) ≤ lv.toInt ∧ lv.toInt ≤ 1) (rdp : (2 : Int) ≤ dp.toInt ∧ dp.toInt ≤ 2) : pj_Inv (F_62_1_2x G0 lv dp) ∧ pj_kpt kc_62_1_2x G0 (F_62_1_2x G0 lv dp) ∧ (((¬ (pj_fi G0 2 4).toInt = -1 → (pj_fi (F_62_1_2x G0 lv dp) 2 4).toInt = (pj_fi G0 2 4).toInt)) ∧ (pr_kc G0 (F_62_1_2x G0 lv dp))) := by
  obtain ⟨v, G', -, -, i, j, x, e⟩ := ct_62_1_2x G0 hI lv dp rlv rdp
  rw [← e]
  exact ⟨i, j, x _ rfl⟩
def kc_62_0_2x : pj_KT := ([(2, 3), (2, 4), (27, 3)], [2, 27, 28, 29], [28, 29])
noncomputable def L_62_0_2x (G0 : pj_G) (lv : Int32) (dp : Int32) (fu : Nat) : Int32 → Int32 → pj_G → pj_G := Nat.rec (motive := fun _ => Int32 → Int32 → pj_G → pj_G) (fun _ _ G => G) (fun _ ih v4 v5 G => cond (pj_c1 .ge v5 v4) (G) (pj_bd (F_84_s5x G) (fun y7 G8 => cond (pj_c1 .ne y7 (Int32.ofInt (-1))) (pj_nm (lv + (Int32.ofInt 1)) (fun z12 => pj_nm (F_62_1_2x G8 z12 dp) (fun G15 => pj_nm (((Int16.ofInt 3000).toInt32) + y7) (fun z17 => pj_nm (F_60x G15 z17) (fun G20 => pj_nm (v5 + Int32.ofInt 1) (fun z23 => ih v4 z23 G20)))))) (G8)))) fu
theorem L_62_0_2x_s0 (G0 : pj_G) (lv : Int32) (dp : Int32) (fu : Nat) (v4 : Int32) (v5 : Int32) (G : pj_G) : L_62_0_2x G0 lv dp (fu + 1) v4 v5 G = cond (pj_c1 .ge v5 v4) (G) (pj_bd (F_84_s5x G) (fun y7 G8 => cond (pj_c1 .ne y7 (Int32.ofInt (-1))) (pj_nm (lv + (Int32.ofInt 1)) (fun z12 => pj_nm (F_62_1_2x G8 z12 dp) (fun G15 => pj_nm (((Int16.ofInt 3000).toInt32) + y7) (fun z17 => pj_nm (F_60x G15 z17) (fun G20 => pj_nm (v5 + Int32.ofInt 1) (fun z23 => L_62_0_2x G0 lv dp fu v4 z23 G20)))))) (G8))) := rfl
noncomputable def F_62_0_2x (G0 : pj_G) (lv : Int32) (dp : Int32) : pj_G := pj_nm (lv + (Int32.ofInt 1)) (fun z27 => pj_nm (F_62_1_2x G0 z27 dp) (fun G30 => L_62_0_2x G0 lv dp 41 (Int32.ofInt 1) (Int32.ofInt 0) G30))
theorem F_62_0_2x_e (G0 : pj_G) (lv : Int32) (dp : Int32) : F_62_0_2x G0 lv dp = pj_nm (lv + (Int32.ofInt 1)) (fun z27 => pj_nm (F_62_1_2x G0 z27 dp) (fun G30 => L_62_0_2x G0 lv dp 41 (Int32.ofInt 1) (Int32.ofInt 0) G30)) := rfl
theorem lp_ct_62_0_2x (G0 : pj_G) (hI0 : pj_Inv G0) (lv : Int32) (dp : Int32) (rlv : (0 : Int) ≤ lv.toInt ∧ lv.toInt ≤ 0) (rdp : (2 : Int) ≤ dp.toInt ∧ dp.toInt ≤ 2) : ∀ mn : Nat, (∀ (G : pj_G) (hI : pj_Inv G) (hK : pj_kpt kc_62_0_2x G0 G) (v4 : Int32) (v5 : Int32), ((1 : Int) ≤ v4.toInt ∧ v4.toInt ≤ 40) → ((0 : Int) ≤ v5.toInt ∧ v5.toInt ≤ 40) → (¬ (pj_fi G0 2 4).toInt = -1 → (pj_fi G 2 4).toInt = (pj_fi G0 2 4).toInt) → (pr_kc G0 G) → 40 - v5.toInt < (mn : Int) → pj_X 33 pj_m62 G 36 [(0, .ref 27), (1, .ref 2), (2, .int lv), (3, .int dp), (4, .int v4), (5, .int v5)] [] (fun v' G' => v' = none ∧ pj_Inv G' ∧ pj_kpt kc_62_0_2x G0 G' ∧ (∀ H, G0 = H → (((¬ (pj_fi H 2 4).toInt = -1 → (pj_fi G' 2 4).toInt = (pj_fi H 2 4).toInt)) ∧ (pr_kc H G'))) ∧ (G' = L_62_0_2x G0 lv dp mn v4 v5 G))) := by
  have c0_ : ((Int16.ofInt 3000).toInt32).toInt = 3000 := by decide
  have c1_ : (Int32.ofInt (-1)).toInt = -1 := by decide
  have c2_ : (Int32.ofInt 0).toInt = 0 := by decide
  have c3_ : (Int32.ofInt 1).toInt = 1 := by decide
  have c4_ : (Int32.ofInt 2).toInt = 2 := by decide
  intro mn
  induction mn with
  | zero =>
    intro G hI hK v4 v5 rv4 rv5 x0_ x1_ hm
    exfalso
    omega
  | succ mn ih =>
    intro G hI hK v4 v5 rv4 rv5 x0_ x1_ hm
    rw [L_62_0_2x_s0]
    obtain ⟨y1, hy1⟩ : ∃ z : Int32, z = pj_fi G 2 4 := ⟨_, rfl⟩
    have ey1 : (pj_fi G 2 4).toInt = y1.toInt := by rw [hy1]
    have ry1 : (-1 : Int) ≤ y1.toInt ∧ y1.toInt ≤ 80 := by rw [hy1]; exact hI.2.1 2 4 (-1, 80) rfl
    refine pj_X_of (fun r h => pj_R_to (G, 40, [(0, .ref 27), (1, .ref 2), (2, .int lv), (3, .int dp), (4, .int v4), (5, .int v5)], [.int v4, .int v5], 0, 0) 40 3 (fun _ => rfl) h) ?_
    cases b2 : pj_c1 .ge v5 v4 with
    | true =>
      rw [pj_cT]
      have ub2 := pj_u_geT b2
      refine pj_X_of (fun r h => pj_R_icT 85 rfl rfl b2 h) ?_
      have q3 : (pj_fi G 2 4).toInt = y1.toInt := by rw [show pj_fi G 2 4 = y1 from hy1.symm]
      exact pj_X_rt rfl rfl ⟨rfl, hI, hK, (fun H hH => by subst hH; exact (⟨by omega, x1_⟩)), rfl⟩
    | false =>
      rw [pj_cF]
      have ub2 := pj_u_geF b2
      refine pj_X_of (fun r h => pj_R_icF rfl b2 h) ?_
      refine pj_X_of (fun r h => pj_R_to (G, 45, [(0, .ref 27), (1, .ref 2), (2, .int lv), (3, .int dp), (4, .int v4), (5, .int v5)], [.int lv, .ref 2], 0, 0) 45 3 (fun _ => rfl) h) ?_
      have q4 : (pj_fi G 2 4).toInt = y1.toInt := by rw [show pj_fi G 2 4 = y1 from hy1.symm]
      refine pj_X_ca (vs := [.int lv]) rfl (fun _ => rfl) ⟨Nat.le_of_ble_eq_true rfl, Nat.le_of_ble_eq_true rfl, rfl⟩ ⟨rfl, rfl⟩ (pj_Y_up (by decide) (ct_61_0 G hI lv ⟨by omega, by omega⟩)) ?_
      rintro _ _ ⟨rfl, rfl⟩
      show pj_X _ _ G 48 [(0, .ref 27), (1, .ref 2), (2, .int lv), (3, .int dp), (4, .int v4), (5, .int v5)] [.retAddr 5, .ref 2] _
      have q6 : (pj_fi G 2 4).toInt = y1.toInt := by rw [show pj_fi G 2 4 = y1 from hy1.symm]
      refine pj_X_ca (vs := [.ref 2, .retAddr 5]) rfl (fun _ => rfl) ⟨Nat.le_of_ble_eq_true rfl, Nat.le_of_ble_eq_true rfl, pj_T_rcv hI rfl⟩ ⟨rfl, rfl⟩ (pj_Y_up (by decide) (ct_84_s5x G hI)) ?_
      rintro _ G8 ⟨y7, rfl, iG8, jG8, ry7, ey7, fy7⟩
      replace ey7 := ey7 _ rfl
      rw [← fy7, pj_bd_e]
      have kG8 : pj_kpt kc_62_0_2x G0 G8 := pj_kpt_t hK (pj_kpt_s jG8 rfl)
      have q9 : (pj_fi G8 2 4).toInt = (pj_fi G 2 4).toInt := by rw [jG8.1 (2, 4) (by decide)]
      obtain ⟨y10, hy10⟩ : ∃ z : Int32, z = pj_fi G8 2 4 := ⟨_, rfl⟩
      have ey10 : (pj_fi G8 2 4).toInt = y10.toInt := by rw [hy10]
      have ry10 : (-1 : Int) ≤ y10.toInt ∧ y10.toInt ≤ 80 := by rw [hy10]; exact iG8.2.1 2 4 (-1, 80) rfl
      show pj_X _ _ G8 51 [(0, .ref 27), (1, .ref 2), (2, .int lv), (3, .int dp), (4, .int v4), (5, .int v5)] [.int y7] _
      refine pj_X_of (fun r h => pj_R_to (G8, 56, [(6, .int y7), (0, .ref 27), (1, .ref 2), (2, .int lv), (3, .int dp), (4, .int v4), (5, .int v5)], [.int (Int32.ofInt (-1)), .int y7], 0, 0) 56 4 (fun _ => rfl) h) ?_
      cases b11 : pj_c1 .ne y7 (Int32.ofInt (-1)) with
      | true =>
        rw [pj_cT]
        have ub11 := pj_u_neT b11
        refine pj_X_of (fun r h => pj_R_icT 60 rfl rfl b11 h) ?_
        refine pj_X_of (fun r h => pj_R_to (G8, 65, [(6, .int y7), (0, .ref 27), (1, .ref 2), (2, .int lv), (3, .int dp), (4, .int v4), (5, .int v5)], [.int (lv + (Int32.ofInt 1)), .ref 2, .ref 27], 0, 0) 65 6 (fun _ => rfl) h) ?_
        obtain ⟨z12, hz12⟩ : ∃ z : Int32, z = lv + (Int32.ofInt 1) := ⟨_, rfl⟩
        refine pj_X_eqi hz12.symm ?_
        rw [← hz12, pj_nm_e]
        have fz12_0 : z12.toInt = lv.toInt + (Int32.ofInt 1).toInt := by rw [hz12]; exact pj_addI (by have := pj_i32 lv; have := pj_i32 (Int32.ofInt 1); omega) (by have := pj_i32 lv; have := pj_i32 (Int32.ofInt 1); omega)
        refine pj_X_of (fun r h => pj_R_to (G8, 66, [(6, .int y7), (0, .ref 27), (1, .ref 2), (2, .int lv), (3, .int dp), (4, .int v4), (5, .int v5)], [.int dp, .int z12, .ref 2, .ref 27], 0, 0) 66 2 (fun _ => rfl) h) ?_
        have q13 : (pj_fi G8 2 4).toInt = y10.toInt := by rw [show pj_fi G8 2 4 = y10 from hy10.symm]
        refine pj_X_ca (vs := [.ref 27, .ref 2, .int z12, .int dp]) rfl (fun _ => rfl) ⟨Nat.le_of_ble_eq_true rfl, Nat.le_of_ble_eq_true rfl, pj_T_rcv iG8 rfl⟩ ⟨rfl, rfl⟩ (pj_Y_up (by decide) (ct_62_1_2x G8 iG8 z12 dp ⟨by omega, by omega⟩ ⟨by omega, by omega⟩)) ?_
        rintro _ G15 ⟨rfl, iG15, jG15, eG15, fy14⟩
        replace eG15 := eG15 _ rfl
        rw [← fy14, pj_nm_e]
        have kG15 : pj_kpt kc_62_0_2x G0 G15 := pj_kpt_t kG8 (pj_kpt_s jG15 rfl)
        obtain ⟨y16, hy16⟩ : ∃ z : Int32, z = pj_fi G15 2 4 := ⟨_, rfl⟩
        have ey16 : (pj_fi G15 2 4).toInt = y16.toInt := by rw [hy16]
        have ry16 : (-1 : Int) ≤ y16.toInt ∧ y16.toInt ≤ 80 := by rw [hy16]; exact iG15.2.1 2 4 (-1, 80) rfl
        show pj_X _ _ G15 69 [(6, .int y7), (0, .ref 27), (1, .ref 2), (2, .int lv), (3, .int dp), (4, .int v4), (5, .int v5)] [] _
        refine pj_X_of (fun r h => pj_R_to (G15, 76, [(6, .int y7), (0, .ref 27), (1, .ref 2), (2, .int lv), (3, .int dp), (4, .int v4), (5, .int v5)], [.int (((Int16.ofInt 3000).toInt32) + y7), .ref 27], 0, 0) 76 5 (fun _ => rfl) h) ?_
        obtain ⟨z17, hz17⟩ : ∃ z : Int32, z = ((Int16.ofInt 3000).toInt32) + y7 := ⟨_, rfl⟩
        refine pj_X_eqi hz17.symm ?_
        rw [← hz17, pj_nm_e]
        have fz17_0 : z17.toInt = ((Int16.ofInt 3000).toInt32).toInt + y7.toInt := by rw [hz17]; exact pj_addI (by have := pj_i32 ((Int16.ofInt 3000).toInt32); have := pj_i32 y7; omega) (by have := pj_i32 ((Int16.ofInt 3000).toInt32); have := pj_i32 y7; omega)
        have q18 : (pj_fi G15 2 4).toInt = y16.toInt := by rw [show pj_fi G15 2 4 = y16 from hy16.symm]
        refine pj_X_ca (vs := [.ref 27, .int z17]) rfl (fun _ => rfl) ⟨Nat.le_of_ble_eq_true rfl, Nat.le_of_ble_eq_true rfl, pj_T_rcv iG15 rfl⟩ ⟨rfl, rfl⟩ (pj_Y_up (by decide) (ct_60x G15 iG15 z17 (by omega))) ?_
        rintro _ G20 ⟨rfl, iG20, jG20, eG20, fy19⟩
        replace eG20 := eG20 _ rfl
        rw [← fy19, pj_nm_e]
        have kG20 : pj_kpt kc_62_0_2x G0 G20 := pj_kpt_t kG15 (pj_kpt_s jG20 rfl)
        have q21 : (pj_fi G20 2 4).toInt = (pj_fi G15 2 4).toInt := by rw [jG20.1 (2, 4) (by decide)]
        obtain ⟨y22, hy22⟩ : ∃ z : Int32, z = pj_fi G20 2 4 := ⟨_, rfl⟩
        have ey22 : (pj_fi G20 2 4).toInt = y22.toInt := by rw [hy22]
        have ry22 : (-1 : Int) ≤ y22.toInt ∧ y22.toInt ≤ 80 := by rw [hy22]; exact iG20.2.1 2 4 (-1, 80) rfl
        show pj_X _ _ G20 79 [(6, .int y7), (0, .ref 27), (1, .ref 2), (2, .int lv), (3, .int dp), (4, .int v4), (5, .int v5)] [] _
        refine pj_X_of (fun r h => pj_R_to (G20, 82, [(5, .int (v5 + Int32.ofInt 1)), (6, .int y7), (0, .ref 27), (1, .ref 2), (2, .int lv), (3, .int dp), (4, .int v4)], [], 0, 0) 82 2 (fun _ => rfl) h) ?_
        obtain ⟨z23, hz23⟩ : ∃ z : Int32, z = v5 + Int32.ofInt 1 := ⟨_, rfl⟩
        rw [← hz23]
        rw [pj_nm_e]
        have fz23_0 : z23.toInt = v5.toInt + (Int32.ofInt 1).toInt := by rw [hz23]; exact pj_addI (by have := pj_i32 v5; have := pj_i32 (Int32.ofInt 1); omega) (by have := pj_i32 v5; have := pj_i32 (Int32.ofInt 1); omega)
        refine pj_X_of (fun r h => pj_R_to (G20, 36, [(5, .int z23), (6, .int y7), (0, .ref 27), (1, .ref 2), (2, .int lv), (3, .int dp), (4, .int v4)], [], 0, 0) 36 2 (fun _ => rfl) h) ?_
        have q24 : (pj_fi G20 2 4).toInt = y22.toInt := by rw [show pj_fi G20 2 4 = y22 from hy22.symm]
        exact pj_X_sub [(0, .ref 27), (1, .ref 2), (2, .int lv), (3, .int dp), (4, .int v4), (5, .int z23)] (show List.Nodup [0, 1, 2, 3, 4, 5] by decide) ⟨rfl, rfl, rfl, rfl, rfl, rfl, trivial⟩ (ih G20 iG20 kG20 v4 z23 ⟨by omega, by omega⟩ ⟨by omega, by omega⟩ (by omega) (pr_kc_t (pr_kc_t (pr_kc_t x1_ (pr_kc_k jG8 rfl)) eG15.2) eG20) (by omega))
      | false =>
        rw [pj_cF]
        have ub11 := pj_u_neF b11
        refine pj_X_of (fun r h => pj_R_icF rfl b11 h) ?_
        have q25 : (pj_fi G8 2 4).toInt = y10.toInt := by rw [show pj_fi G8 2 4 = y10 from hy10.symm]
        exact pj_X_rt rfl rfl ⟨rfl, iG8, kG8, (fun H hH => by subst hH; exact (⟨by omega, (pr_kc_t x1_ (pr_kc_k jG8 rfl))⟩)), rfl⟩
theorem ct_62_0_2x (G0 : pj_G) (hI : pj_Inv G0) (lv : Int32) (dp : Int32) (rlv : (0 : Int) ≤ lv.toInt ∧ lv.toInt ≤ 0) (rdp : (2 : Int) ≤ dp.toInt ∧ dp.toInt ≤ 2) : pj_Y 34 62 [.ref 27, .ref 2, .int lv, .int dp] G0 (fun v' G' => v' = none ∧ pj_Inv G' ∧ pj_kpt kc_62_0_2x G0 G' ∧ (∀ H, G0 = H → (((¬ (pj_fi H 2 4).toInt = -1 → (pj_fi G' 2 4).toInt = (pj_fi H 2 4).toInt)) ∧ (pr_kc H G'))) ∧ (G' = F_62_0_2x G0 lv dp)) := by
  have c0_ : ((Int16.ofInt 3000).toInt32).toInt = 3000 := by decide
  have c1_ : (Int32.ofInt (-1)).toInt = -1 := by decide
  have c2_ : (Int32.ofInt 0).toInt = 0 := by decide
  have c3_ : (Int32.ofInt 1).toInt = 1 := by decide
  have c4_ : (Int32.ofInt 2).toInt = 2 := by decide
  refine pj_Y_X (M := pj_m62) rfl rfl (Nat.le_of_ble_eq_true rfl) ?_
  have hK : pj_kpt kc_62_0_2x G0 G0 := pj_kpt_r _ _
  show pj_X _ _ G0 0 [(0, .ref 27), (1, .ref 2), (2, .int lv), (3, .int dp)] [] _
  rw [F_62_0_2x_e]
  obtain ⟨y26, hy26⟩ : ∃ z : Int32, z = pj_fi G0 2 4 := ⟨_, rfl⟩
  have ey26 : (pj_fi G0 2 4).toInt = y26.toInt := by rw [hy26]
  have ry26 : (-1 : Int) ≤ y26.toInt ∧ y26.toInt ≤ 80 := by rw [hy26]; exact hI.2.1 2 4 (-1, 80) rfl
  refine pj_X_of (fun r h => pj_R_to (G0, 2, [(0, .ref 27), (1, .ref 2), (2, .int lv), (3, .int dp)], [.int (Int32.ofInt 2), .int lv], 0, 0) 2 3 (fun _ => rfl) h) ?_
  refine pj_X_of (fun r h => pj_R_icT 12 rfl rfl (pj_b_leT (by omega)) h) ?_
  refine pj_X_of (fun r h => pj_R_to (G0, 17, [(0, .ref 27), (1, .ref 2), (2, .int lv), (3, .int dp)], [.int (lv + (Int32.ofInt 1)), .ref 2, .ref 27], 0, 0) 17 6 (fun _ => rfl) h) ?_
  obtain ⟨z27, hz27⟩ : ∃ z : Int32, z = lv + (Int32.ofInt 1) := ⟨_, rfl⟩
  refine pj_X_eqi hz27.symm ?_
  rw [← hz27, pj_nm_e]
  have fz27_0 : z27.toInt = lv.toInt + (Int32.ofInt 1).toInt := by rw [hz27]; exact pj_addI (by have := pj_i32 lv; have := pj_i32 (Int32.ofInt 1); omega) (by have := pj_i32 lv; have := pj_i32 (Int32.ofInt 1); omega)
  refine pj_X_of (fun r h => pj_R_to (G0, 18, [(0, .ref 27), (1, .ref 2), (2, .int lv), (3, .int dp)], [.int dp, .int z27, .ref 2, .ref 27], 0, 0) 18 2 (fun _ => rfl) h) ?_
  have q28 : (pj_fi G0 2 4).toInt = y26.toInt := by rw [show pj_fi G0 2 4 = y26 from hy26.symm]
  refine pj_X_ca (vs := [.ref 27, .ref 2, .int z27, .int dp]) rfl (fun _ => rfl) ⟨Nat.le_of_ble_eq_true rfl, Nat.le_of_ble_eq_true rfl, pj_T_rcv hI rfl⟩ ⟨rfl, rfl⟩ (pj_Y_up (by decide) (ct_62_1_2x G0 hI z27 dp ⟨by omega, by omega⟩ ⟨by omega, by omega⟩)) ?_
  rintro _ G30 ⟨rfl, iG30, jG30, eG30, fy29⟩
  replace eG30 := eG30 _ rfl
  rw [← fy29, pj_nm_e]
  have kG30 : pj_kpt kc_62_0_2x G0 G30 := pj_kpt_t hK (pj_kpt_s jG30 rfl)
  obtain ⟨y31, hy31⟩ : ∃ z : Int32, z = pj_fi G30 2 4 := ⟨_, rfl⟩
  have ey31 : (pj_fi G30 2 4).toInt = y31.toInt := by rw [hy31]
  have ry31 : (-1 : Int) ≤ y31.toInt ∧ y31.toInt ≤ 80 := by rw [hy31]; exact iG30.2.1 2 4 (-1, 80) rfl
  show pj_X _ _ G30 21 [(0, .ref 27), (1, .ref 2), (2, .int lv), (3, .int dp)] [] _
  refine pj_X_of (fun r h => pj_R_to (G30, 22, [(0, .ref 27), (1, .ref 2), (2, .int lv), (3, .int dp)], [.int lv], 0, 0) 22 2 (fun _ => rfl) h) ?_
  refine pj_X_of (fun r h => pj_R_ifF rfl (pj_b0_neF (by omega)) h) ?_
  refine pj_X_of (fun r h => pj_R_to (G30, 36, [(5, .int (Int32.ofInt 0)), (4, .int (Int32.ofInt 1)), (0, .ref 27), (1, .ref 2), (2, .int lv), (3, .int dp)], [], 0, 0) 36 6 (fun _ => rfl) h) ?_
  have q32 : (pj_fi G30 2 4).toInt = y31.toInt := by rw [show pj_fi G30 2 4 = y31 from hy31.symm]
  exact pj_X_sub [(0, .ref 27), (1, .ref 2), (2, .int lv), (3, .int dp), (4, .int (Int32.ofInt 1)), (5, .int (Int32.ofInt 0))] (show List.Nodup [0, 1, 2, 3, 4, 5] by decide) ⟨rfl, rfl, rfl, rfl, rfl, rfl, trivial⟩ ((lp_ct_62_0_2x G0 hI lv dp rlv rdp 41) G30 iG30 kG30 (Int32.ofInt 1) (Int32.ofInt 0) ⟨by omega, by omega⟩ ⟨by omega, by omega⟩ (by omega) eG30.2 (by omega))
theorem fr_62_0_2x (G0 : pj_G) (hI : pj_Inv G0) (lv : Int32) (dp : Int32) (rlv : (0 : Int) ≤ lv.toInt ∧ lv.toInt ≤ 0) (rdp : (2 : Int) ≤ dp.toInt ∧ dp.toInt ≤ 2) : pj_Inv (F_62_0_2x G0 lv dp) ∧ pj_kpt kc_62_0_2x G0 (F_62_0_2x G0 lv dp) ∧ (((¬ (pj_fi G0 2 4).toInt = -1 → (pj_fi (F_62_0_2x G0 lv dp) 2 4).toInt = (pj_fi G0 2 4).toInt)) ∧ (pr_kc G0 (F_62_0_2x G0 lv dp))) := by
  obtain ⟨v, G', -, -, i, j, x, e⟩ := ct_62_0_2x G0 hI lv dp rlv rdp
  rw [← e]
  exact ⟨i, j, x _ rfl⟩
def kc_64_1x : pj_KT := ([(2, 3), (2, 4), (27, 3)], [2, 27, 28, 29], [28, 29])
noncomputable def F_64_1x (G0 : pj_G) (dp : Int32) : pj_G := pj_nm (F_85x G0) (fun y3 => cond (pj_c1 .eq y3 0) (pj_bd (F_82x G0 ((Int8.ofInt 40).toInt32)) (fun y6 G7 => cond (pj_c1 .eq y6 0) (pj_bd (F_84_s8x G7) (fun y12 G13 => cond (pj_c1 .ne y12 (Int32.ofInt (-1))) (pj_nm ((y12.toUInt32 % 65536).toInt32) (fun z17 => pj_nm (F_291_s8x G13 z17) (fun y19 => pj_nm (((Int16.ofInt 1000).toInt32) + y19) (fun z20 => pj_nm (F_60x G13 z20) (fun G23 => G23))))) (pj_nm (F_81x G13) (fun G29 => G29)))) (pj_nm (dp + (Int32.ofInt 1)) (fun z32 => pj_nm (F_62_0_2x G7 (Int32.ofInt 0) z32) (fun G35 => pj_bd (F_83x G35 ((Int8.ofInt 41).toInt32) ((Int8.ofInt 41).toInt32)) (fun y38 G39 => G39)))))) (pj_bd (F_86x G0 (Int32.ofInt 3)) (fun y43 G44 => pj_nm (F_60x G44 y43) (fun G48 => G48))))
theorem F_64_1x_e (G0 : pj_G) (dp : Int32) : F_64_1x G0 dp = pj_nm (F_85x G0) (fun y3 => cond (pj_c1 .eq y3 0) (pj_bd (F_82x G0 ((Int8.ofInt 40).toInt32)) (fun y6 G7 => cond (pj_c1 .eq y6 0) (pj_bd (F_84_s8x G7) (fun y12 G13 => cond (pj_c1 .ne y12 (Int32.ofInt (-1))) (pj_nm ((y12.toUInt32 % 65536).toInt32) (fun z17 => pj_nm (F_291_s8x G13 z17) (fun y19 => pj_nm (((Int16.ofInt 1000).toInt32) + y19) (fun z20 => pj_nm (F_60x G13 z20) (fun G23 => G23))))) (pj_nm (F_81x G13) (fun G29 => G29)))) (pj_nm (dp + (Int32.ofInt 1)) (fun z32 => pj_nm (F_62_0_2x G7 (Int32.ofInt 0) z32) (fun G35 => pj_bd (F_83x G35 ((Int8.ofInt 41).toInt32) ((Int8.ofInt 41).toInt32)) (fun y38 G39 => G39)))))) (pj_bd (F_86x G0 (Int32.ofInt 3)) (fun y43 G44 => pj_nm (F_60x G44 y43) (fun G48 => G48)))) := rfl
theorem ct_64_1x (G0 : pj_G) (hI : pj_Inv G0) (dp : Int32) (rdp : (1 : Int) ≤ dp.toInt ∧ dp.toInt ≤ 1) : pj_Y 35 64 [.ref 27, .ref 2, .int dp] G0 (fun v' G' => v' = none ∧ pj_Inv G' ∧ pj_kpt kc_64_1x G0 G' ∧ (∀ H, G0 = H → (((¬ (pj_fi H 2 4).toInt = -1 → (pj_fi G' 2 4).toInt = (pj_fi H 2 4).toInt)) ∧ (pr_kc H G'))) ∧ (G' = F_64_1x G0 dp)) := by
  have c0_ : ((Int16.ofInt 1000).toInt32).toInt = 1000 := by decide
  have c1_ : ((Int8.ofInt 40).toInt32).toInt = 40 := by decide
  have c2_ : ((Int8.ofInt 41).toInt32).toInt = 41 := by decide
  have c3_ : (Int32.ofInt (-1)).toInt = -1 := by decide
  have c4_ : (Int32.ofInt 0).toInt = 0 := by decide
  have c5_ : (Int32.ofInt 1).toInt = 1 := by decide
  have c6_ : (Int32.ofInt 3).toInt = 3 := by decide
  have c7_ : (Int32.ofInt 4).toInt = 4 := by decide
  refine pj_Y_X (M := pj_m64) rfl rfl (Nat.le_of_ble_eq_true rfl) ?_
  have hK : pj_kpt kc_64_1x G0 G0 := pj_kpt_r _ _
  show pj_X _ _ G0 0 [(0, .ref 27), (1, .ref 2), (2, .int dp)] [] _
  rw [F_64_1x_e]
  obtain ⟨y1, hy1⟩ : ∃ z : Int32, z = pj_fi G0 2 4 := ⟨_, rfl⟩
  have ey1 : (pj_fi G0 2 4).toInt = y1.toInt := by rw [hy1]
  have ry1 : (-1 : Int) ≤ y1.toInt ∧ y1.toInt ≤ 80 := by rw [hy1]; exact hI.2.1 2 4 (-1, 80) rfl
  refine pj_X_of (fun r h => pj_R_to (G0, 1, [(0, .ref 27), (1, .ref 2), (2, .int dp)], [.ref 2], 0, 0) 1 2 (fun _ => rfl) h) ?_
  have q2 : (pj_fi G0 2 4).toInt = y1.toInt := by rw [show pj_fi G0 2 4 = y1 from hy1.symm]
  refine pj_X_ca (vs := [.ref 2]) rfl (fun _ => rfl) ⟨Nat.le_of_ble_eq_true rfl, Nat.le_of_ble_eq_true rfl, pj_T_rcv hI rfl⟩ ⟨rfl, rfl⟩ (pj_Y_up (by decide) (ct_85x G0 hI)) ?_
  rintro _ _ ⟨y3, rfl, rfl, ry3, ey3, fy3⟩
  replace ey3 := ey3 _ rfl
  rw [← fy3, pj_nm_e]
  show pj_X _ _ G0 4 [(0, .ref 27), (1, .ref 2), (2, .int dp)] [.int y3] _
  cases b4 : pj_c1 .eq y3 0 with
  | true =>
    rw [pj_cT]
    have ub4 := pj_u0_eqT b4
    refine pj_X_of (fun r h => pj_R_ifT 19 rfl rfl b4 h) ?_
    refine pj_X_of (fun r h => pj_R_to (G0, 21, [(0, .ref 27), (1, .ref 2), (2, .int dp)], [.int (Int32.ofInt 4), .int dp], 0, 0) 21 3 (fun _ => rfl) h) ?_
    refine pj_X_of (fun r h => pj_R_icF rfl (pj_b_geF (by omega)) h) ?_
    refine pj_X_of (fun r h => pj_R_to (G0, 27, [(0, .ref 27), (1, .ref 2), (2, .int dp)], [.int ((Int8.ofInt 40).toInt32), .ref 2], 0, 0) 27 3 (fun _ => rfl) h) ?_
    have q5 : (pj_fi G0 2 4).toInt = y1.toInt := by rw [show pj_fi G0 2 4 = y1 from hy1.symm]
    refine pj_X_ca (vs := [.ref 2, .int ((Int8.ofInt 40).toInt32)]) rfl (fun _ => rfl) ⟨Nat.le_of_ble_eq_true rfl, Nat.le_of_ble_eq_true rfl, pj_T_rcv hI rfl⟩ ⟨rfl, rfl⟩ (pj_Y_up (by decide) (ct_82x G0 hI ((Int8.ofInt 40).toInt32) ⟨by omega, by omega⟩)) ?_
    rintro _ G7 ⟨y6, rfl, iG7, jG7, ry6, ey6, fy6⟩
    replace ey6 := ey6 _ rfl
    rw [← fy6, pj_bd_e]
    have kG7 : pj_kpt kc_64_1x G0 G7 := pj_kpt_t hK (pj_kpt_s jG7 rfl)
    have q8 : (pj_fi G7 2 4).toInt = (pj_fi G0 2 4).toInt := by rw [jG7.1 (2, 4) (by decide)]
    obtain ⟨y9, hy9⟩ : ∃ z : Int32, z = pj_fi G7 2 4 := ⟨_, rfl⟩
    have ey9 : (pj_fi G7 2 4).toInt = y9.toInt := by rw [hy9]
    have ry9 : (-1 : Int) ≤ y9.toInt ∧ y9.toInt ≤ 80 := by rw [hy9]; exact iG7.2.1 2 4 (-1, 80) rfl
    show pj_X _ _ G7 30 [(0, .ref 27), (1, .ref 2), (2, .int dp)] [.int y6] _
    cases b10 : pj_c1 .eq y6 0 with
    | true =>
      rw [pj_cT]
      have ub10 := pj_u0_eqT b10
      refine pj_X_of (fun r h => pj_R_ifT 54 rfl rfl b10 h) ?_
      refine pj_X_of (fun r h => pj_R_to (G7, 57, [(0, .ref 27), (1, .ref 2), (2, .int dp)], [.retAddr 8, .ref 2], 0, 0) 57 3 (fun _ => rfl) h) ?_
      have q11 : (pj_fi G7 2 4).toInt = y9.toInt := by rw [show pj_fi G7 2 4 = y9 from hy9.symm]
      refine pj_X_ca (vs := [.ref 2, .retAddr 8]) rfl (fun _ => rfl) ⟨Nat.le_of_ble_eq_true rfl, Nat.le_of_ble_eq_true rfl, pj_T_rcv iG7 rfl⟩ ⟨rfl, rfl⟩ (pj_Y_up (by decide) (ct_84_s8x G7 iG7)) ?_
      rintro _ G13 ⟨y12, rfl, iG13, jG13, ry12, ey12, fy12⟩
      replace ey12 := ey12 _ rfl
      rw [← fy12, pj_bd_e]
      have kG13 : pj_kpt kc_64_1x G0 G13 := pj_kpt_t kG7 (pj_kpt_s jG13 rfl)
      have q14 : (pj_fi G13 2 4).toInt = (pj_fi G7 2 4).toInt := by rw [jG13.1 (2, 4) (by decide)]
      obtain ⟨y15, hy15⟩ : ∃ z : Int32, z = pj_fi G13 2 4 := ⟨_, rfl⟩
      have ey15 : (pj_fi G13 2 4).toInt = y15.toInt := by rw [hy15]
      have ry15 : (-1 : Int) ≤ y15.toInt ∧ y15.toInt ≤ 80 := by rw [hy15]; exact iG13.2.1 2 4 (-1, 80) rfl
      show pj_X _ _ G13 60 [(0, .ref 27), (1, .ref 2), (2, .int dp)] [.int y12] _
      refine pj_X_of (fun r h => pj_R_to (G13, 63, [(3, .int y12), (0, .ref 27), (1, .ref 2), (2, .int dp)], [.int (Int32.ofInt (-1)), .int y12], 0, 0) 63 4 (fun _ => rfl) h) ?_
      cases b16 : pj_c1 .ne y12 (Int32.ofInt (-1)) with
      | true =>
        rw [pj_cT]
        have ub16 := pj_u_neT b16
        refine pj_X_of (fun r h => pj_R_icT 73 rfl rfl b16 h) ?_
        refine pj_X_of (fun r h => pj_R_to (G13, 81, [(3, .int y12), (0, .ref 27), (1, .ref 2), (2, .int dp)], [.int ((y12.toUInt32 % 65536).toInt32), .retAddr 8, .int ((Int16.ofInt 1000).toInt32), .ref 27], 0, 0) 81 6 (fun _ => rfl) h) ?_
        obtain ⟨z17, hz17⟩ : ∃ z : Int32, z = (y12.toUInt32 % 65536).toInt32 := ⟨_, rfl⟩
        refine pj_X_eqi hz17.symm ?_
        rw [← hz17, pj_nm_e]
        have fz17_0 : z17.toInt = y12.toInt := by rw [hz17]; exact pj_i2cI (by omega) (by omega)
        have q18 : (pj_fi G13 2 4).toInt = y15.toInt := by rw [show pj_fi G13 2 4 = y15 from hy15.symm]
        refine pj_X_ca (vs := [.retAddr 8, .int z17]) rfl (fun _ => rfl) ⟨Nat.le_of_ble_eq_true rfl, Nat.le_of_ble_eq_true rfl, rfl⟩ ⟨rfl, rfl⟩ (pj_Y_up (by decide) (ct_290_s8x G13 iG13 z17 ⟨by omega, by omega⟩)) ?_
        rintro _ _ ⟨y19, rfl, rfl, ry19, fy19⟩
        rw [← fy19, pj_nm_e]
        show pj_X _ _ G13 84 [(3, .int y12), (0, .ref 27), (1, .ref 2), (2, .int dp)] [.int y19, .int ((Int16.ofInt 1000).toInt32), .ref 27] _
        refine pj_X_of (fun r h => pj_R_to (G13, 85, [(3, .int y12), (0, .ref 27), (1, .ref 2), (2, .int dp)], [.int (((Int16.ofInt 1000).toInt32) + y19), .ref 27], 0, 0) 85 2 (fun _ => rfl) h) ?_
        obtain ⟨z20, hz20⟩ : ∃ z : Int32, z = ((Int16.ofInt 1000).toInt32) + y19 := ⟨_, rfl⟩
        refine pj_X_eqi hz20.symm ?_
        rw [← hz20, pj_nm_e]
        have fz20_0 : z20.toInt = ((Int16.ofInt 1000).toInt32).toInt + y19.toInt := by rw [hz20]; exact pj_addI (by have := pj_i32 ((Int16.ofInt 1000).toInt32); have := pj_i32 y19; omega) (by have := pj_i32 ((Int16.ofInt 1000).toInt32); have := pj_i32 y19; omega)
        have q21 : (pj_fi G13 2 4).toInt = y15.toInt := by rw [show pj_fi G13 2 4 = y15 from hy15.symm]
        refine pj_X_ca (vs := [.ref 27, .int z20]) rfl (fun _ => rfl) ⟨Nat.le_of_ble_eq_true rfl, Nat.le_of_ble_eq_true rfl, pj_T_rcv iG13 rfl⟩ ⟨rfl, rfl⟩ (pj_Y_up (by decide) (ct_60x G13 iG13 z20 (by omega))) ?_
        rintro _ G23 ⟨rfl, iG23, jG23, eG23, fy22⟩
        replace eG23 := eG23 _ rfl
        rw [← fy22, pj_nm_e]
        have kG23 : pj_kpt kc_64_1x G0 G23 := pj_kpt_t kG13 (pj_kpt_s jG23 rfl)
        have q24 : (pj_fi G23 2 4).toInt = (pj_fi G13 2 4).toInt := by rw [jG23.1 (2, 4) (by decide)]
        obtain ⟨y25, hy25⟩ : ∃ z : Int32, z = pj_fi G23 2 4 := ⟨_, rfl⟩
        have ey25 : (pj_fi G23 2 4).toInt = y25.toInt := by rw [hy25]
        have ry25 : (-1 : Int) ≤ y25.toInt ∧ y25.toInt ≤ 80 := by rw [hy25]; exact iG23.2.1 2 4 (-1, 80) rfl
        show pj_X _ _ G23 88 [(3, .int y12), (0, .ref 27), (1, .ref 2), (2, .int dp)] [] _
        have q26 : (pj_fi G23 2 4).toInt = y25.toInt := by rw [show pj_fi G23 2 4 = y25 from hy25.symm]
        exact pj_X_rt rfl rfl ⟨rfl, iG23, kG23, (fun H hH => by subst hH; exact (⟨by omega, (pr_kc_t (pr_kc_t (pr_kc_k jG7 rfl) (pr_kc_k jG13 rfl)) eG23)⟩)), rfl⟩
      | false =>
        rw [pj_cF]
        have ub16 := pj_u_neF b16
        refine pj_X_of (fun r h => pj_R_icF rfl b16 h) ?_
        refine pj_X_of (fun r h => pj_R_to (G13, 67, [(3, .int y12), (0, .ref 27), (1, .ref 2), (2, .int dp)], [.ref 2], 0, 0) 67 2 (fun _ => rfl) h) ?_
        have q27 : (pj_fi G13 2 4).toInt = y15.toInt := by rw [show pj_fi G13 2 4 = y15 from hy15.symm]
        refine pj_X_ca (vs := [.ref 2]) rfl (fun _ => rfl) ⟨Nat.le_of_ble_eq_true rfl, Nat.le_of_ble_eq_true rfl, pj_T_rcv iG13 rfl⟩ ⟨rfl, rfl⟩ (pj_Y_up (by decide) (ct_81x G13 iG13)) ?_
        rintro _ G29 ⟨rfl, iG29, jG29, eG29, fy28⟩
        replace eG29 := eG29 _ rfl
        rw [← fy28, pj_nm_e]
        have kG29 : pj_kpt kc_64_1x G0 G29 := pj_kpt_t kG13 (pj_kpt_s jG29 rfl)
        obtain ⟨y30, hy30⟩ : ∃ z : Int32, z = pj_fi G29 2 4 := ⟨_, rfl⟩
        have ey30 : (pj_fi G29 2 4).toInt = y30.toInt := by rw [hy30]
        have ry30 : (-1 : Int) ≤ y30.toInt ∧ y30.toInt ≤ 80 := by rw [hy30]; exact iG29.2.1 2 4 (-1, 80) rfl
        show pj_X _ _ G29 70 [(3, .int y12), (0, .ref 27), (1, .ref 2), (2, .int dp)] [] _
        refine pj_X_of (fun r h => pj_R_to (G29, 88, [(3, .int y12), (0, .ref 27), (1, .ref 2), (2, .int dp)], [], 0, 0) 88 2 (fun _ => rfl) h) ?_
        have q31 : (pj_fi G29 2 4).toInt = y30.toInt := by rw [show pj_fi G29 2 4 = y30 from hy30.symm]
        exact pj_X_rt rfl rfl ⟨rfl, iG29, kG29, (fun H hH => by subst hH; exact (⟨by omega, (pr_kc_t (pr_kc_t (pr_kc_k jG7 rfl) (pr_kc_k jG13 rfl)) (pr_kc_k jG29 rfl))⟩)), rfl⟩
    | false =>
      rw [pj_cF]
      have ub10 := pj_u0_eqF b10
      refine pj_X_of (fun r h => pj_R_ifF rfl b10 h) ?_
      refine pj_X_of (fun r h => pj_R_to (G7, 39, [(0, .ref 27), (1, .ref 2), (2, .int dp)], [.int (dp + (Int32.ofInt 1)), .int (Int32.ofInt 0), .ref 2, .ref 27], 0, 0) 39 7 (fun _ => rfl) h) ?_
      obtain ⟨z32, hz32⟩ : ∃ z : Int32, z = dp + (Int32.ofInt 1) := ⟨_, rfl⟩
      refine pj_X_eqi hz32.symm ?_
      rw [← hz32, pj_nm_e]
      have fz32_0 : z32.toInt = dp.toInt + (Int32.ofInt 1).toInt := by rw [hz32]; exact pj_addI (by have := pj_i32 dp; have := pj_i32 (Int32.ofInt 1); omega) (by have := pj_i32 dp; have := pj_i32 (Int32.ofInt 1); omega)
      have q33 : (pj_fi G7 2 4).toInt = y9.toInt := by rw [show pj_fi G7 2 4 = y9 from hy9.symm]
      refine pj_X_ca (vs := [.ref 27, .ref 2, .int (Int32.ofInt 0), .int z32]) rfl (fun _ => rfl) ⟨Nat.le_of_ble_eq_true rfl, Nat.le_of_ble_eq_true rfl, pj_T_rcv iG7 rfl⟩ ⟨rfl, rfl⟩ (pj_Y_up (by decide) (ct_62_0_2x G7 iG7 (Int32.ofInt 0) z32 ⟨by omega, by omega⟩ ⟨by omega, by omega⟩)) ?_
      rintro _ G35 ⟨rfl, iG35, jG35, eG35, fy34⟩
      replace eG35 := eG35 _ rfl
      rw [← fy34, pj_nm_e]
      have kG35 : pj_kpt kc_64_1x G0 G35 := pj_kpt_t kG7 (pj_kpt_s jG35 rfl)
      obtain ⟨y36, hy36⟩ : ∃ z : Int32, z = pj_fi G35 2 4 := ⟨_, rfl⟩
      have ey36 : (pj_fi G35 2 4).toInt = y36.toInt := by rw [hy36]
      have ry36 : (-1 : Int) ≤ y36.toInt ∧ y36.toInt ≤ 80 := by rw [hy36]; exact iG35.2.1 2 4 (-1, 80) rfl
      show pj_X _ _ G35 42 [(0, .ref 27), (1, .ref 2), (2, .int dp)] [] _
      refine pj_X_of (fun r h => pj_R_to (G35, 47, [(0, .ref 27), (1, .ref 2), (2, .int dp)], [.int ((Int8.ofInt 41).toInt32), .int ((Int8.ofInt 41).toInt32), .ref 2], 0, 0) 47 4 (fun _ => rfl) h) ?_
      have q37 : (pj_fi G35 2 4).toInt = y36.toInt := by rw [show pj_fi G35 2 4 = y36 from hy36.symm]
      refine pj_X_ca (vs := [.ref 2, .int ((Int8.ofInt 41).toInt32), .int ((Int8.ofInt 41).toInt32)]) rfl (fun _ => rfl) ⟨Nat.le_of_ble_eq_true rfl, Nat.le_of_ble_eq_true rfl, pj_T_rcv iG35 rfl⟩ ⟨rfl, rfl⟩ (pj_Y_up (by decide) (ct_83x G35 iG35 ((Int8.ofInt 41).toInt32) ((Int8.ofInt 41).toInt32) ⟨by omega, by omega⟩ ⟨by omega, by omega⟩)) ?_
      rintro _ G39 ⟨y38, rfl, iG39, jG39, ry38, ey38, fy38⟩
      replace ey38 := ey38 _ rfl
      rw [← fy38, pj_bd_e]
      have kG39 : pj_kpt kc_64_1x G0 G39 := pj_kpt_t kG35 (pj_kpt_s jG39 rfl)
      obtain ⟨y40, hy40⟩ : ∃ z : Int32, z = pj_fi G39 2 4 := ⟨_, rfl⟩
      have ey40 : (pj_fi G39 2 4).toInt = y40.toInt := by rw [hy40]
      have ry40 : (-1 : Int) ≤ y40.toInt ∧ y40.toInt ≤ 80 := by rw [hy40]; exact iG39.2.1 2 4 (-1, 80) rfl
      show pj_X _ _ G39 50 [(0, .ref 27), (1, .ref 2), (2, .int dp)] [.int y38] _
      refine pj_X_of (fun r h => pj_R_to (G39, 88, [(0, .ref 27), (1, .ref 2), (2, .int dp)], [], 0, 0) 88 3 (fun _ => rfl) h) ?_
      have q41 : (pj_fi G39 2 4).toInt = y40.toInt := by rw [show pj_fi G39 2 4 = y40 from hy40.symm]
      exact pj_X_rt rfl rfl ⟨rfl, iG39, kG39, (fun H hH => by subst hH; exact (⟨by omega, (pr_kc_t (pr_kc_t (pr_kc_k jG7 rfl) eG35.2) (pr_kc_k jG39 rfl))⟩)), rfl⟩
  | false =>
    rw [pj_cF]
    have ub4 := pj_u0_eqF b4
    refine pj_X_of (fun r h => pj_R_ifF rfl b4 h) ?_
    refine pj_X_of (fun r h => pj_R_to (G0, 10, [(0, .ref 27), (1, .ref 2), (2, .int dp)], [.int (Int32.ofInt 3), .ref 2, .ref 27], 0, 0) 10 4 (fun _ => rfl) h) ?_
    have q42 : (pj_fi G0 2 4).toInt = y1.toInt := by rw [show pj_fi G0 2 4 = y1 from hy1.symm]
    refine pj_X_ca (vs := [.ref 2, .int (Int32.ofInt 3)]) rfl (fun _ => rfl) ⟨Nat.le_of_ble_eq_true rfl, Nat.le_of_ble_eq_true rfl, pj_T_rcv hI rfl⟩ ⟨rfl, rfl⟩ (pj_Y_up (by decide) (ct_86x G0 hI (Int32.ofInt 3) ⟨by omega, by omega⟩)) ?_
    rintro _ G44 ⟨y43, rfl, iG44, jG44, ry43, fy43⟩
    rw [← fy43, pj_bd_e]
    have kG44 : pj_kpt kc_64_1x G0 G44 := pj_kpt_t hK (pj_kpt_s jG44 rfl)
    obtain ⟨y45, hy45⟩ : ∃ z : Int32, z = pj_fi G44 2 4 := ⟨_, rfl⟩
    have ey45 : (pj_fi G44 2 4).toInt = y45.toInt := by rw [hy45]
    have ry45 : (-1 : Int) ≤ y45.toInt ∧ y45.toInt ≤ 80 := by rw [hy45]; exact iG44.2.1 2 4 (-1, 80) rfl
    show pj_X _ _ G44 13 [(0, .ref 27), (1, .ref 2), (2, .int dp)] [.int y43, .ref 27] _
    have q46 : (pj_fi G44 2 4).toInt = y45.toInt := by rw [show pj_fi G44 2 4 = y45 from hy45.symm]
    refine pj_X_ca (vs := [.ref 27, .int y43]) rfl (fun _ => rfl) ⟨Nat.le_of_ble_eq_true rfl, Nat.le_of_ble_eq_true rfl, pj_T_rcv iG44 rfl⟩ ⟨rfl, rfl⟩ (pj_Y_up (by decide) (ct_60x G44 iG44 y43 (by omega))) ?_
    rintro _ G48 ⟨rfl, iG48, jG48, eG48, fy47⟩
    replace eG48 := eG48 _ rfl
    rw [← fy47, pj_nm_e]
    have kG48 : pj_kpt kc_64_1x G0 G48 := pj_kpt_t kG44 (pj_kpt_s jG48 rfl)
    have q49 : (pj_fi G48 2 4).toInt = (pj_fi G44 2 4).toInt := by rw [jG48.1 (2, 4) (by decide)]
    obtain ⟨y50, hy50⟩ : ∃ z : Int32, z = pj_fi G48 2 4 := ⟨_, rfl⟩
    have ey50 : (pj_fi G48 2 4).toInt = y50.toInt := by rw [hy50]
    have ry50 : (-1 : Int) ≤ y50.toInt ∧ y50.toInt ≤ 80 := by rw [hy50]; exact iG48.2.1 2 4 (-1, 80) rfl
    show pj_X _ _ G48 16 [(0, .ref 27), (1, .ref 2), (2, .int dp)] [] _
    refine pj_X_of (fun r h => pj_R_to (G48, 88, [(0, .ref 27), (1, .ref 2), (2, .int dp)], [], 0, 0) 88 2 (fun _ => rfl) h) ?_
    have q51 : (pj_fi G48 2 4).toInt = y50.toInt := by rw [show pj_fi G48 2 4 = y50 from hy50.symm]
    exact pj_X_rt rfl rfl ⟨rfl, iG48, kG48, (fun H hH => by subst hH; exact (⟨by omega, (pr_kc_t (pr_kc_k jG44 rfl) eG48)⟩)), rfl⟩
theorem fr_64_1x (G0 : pj_G) (hI : pj_Inv G0) (dp : Int32) (rdp : (1 : Int) ≤ dp.toInt ∧ dp.toInt ≤ 1) : pj_Inv (F_64_1x G0 dp) ∧ pj_kpt kc_64_1x G0 (F_64_1x G0 dp) ∧ (((¬ (pj_fi G0 2 4).toInt = -1 → (pj_fi (F_64_1x G0 dp) 2 4).toInt = (pj_fi G0 2 4).toInt)) ∧ (pr_kc G0 (F_64_1x G0 dp))) := by
  obtain ⟨v, G', -, -, i, j, x, e⟩ := ct_64_1x G0 hI dp rdp
  rw [← e]
  exact ⟨i, j, x _ rfl⟩
def kc_63_1x : pj_KT := ([(2, 3), (2, 4), (27, 3)], [2, 27, 28, 29], [28, 29])
noncomputable def L_63_1x (G0 : pj_G) (dp : Int32) (fu : Nat) : Int32 → Int32 → pj_G → pj_G := Nat.rec (motive := fun _ => Int32 → Int32 → pj_G → pj_G) (fun _ _ G => G) (fun _ ih v3 v4 G => cond (pj_c1 .ge v4 ((Int8.ofInt 40).toInt32)) (pj_nm (F_64_1x G dp) (fun G5 => cond (pj_c1 .eq v3 0) (G5) (pj_nm (F_60x G5 ((Int16.ofInt 2000).toInt32)) (fun G11 => G11)))) (pj_bd (F_82x G ((Int8.ofInt 45).toInt32)) (fun y16 G17 => cond (pj_c1 .eq y16 0) (pj_nm (F_64_1x G17 dp) (fun G23 => cond (pj_c1 .eq v3 0) (G23) (pj_nm (F_60x G23 ((Int16.ofInt 2000).toInt32)) (fun G29 => G29)))) (cond (pj_c1 .ne v3 0) (pj_nm (v4 + Int32.ofInt 1) (fun z34 => ih (Int32.ofInt 0) z34 G17)) (pj_nm (v4 + Int32.ofInt 1) (fun z36 => ih (Int32.ofInt 1) z36 G17)))))) fu
theorem L_63_1x_s0 (G0 : pj_G) (dp : Int32) (fu : Nat) (v3 : Int32) (v4 : Int32) (G : pj_G) : L_63_1x G0 dp (fu + 1) v3 v4 G = cond (pj_c1 .ge v4 ((Int8.ofInt 40).toInt32)) (pj_nm (F_64_1x G dp) (fun G5 => cond (pj_c1 .eq v3 0) (G5) (pj_nm (F_60x G5 ((Int16.ofInt 2000).toInt32)) (fun G11 => G11)))) (pj_bd (F_82x G ((Int8.ofInt 45).toInt32)) (fun y16 G17 => cond (pj_c1 .eq y16 0) (pj_nm (F_64_1x G17 dp) (fun G23 => cond (pj_c1 .eq v3 0) (G23) (pj_nm (F_60x G23 ((Int16.ofInt 2000).toInt32)) (fun G29 => G29)))) (cond (pj_c1 .ne v3 0) (pj_nm (v4 + Int32.ofInt 1) (fun z34 => L_63_1x G0 dp fu (Int32.ofInt 0) z34 G17)) (pj_nm (v4 + Int32.ofInt 1) (fun z36 => L_63_1x G0 dp fu (Int32.ofInt 1) z36 G17))))) := rfl
noncomputable def F_63_1x (G0 : pj_G) (dp : Int32) : pj_G := L_63_1x G0 dp 41 (Int32.ofInt 0) (Int32.ofInt 0) G0
theorem F_63_1x_e (G0 : pj_G) (dp : Int32) : F_63_1x G0 dp = L_63_1x G0 dp 41 (Int32.ofInt 0) (Int32.ofInt 0) G0 := rfl
theorem lp_ct_63_1x (G0 : pj_G) (hI0 : pj_Inv G0) (dp : Int32) (rdp : (1 : Int) ≤ dp.toInt ∧ dp.toInt ≤ 1) : ∀ mn : Nat, (∀ (G : pj_G) (hI : pj_Inv G) (hK : pj_kpt kc_63_1x G0 G) (v3 : Int32) (v4 : Int32), ((0 : Int) ≤ v3.toInt ∧ v3.toInt ≤ 1) → ((0 : Int) ≤ v4.toInt ∧ v4.toInt ≤ 40) → (¬ (pj_fi G0 2 4).toInt = -1 → (pj_fi G 2 4).toInt = (pj_fi G0 2 4).toInt) → (pr_kc G0 G) → 40 - v4.toInt < (mn : Int) → pj_X 35 pj_m63 G 5 [(0, .ref 27), (1, .ref 2), (2, .int dp), (3, .int v3), (4, .int v4)] [] (fun v' G' => v' = none ∧ pj_Inv G' ∧ pj_kpt kc_63_1x G0 G' ∧ (∀ H, G0 = H → (((¬ (pj_fi H 2 4).toInt = -1 → (pj_fi G' 2 4).toInt = (pj_fi H 2 4).toInt)) ∧ (pr_kc H G'))) ∧ (G' = L_63_1x G0 dp mn v3 v4 G))) := by
  have c0_ : ((Int16.ofInt 2000).toInt32).toInt = 2000 := by decide
  have c1_ : ((Int8.ofInt 40).toInt32).toInt = 40 := by decide
  have c2_ : ((Int8.ofInt 45).toInt32).toInt = 45 := by decide
  have c3_ : (Int32.ofInt 0).toInt = 0 := by decide
  have c4_ : (Int32.ofInt 1).toInt = 1 := by decide
  intro mn
  induction mn with
  | zero =>
    intro G hI hK v3 v4 rv3 rv4 x0_ x1_ hm
    exfalso
    omega
  | succ mn ih =>
    intro G hI hK v3 v4 rv3 rv4 x0_ x1_ hm
    rw [L_63_1x_s0]
    obtain ⟨y1, hy1⟩ : ∃ z : Int32, z = pj_fi G 2 4 := ⟨_, rfl⟩
    have ey1 : (pj_fi G 2 4).toInt = y1.toInt := by rw [hy1]
    have ry1 : (-1 : Int) ≤ y1.toInt ∧ y1.toInt ≤ 80 := by rw [hy1]; exact hI.2.1 2 4 (-1, 80) rfl
    refine pj_X_of (fun r h => pj_R_to (G, 9, [(0, .ref 27), (1, .ref 2), (2, .int dp), (3, .int v3), (4, .int v4)], [.int ((Int8.ofInt 40).toInt32), .int v4], 0, 0) 9 3 (fun _ => rfl) h) ?_
    cases b2 : pj_c1 .ge v4 ((Int8.ofInt 40).toInt32) with
    | true =>
      rw [pj_cT]
      have ub2 := pj_u_geT b2
      refine pj_X_of (fun r h => pj_R_icT 37 rfl rfl b2 h) ?_
      refine pj_X_of (fun r h => pj_R_to (G, 40, [(0, .ref 27), (1, .ref 2), (2, .int dp), (3, .int v3), (4, .int v4)], [.int dp, .ref 2, .ref 27], 0, 0) 40 4 (fun _ => rfl) h) ?_
      have q3 : (pj_fi G 2 4).toInt = y1.toInt := by rw [show pj_fi G 2 4 = y1 from hy1.symm]
      refine pj_X_ca (vs := [.ref 27, .ref 2, .int dp]) rfl (fun _ => rfl) ⟨Nat.le_of_ble_eq_true rfl, Nat.le_of_ble_eq_true rfl, pj_T_rcv hI rfl⟩ ⟨rfl, rfl⟩ (pj_Y_up (by decide) (ct_64_1x G hI dp ⟨by omega, by omega⟩)) ?_
      rintro _ G5 ⟨rfl, iG5, jG5, eG5, fy4⟩
      replace eG5 := eG5 _ rfl
      rw [← fy4, pj_nm_e]
      have kG5 : pj_kpt kc_63_1x G0 G5 := pj_kpt_t hK (pj_kpt_s jG5 rfl)
      obtain ⟨y6, hy6⟩ : ∃ z : Int32, z = pj_fi G5 2 4 := ⟨_, rfl⟩
      have ey6 : (pj_fi G5 2 4).toInt = y6.toInt := by rw [hy6]
      have ry6 : (-1 : Int) ≤ y6.toInt ∧ y6.toInt ≤ 80 := by rw [hy6]; exact iG5.2.1 2 4 (-1, 80) rfl
      show pj_X _ _ G5 43 [(0, .ref 27), (1, .ref 2), (2, .int dp), (3, .int v3), (4, .int v4)] [] _
      refine pj_X_of (fun r h => pj_R_to (G5, 44, [(0, .ref 27), (1, .ref 2), (2, .int dp), (3, .int v3), (4, .int v4)], [.int v3], 0, 0) 44 2 (fun _ => rfl) h) ?_
      cases b7 : pj_c1 .eq v3 0 with
      | true =>
        rw [pj_cT]
        have ub7 := pj_u0_eqT b7
        refine pj_X_of (fun r h => pj_R_ifT 54 rfl rfl b7 h) ?_
        have q8 : (pj_fi G5 2 4).toInt = y6.toInt := by rw [show pj_fi G5 2 4 = y6 from hy6.symm]
        exact pj_X_rt rfl rfl ⟨rfl, iG5, kG5, (fun H hH => by subst hH; exact (⟨by omega, (pr_kc_t x1_ eG5.2)⟩)), rfl⟩
      | false =>
        rw [pj_cF]
        have ub7 := pj_u0_eqF b7
        refine pj_X_of (fun r h => pj_R_ifF rfl b7 h) ?_
        refine pj_X_of (fun r h => pj_R_to (G5, 51, [(0, .ref 27), (1, .ref 2), (2, .int dp), (3, .int v3), (4, .int v4)], [.int ((Int16.ofInt 2000).toInt32), .ref 27], 0, 0) 51 3 (fun _ => rfl) h) ?_
        have q9 : (pj_fi G5 2 4).toInt = y6.toInt := by rw [show pj_fi G5 2 4 = y6 from hy6.symm]
        refine pj_X_ca (vs := [.ref 27, .int ((Int16.ofInt 2000).toInt32)]) rfl (fun _ => rfl) ⟨Nat.le_of_ble_eq_true rfl, Nat.le_of_ble_eq_true rfl, pj_T_rcv iG5 rfl⟩ ⟨rfl, rfl⟩ (pj_Y_up (by decide) (ct_60x G5 iG5 ((Int16.ofInt 2000).toInt32) (by omega))) ?_
        rintro _ G11 ⟨rfl, iG11, jG11, eG11, fy10⟩
        replace eG11 := eG11 _ rfl
        rw [← fy10, pj_nm_e]
        have kG11 : pj_kpt kc_63_1x G0 G11 := pj_kpt_t kG5 (pj_kpt_s jG11 rfl)
        have q12 : (pj_fi G11 2 4).toInt = (pj_fi G5 2 4).toInt := by rw [jG11.1 (2, 4) (by decide)]
        obtain ⟨y13, hy13⟩ : ∃ z : Int32, z = pj_fi G11 2 4 := ⟨_, rfl⟩
        have ey13 : (pj_fi G11 2 4).toInt = y13.toInt := by rw [hy13]
        have ry13 : (-1 : Int) ≤ y13.toInt ∧ y13.toInt ≤ 80 := by rw [hy13]; exact iG11.2.1 2 4 (-1, 80) rfl
        show pj_X _ _ G11 54 [(0, .ref 27), (1, .ref 2), (2, .int dp), (3, .int v3), (4, .int v4)] [] _
        have q14 : (pj_fi G11 2 4).toInt = y13.toInt := by rw [show pj_fi G11 2 4 = y13 from hy13.symm]
        exact pj_X_rt rfl rfl ⟨rfl, iG11, kG11, (fun H hH => by subst hH; exact (⟨by omega, (pr_kc_t (pr_kc_t x1_ eG5.2) eG11)⟩)), rfl⟩
    | false =>
      rw [pj_cF]
      have ub2 := pj_u_geF b2
      refine pj_X_of (fun r h => pj_R_icF rfl b2 h) ?_
      refine pj_X_of (fun r h => pj_R_to (G, 15, [(0, .ref 27), (1, .ref 2), (2, .int dp), (3, .int v3), (4, .int v4)], [.int ((Int8.ofInt 45).toInt32), .ref 2], 0, 0) 15 3 (fun _ => rfl) h) ?_
      have q15 : (pj_fi G 2 4).toInt = y1.toInt := by rw [show pj_fi G 2 4 = y1 from hy1.symm]
      refine pj_X_ca (vs := [.ref 2, .int ((Int8.ofInt 45).toInt32)]) rfl (fun _ => rfl) ⟨Nat.le_of_ble_eq_true rfl, Nat.le_of_ble_eq_true rfl, pj_T_rcv hI rfl⟩ ⟨rfl, rfl⟩ (pj_Y_up (by decide) (ct_82x G hI ((Int8.ofInt 45).toInt32) ⟨by omega, by omega⟩)) ?_
      rintro _ G17 ⟨y16, rfl, iG17, jG17, ry16, ey16, fy16⟩
      replace ey16 := ey16 _ rfl
      rw [← fy16, pj_bd_e]
      have kG17 : pj_kpt kc_63_1x G0 G17 := pj_kpt_t hK (pj_kpt_s jG17 rfl)
      have q18 : (pj_fi G17 2 4).toInt = (pj_fi G 2 4).toInt := by rw [jG17.1 (2, 4) (by decide)]
      obtain ⟨y19, hy19⟩ : ∃ z : Int32, z = pj_fi G17 2 4 := ⟨_, rfl⟩
      have ey19 : (pj_fi G17 2 4).toInt = y19.toInt := by rw [hy19]
      have ry19 : (-1 : Int) ≤ y19.toInt ∧ y19.toInt ≤ 80 := by rw [hy19]; exact iG17.2.1 2 4 (-1, 80) rfl
      show pj_X _ _ G17 18 [(0, .ref 27), (1, .ref 2), (2, .int dp), (3, .int v3), (4, .int v4)] [.int y16] _
      cases b20 : pj_c1 .eq y16 0 with
      | true =>
        rw [pj_cT]
        have ub20 := pj_u0_eqT b20
        refine pj_X_of (fun r h => pj_R_ifT 37 rfl rfl b20 h) ?_
        refine pj_X_of (fun r h => pj_R_to (G17, 40, [(0, .ref 27), (1, .ref 2), (2, .int dp), (3, .int v3), (4, .int v4)], [.int dp, .ref 2, .ref 27], 0, 0) 40 4 (fun _ => rfl) h) ?_
        have q21 : (pj_fi G17 2 4).toInt = y19.toInt := by rw [show pj_fi G17 2 4 = y19 from hy19.symm]
        refine pj_X_ca (vs := [.ref 27, .ref 2, .int dp]) rfl (fun _ => rfl) ⟨Nat.le_of_ble_eq_true rfl, Nat.le_of_ble_eq_true rfl, pj_T_rcv iG17 rfl⟩ ⟨rfl, rfl⟩ (pj_Y_up (by decide) (ct_64_1x G17 iG17 dp ⟨by omega, by omega⟩)) ?_
        rintro _ G23 ⟨rfl, iG23, jG23, eG23, fy22⟩
        replace eG23 := eG23 _ rfl
        rw [← fy22, pj_nm_e]
        have kG23 : pj_kpt kc_63_1x G0 G23 := pj_kpt_t kG17 (pj_kpt_s jG23 rfl)
        obtain ⟨y24, hy24⟩ : ∃ z : Int32, z = pj_fi G23 2 4 := ⟨_, rfl⟩
        have ey24 : (pj_fi G23 2 4).toInt = y24.toInt := by rw [hy24]
        have ry24 : (-1 : Int) ≤ y24.toInt ∧ y24.toInt ≤ 80 := by rw [hy24]; exact iG23.2.1 2 4 (-1, 80) rfl
        show pj_X _ _ G23 43 [(0, .ref 27), (1, .ref 2), (2, .int dp), (3, .int v3), (4, .int v4)] [] _
        refine pj_X_of (fun r h => pj_R_to (G23, 44, [(0, .ref 27), (1, .ref 2), (2, .int dp), (3, .int v3), (4, .int v4)], [.int v3], 0, 0) 44 2 (fun _ => rfl) h) ?_
        cases b25 : pj_c1 .eq v3 0 with
        | true =>
          rw [pj_cT]
          have ub25 := pj_u0_eqT b25
          refine pj_X_of (fun r h => pj_R_ifT 54 rfl rfl b25 h) ?_
          have q26 : (pj_fi G23 2 4).toInt = y24.toInt := by rw [show pj_fi G23 2 4 = y24 from hy24.symm]
          exact pj_X_rt rfl rfl ⟨rfl, iG23, kG23, (fun H hH => by subst hH; exact (⟨by omega, (pr_kc_t (pr_kc_t x1_ (pr_kc_k jG17 rfl)) eG23.2)⟩)), rfl⟩
        | false =>
          rw [pj_cF]
          have ub25 := pj_u0_eqF b25
          refine pj_X_of (fun r h => pj_R_ifF rfl b25 h) ?_
          refine pj_X_of (fun r h => pj_R_to (G23, 51, [(0, .ref 27), (1, .ref 2), (2, .int dp), (3, .int v3), (4, .int v4)], [.int ((Int16.ofInt 2000).toInt32), .ref 27], 0, 0) 51 3 (fun _ => rfl) h) ?_
          have q27 : (pj_fi G23 2 4).toInt = y24.toInt := by rw [show pj_fi G23 2 4 = y24 from hy24.symm]
          refine pj_X_ca (vs := [.ref 27, .int ((Int16.ofInt 2000).toInt32)]) rfl (fun _ => rfl) ⟨Nat.le_of_ble_eq_true rfl, Nat.le_of_ble_eq_true rfl, pj_T_rcv iG23 rfl⟩ ⟨rfl, rfl⟩ (pj_Y_up (by decide) (ct_60x G23 iG23 ((Int16.ofInt 2000).toInt32) (by omega))) ?_
          rintro _ G29 ⟨rfl, iG29, jG29, eG29, fy28⟩
          replace eG29 := eG29 _ rfl
          rw [← fy28, pj_nm_e]
          have kG29 : pj_kpt kc_63_1x G0 G29 := pj_kpt_t kG23 (pj_kpt_s jG29 rfl)
          have q30 : (pj_fi G29 2 4).toInt = (pj_fi G23 2 4).toInt := by rw [jG29.1 (2, 4) (by decide)]
          obtain ⟨y31, hy31⟩ : ∃ z : Int32, z = pj_fi G29 2 4 := ⟨_, rfl⟩
          have ey31 : (pj_fi G29 2 4).toInt = y31.toInt := by rw [hy31]
          have ry31 : (-1 : Int) ≤ y31.toInt ∧ y31.toInt ≤ 80 := by rw [hy31]; exact iG29.2.1 2 4 (-1, 80) rfl
          show pj_X _ _ G29 54 [(0, .ref 27), (1, .ref 2), (2, .int dp), (3, .int v3), (4, .int v4)] [] _
          have q32 : (pj_fi G29 2 4).toInt = y31.toInt := by rw [show pj_fi G29 2 4 = y31 from hy31.symm]
          exact pj_X_rt rfl rfl ⟨rfl, iG29, kG29, (fun H hH => by subst hH; exact (⟨by omega, (pr_kc_t (pr_kc_t (pr_kc_t x1_ (pr_kc_k jG17 rfl)) eG23.2) eG29)⟩)), rfl⟩
      | false =>
        rw [pj_cF]
        have ub20 := pj_u0_eqF b20
        refine pj_X_of (fun r h => pj_R_ifF rfl b20 h) ?_
        refine pj_X_of (fun r h => pj_R_to (G17, 22, [(0, .ref 27), (1, .ref 2), (2, .int dp), (3, .int v3), (4, .int v4)], [.int v3], 0, 0) 22 2 (fun _ => rfl) h) ?_
        cases b33 : pj_c1 .ne v3 0 with
        | true =>
          rw [pj_cT]
          have ub33 := pj_u0_neT b33
          refine pj_X_of (fun r h => pj_R_ifT 29 rfl rfl b33 h) ?_
          refine pj_X_of (fun r h => pj_R_to (G17, 34, [(4, .int (v4 + Int32.ofInt 1)), (3, .int (Int32.ofInt 0)), (0, .ref 27), (1, .ref 2), (2, .int dp)], [], 0, 0) 34 4 (fun _ => rfl) h) ?_
          obtain ⟨z34, hz34⟩ : ∃ z : Int32, z = v4 + Int32.ofInt 1 := ⟨_, rfl⟩
          rw [← hz34]
          rw [pj_nm_e]
          have fz34_0 : z34.toInt = v4.toInt + (Int32.ofInt 1).toInt := by rw [hz34]; exact pj_addI (by have := pj_i32 v4; have := pj_i32 (Int32.ofInt 1); omega) (by have := pj_i32 v4; have := pj_i32 (Int32.ofInt 1); omega)
          refine pj_X_of (fun r h => pj_R_to (G17, 5, [(4, .int z34), (3, .int (Int32.ofInt 0)), (0, .ref 27), (1, .ref 2), (2, .int dp)], [], 0, 0) 5 2 (fun _ => rfl) h) ?_
          have q35 : (pj_fi G17 2 4).toInt = y19.toInt := by rw [show pj_fi G17 2 4 = y19 from hy19.symm]
          exact pj_X_sub [(0, .ref 27), (1, .ref 2), (2, .int dp), (3, .int (Int32.ofInt 0)), (4, .int z34)] (show List.Nodup [0, 1, 2, 3, 4] by decide) ⟨rfl, rfl, rfl, rfl, rfl, trivial⟩ (ih G17 iG17 kG17 (Int32.ofInt 0) z34 ⟨by omega, by omega⟩ ⟨by omega, by omega⟩ (by omega) (pr_kc_t x1_ (pr_kc_k jG17 rfl)) (by omega))
        | false =>
          rw [pj_cF]
          have ub33 := pj_u0_neF b33
          refine pj_X_of (fun r h => pj_R_ifF rfl b33 h) ?_
          refine pj_X_of (fun r h => pj_R_to (G17, 34, [(4, .int (v4 + Int32.ofInt 1)), (3, .int (Int32.ofInt 1)), (0, .ref 27), (1, .ref 2), (2, .int dp)], [], 0, 0) 34 5 (fun _ => rfl) h) ?_
          obtain ⟨z36, hz36⟩ : ∃ z : Int32, z = v4 + Int32.ofInt 1 := ⟨_, rfl⟩
          rw [← hz36]
          rw [pj_nm_e]
          have fz36_0 : z36.toInt = v4.toInt + (Int32.ofInt 1).toInt := by rw [hz36]; exact pj_addI (by have := pj_i32 v4; have := pj_i32 (Int32.ofInt 1); omega) (by have := pj_i32 v4; have := pj_i32 (Int32.ofInt 1); omega)
          refine pj_X_of (fun r h => pj_R_to (G17, 5, [(4, .int z36), (3, .int (Int32.ofInt 1)), (0, .ref 27), (1, .ref 2), (2, .int dp)], [], 0, 0) 5 2 (fun _ => rfl) h) ?_
          have q37 : (pj_fi G17 2 4).toInt = y19.toInt := by rw [show pj_fi G17 2 4 = y19 from hy19.symm]
          exact pj_X_sub [(0, .ref 27), (1, .ref 2), (2, .int dp), (3, .int (Int32.ofInt 1)), (4, .int z36)] (show List.Nodup [0, 1, 2, 3, 4] by decide) ⟨rfl, rfl, rfl, rfl, rfl, trivial⟩ (ih G17 iG17 kG17 (Int32.ofInt 1) z36 ⟨by omega, by omega⟩ ⟨by omega, by omega⟩ (by omega) (pr_kc_t x1_ (pr_kc_k jG17 rfl)) (by omega))
theorem ct_63_1x (G0 : pj_G) (hI : pj_Inv G0) (dp : Int32) (rdp : (1 : Int) ≤ dp.toInt ∧ dp.toInt ≤ 1) : pj_Y 36 63 [.ref 27, .ref 2, .int dp] G0 (fun v' G' => v' = none ∧ pj_Inv G' ∧ pj_kpt kc_63_1x G0 G' ∧ (∀ H, G0 = H → (((¬ (pj_fi H 2 4).toInt = -1 → (pj_fi G' 2 4).toInt = (pj_fi H 2 4).toInt)) ∧ (pr_kc H G'))) ∧ (G' = F_63_1x G0 dp)) := by
  have c0_ : ((Int16.ofInt 2000).toInt32).toInt = 2000 := by decide
  have c1_ : ((Int8.ofInt 40).toInt32).toInt = 40 := by decide
  have c2_ : ((Int8.ofInt 45).toInt32).toInt = 45 := by decide
  have c3_ : (Int32.ofInt 0).toInt = 0 := by decide
  have c4_ : (Int32.ofInt 1).toInt = 1 := by decide
  refine pj_Y_X (M := pj_m63) rfl rfl (Nat.le_of_ble_eq_true rfl) ?_
  have hK : pj_kpt kc_63_1x G0 G0 := pj_kpt_r _ _
  show pj_X _ _ G0 0 [(0, .ref 27), (1, .ref 2), (2, .int dp)] [] _
  rw [F_63_1x_e]
  obtain ⟨y38, hy38⟩ : ∃ z : Int32, z = pj_fi G0 2 4 := ⟨_, rfl⟩
  have ey38 : (pj_fi G0 2 4).toInt = y38.toInt := by rw [hy38]
  have ry38 : (-1 : Int) ≤ y38.toInt ∧ y38.toInt ≤ 80 := by rw [hy38]; exact hI.2.1 2 4 (-1, 80) rfl
  refine pj_X_of (fun r h => pj_R_to (G0, 5, [(4, .int (Int32.ofInt 0)), (3, .int (Int32.ofInt 0)), (0, .ref 27), (1, .ref 2), (2, .int dp)], [], 0, 0) 5 5 (fun _ => rfl) h) ?_
  have q39 : (pj_fi G0 2 4).toInt = y38.toInt := by rw [show pj_fi G0 2 4 = y38 from hy38.symm]
  exact pj_X_sub [(0, .ref 27), (1, .ref 2), (2, .int dp), (3, .int (Int32.ofInt 0)), (4, .int (Int32.ofInt 0))] (show List.Nodup [0, 1, 2, 3, 4] by decide) ⟨rfl, rfl, rfl, rfl, rfl, trivial⟩ ((lp_ct_63_1x G0 hI dp rdp 41) G0 hI hK (Int32.ofInt 0) (Int32.ofInt 0) ⟨by omega, by omega⟩ ⟨by omega, by omega⟩ (by omega) (pr_kc_r _) (by omega))
theorem fr_63_1x (G0 : pj_G) (hI : pj_Inv G0) (dp : Int32) (rdp : (1 : Int) ≤ dp.toInt ∧ dp.toInt ≤ 1) : pj_Inv (F_63_1x G0 dp) ∧ pj_kpt kc_63_1x G0 (F_63_1x G0 dp) ∧ (((¬ (pj_fi G0 2 4).toInt = -1 → (pj_fi (F_63_1x G0 dp) 2 4).toInt = (pj_fi G0 2 4).toInt)) ∧ (pr_kc G0 (F_63_1x G0 dp))) := by
  obtain ⟨v, G', -, -, i, j, x, e⟩ := ct_63_1x G0 hI dp rdp
  rw [← e]
  exact ⟨i, j, x _ rfl⟩
def kc_62_3_1x : pj_KT := ([(2, 3), (2, 4), (27, 3)], [2, 27, 28, 29], [28, 29])
noncomputable def F_62_3_1x (G0 : pj_G) (lv : Int32) (dp : Int32) : pj_G := pj_nm (F_63_1x G0 dp) (fun G4 => G4)
theorem F_62_3_1x_e (G0 : pj_G) (lv : Int32) (dp : Int32) : F_62_3_1x G0 lv dp = pj_nm (F_63_1x G0 dp) (fun G4 => G4) := rfl
theorem ct_62_3_1x (G0 : pj_G) (hI : pj_Inv G0) (lv : Int32) (dp : Int32) (rlv : (3 : Int) ≤ lv.toInt ∧ lv.toInt ≤ 3) (rdp : (1 : Int) ≤ dp.toInt ∧ dp.toInt ≤ 1) : pj_Y 37 62 [.ref 27, .ref 2, .int lv, .int dp] G0 (fun v' G' => v' = none ∧ pj_Inv G' ∧ pj_kpt kc_62_3_1x G0 G' ∧ (∀ H, G0 = H → (((¬ (pj_fi H 2 4).toInt = -1 → (pj_fi G' 2 4).toInt = (pj_fi H 2 4).toInt)) ∧ (pr_kc H G'))) ∧ (G' = F_62_3_1x G0 lv dp)) := by
  have c0_ : (Int32.ofInt 2).toInt = 2 := by decide
  refine pj_Y_X (M := pj_m62) rfl rfl (Nat.le_of_ble_eq_true rfl) ?_
  have hK : pj_kpt kc_62_3_1x G0 G0 := pj_kpt_r _ _
  show pj_X _ _ G0 0 [(0, .ref 27), (1, .ref 2), (2, .int lv), (3, .int dp)] [] _
  rw [F_62_3_1x_e]
  obtain ⟨y1, hy1⟩ : ∃ z : Int32, z = pj_fi G0 2 4 := ⟨_, rfl⟩
  have ey1 : (pj_fi G0 2 4).toInt = y1.toInt := by rw [hy1]
  have ry1 : (-1 : Int) ≤ y1.toInt ∧ y1.toInt ≤ 80 := by rw [hy1]; exact hI.2.1 2 4 (-1, 80) rfl
  refine pj_X_of (fun r h => pj_R_to (G0, 2, [(0, .ref 27), (1, .ref 2), (2, .int lv), (3, .int dp)], [.int (Int32.ofInt 2), .int lv], 0, 0) 2 3 (fun _ => rfl) h) ?_
  refine pj_X_of (fun r h => pj_R_icF rfl (pj_b_leF (by omega)) h) ?_
  refine pj_X_of (fun r h => pj_R_to (G0, 8, [(0, .ref 27), (1, .ref 2), (2, .int lv), (3, .int dp)], [.int dp, .ref 2, .ref 27], 0, 0) 8 4 (fun _ => rfl) h) ?_
  have q2 : (pj_fi G0 2 4).toInt = y1.toInt := by rw [show pj_fi G0 2 4 = y1 from hy1.symm]
  refine pj_X_ca (vs := [.ref 27, .ref 2, .int dp]) rfl (fun _ => rfl) ⟨Nat.le_of_ble_eq_true rfl, Nat.le_of_ble_eq_true rfl, pj_T_rcv hI rfl⟩ ⟨rfl, rfl⟩ (pj_Y_up (by decide) (ct_63_1x G0 hI dp ⟨by omega, by omega⟩)) ?_
  rintro _ G4 ⟨rfl, iG4, jG4, eG4, fy3⟩
  replace eG4 := eG4 _ rfl
  rw [← fy3, pj_nm_e]
  have kG4 : pj_kpt kc_62_3_1x G0 G4 := pj_kpt_t hK (pj_kpt_s jG4 rfl)
  obtain ⟨y5, hy5⟩ : ∃ z : Int32, z = pj_fi G4 2 4 := ⟨_, rfl⟩
  have ey5 : (pj_fi G4 2 4).toInt = y5.toInt := by rw [hy5]
  have ry5 : (-1 : Int) ≤ y5.toInt ∧ y5.toInt ≤ 80 := by rw [hy5]; exact iG4.2.1 2 4 (-1, 80) rfl
  show pj_X _ _ G4 11 [(0, .ref 27), (1, .ref 2), (2, .int lv), (3, .int dp)] [] _
  have q6 : (pj_fi G4 2 4).toInt = y5.toInt := by rw [show pj_fi G4 2 4 = y5 from hy5.symm]
  exact pj_X_rt rfl rfl ⟨rfl, iG4, kG4, (fun H hH => by subst hH; exact (⟨by omega, eG4.2⟩)), rfl⟩
theorem fr_62_3_1x (G0 : pj_G) (hI : pj_Inv G0) (lv : Int32) (dp : Int32) (rlv : (3 : Int) ≤ lv.toInt ∧ lv.toInt ≤ 3) (rdp : (1 : Int) ≤ dp.toInt ∧ dp.toInt ≤ 1) : pj_Inv (F_62_3_1x G0 lv dp) ∧ pj_kpt kc_62_3_1x G0 (F_62_3_1x G0 lv dp) ∧ (((¬ (pj_fi G0 2 4).toInt = -1 → (pj_fi (F_62_3_1x G0 lv dp) 2 4).toInt = (pj_fi G0 2 4).toInt)) ∧ (pr_kc G0 (F_62_3_1x G0 lv dp))) := by
  obtain ⟨v, G', -, -, i, j, x, e⟩ := ct_62_3_1x G0 hI lv dp rlv rdp
  rw [← e]
  exact ⟨i, j, x _ rfl⟩
def kc_62_2_1x : pj_KT := ([(2, 3), (2, 4), (27, 3)], [2, 27, 28, 29], [28, 29])
noncomputable def L_62_2_1x (G0 : pj_G) (lv : Int32) (dp : Int32) (fu : Nat) : Int32 → Int32 → pj_G → pj_G := Nat.rec (motive := fun _ => Int32 → Int32 → pj_G → pj_G) (fun _ _ G => G) (fun _ ih v4 v5 G => cond (pj_c1 .ge v5 v4) (G) (pj_bd (F_84_s7x G) (fun y7 G8 => cond (pj_c1 .ne y7 (Int32.ofInt (-1))) (pj_nm (lv + (Int32.ofInt 1)) (fun z12 => pj_nm (F_62_3_1x G8 z12 dp) (fun G15 => pj_nm (((Int16.ofInt 3000).toInt32) + y7) (fun z17 => pj_nm (F_60x G15 z17) (fun G20 => pj_nm (v5 + Int32.ofInt 1) (fun z23 => ih v4 z23 G20)))))) (G8)))) fu
theorem L_62_2_1x_s0 (G0 : pj_G) (lv : Int32) (dp : Int32) (fu : Nat) (v4 : Int32) (v5 : Int32) (G : pj_G) : L_62_2_1x G0 lv dp (fu + 1) v4 v5 G = cond (pj_c1 .ge v5 v4) (G) (pj_bd (F_84_s7x G) (fun y7 G8 => cond (pj_c1 .ne y7 (Int32.ofInt (-1))) (pj_nm (lv + (Int32.ofInt 1)) (fun z12 => pj_nm (F_62_3_1x G8 z12 dp) (fun G15 => pj_nm (((Int16.ofInt 3000).toInt32) + y7) (fun z17 => pj_nm (F_60x G15 z17) (fun G20 => pj_nm (v5 + Int32.ofInt 1) (fun z23 => L_62_2_1x G0 lv dp fu v4 z23 G20)))))) (G8))) := rfl
noncomputable def F_62_2_1x (G0 : pj_G) (lv : Int32) (dp : Int32) : pj_G := pj_nm (lv + (Int32.ofInt 1)) (fun z27 => pj_nm (F_62_3_1x G0 z27 dp) (fun G30 => L_62_2_1x G0 lv dp 41 ((Int8.ofInt 40).toInt32) (Int32.ofInt 0) G30))
theorem F_62_2_1x_e (G0 : pj_G) (lv : Int32) (dp : Int32) : F_62_2_1x G0 lv dp = pj_nm (lv + (Int32.ofInt 1)) (fun z27 => pj_nm (F_62_3_1x G0 z27 dp) (fun G30 => L_62_2_1x G0 lv dp 41 ((Int8.ofInt 40).toInt32) (Int32.ofInt 0) G30)) := rfl
theorem lp_ct_62_2_1x (G0 : pj_G) (hI0 : pj_Inv G0) (lv : Int32) (dp : Int32) (rlv : (2 : Int) ≤ lv.toInt ∧ lv.toInt ≤ 2) (rdp : (1 : Int) ≤ dp.toInt ∧ dp.toInt ≤ 1) : ∀ mn : Nat, (∀ (G : pj_G) (hI : pj_Inv G) (hK : pj_kpt kc_62_2_1x G0 G) (v4 : Int32) (v5 : Int32), ((1 : Int) ≤ v4.toInt ∧ v4.toInt ≤ 40) → ((0 : Int) ≤ v5.toInt ∧ v5.toInt ≤ 40) → (¬ (pj_fi G0 2 4).toInt = -1 → (pj_fi G 2 4).toInt = (pj_fi G0 2 4).toInt) → (pr_kc G0 G) → 40 - v5.toInt < (mn : Int) → pj_X 37 pj_m62 G 36 [(0, .ref 27), (1, .ref 2), (2, .int lv), (3, .int dp), (4, .int v4), (5, .int v5)] [] (fun v' G' => v' = none ∧ pj_Inv G' ∧ pj_kpt kc_62_2_1x G0 G' ∧ (∀ H, G0 = H → (((¬ (pj_fi H 2 4).toInt = -1 → (pj_fi G' 2 4).toInt = (pj_fi H 2 4).toInt)) ∧ (pr_kc H G'))) ∧ (G' = L_62_2_1x G0 lv dp mn v4 v5 G))) := by
  have c0_ : ((Int16.ofInt 3000).toInt32).toInt = 3000 := by decide
  have c1_ : ((Int8.ofInt 40).toInt32).toInt = 40 := by decide
  have c2_ : (Int32.ofInt (-1)).toInt = -1 := by decide
  have c3_ : (Int32.ofInt 0).toInt = 0 := by decide
  have c4_ : (Int32.ofInt 1).toInt = 1 := by decide
  have c5_ : (Int32.ofInt 2).toInt = 2 := by decide
  intro mn
  induction mn with
  | zero =>
    intro G hI hK v4 v5 rv4 rv5 x0_ x1_ hm
    exfalso
    omega
  | succ mn ih =>
    intro G hI hK v4 v5 rv4 rv5 x0_ x1_ hm
    rw [L_62_2_1x_s0]
    obtain ⟨y1, hy1⟩ : ∃ z : Int32, z = pj_fi G 2 4 := ⟨_, rfl⟩
    have ey1 : (pj_fi G 2 4).toInt = y1.toInt := by rw [hy1]
    have ry1 : (-1 : Int) ≤ y1.toInt ∧ y1.toInt ≤ 80 := by rw [hy1]; exact hI.2.1 2 4 (-1, 80) rfl
    refine pj_X_of (fun r h => pj_R_to (G, 40, [(0, .ref 27), (1, .ref 2), (2, .int lv), (3, .int dp), (4, .int v4), (5, .int v5)], [.int v4, .int v5], 0, 0) 40 3 (fun _ => rfl) h) ?_
    cases b2 : pj_c1 .ge v5 v4 with
    | true =>
      rw [pj_cT]
      have ub2 := pj_u_geT b2
      refine pj_X_of (fun r h => pj_R_icT 85 rfl rfl b2 h) ?_
      have q3 : (pj_fi G 2 4).toInt = y1.toInt := by rw [show pj_fi G 2 4 = y1 from hy1.symm]
      exact pj_X_rt rfl rfl ⟨rfl, hI, hK, (fun H hH => by subst hH; exact (⟨by omega, x1_⟩)), rfl⟩
    | false =>
      rw [pj_cF]
      have ub2 := pj_u_geF b2
      refine pj_X_of (fun r h => pj_R_icF rfl b2 h) ?_
      refine pj_X_of (fun r h => pj_R_to (G, 45, [(0, .ref 27), (1, .ref 2), (2, .int lv), (3, .int dp), (4, .int v4), (5, .int v5)], [.int lv, .ref 2], 0, 0) 45 3 (fun _ => rfl) h) ?_
      have q4 : (pj_fi G 2 4).toInt = y1.toInt := by rw [show pj_fi G 2 4 = y1 from hy1.symm]
      refine pj_X_ca (vs := [.int lv]) rfl (fun _ => rfl) ⟨Nat.le_of_ble_eq_true rfl, Nat.le_of_ble_eq_true rfl, rfl⟩ ⟨rfl, rfl⟩ (pj_Y_up (by decide) (ct_61_2 G hI lv ⟨by omega, by omega⟩)) ?_
      rintro _ _ ⟨rfl, rfl⟩
      show pj_X _ _ G 48 [(0, .ref 27), (1, .ref 2), (2, .int lv), (3, .int dp), (4, .int v4), (5, .int v5)] [.retAddr 7, .ref 2] _
      have q6 : (pj_fi G 2 4).toInt = y1.toInt := by rw [show pj_fi G 2 4 = y1 from hy1.symm]
      refine pj_X_ca (vs := [.ref 2, .retAddr 7]) rfl (fun _ => rfl) ⟨Nat.le_of_ble_eq_true rfl, Nat.le_of_ble_eq_true rfl, pj_T_rcv hI rfl⟩ ⟨rfl, rfl⟩ (pj_Y_up (by decide) (ct_84_s7x G hI)) ?_
      rintro _ G8 ⟨y7, rfl, iG8, jG8, ry7, ey7, fy7⟩
      replace ey7 := ey7 _ rfl
      rw [← fy7, pj_bd_e]
      have kG8 : pj_kpt kc_62_2_1x G0 G8 := pj_kpt_t hK (pj_kpt_s jG8 rfl)
      have q9 : (pj_fi G8 2 4).toInt = (pj_fi G 2 4).toInt := by rw [jG8.1 (2, 4) (by decide)]
      obtain ⟨y10, hy10⟩ : ∃ z : Int32, z = pj_fi G8 2 4 := ⟨_, rfl⟩
      have ey10 : (pj_fi G8 2 4).toInt = y10.toInt := by rw [hy10]
      have ry10 : (-1 : Int) ≤ y10.toInt ∧ y10.toInt ≤ 80 := by rw [hy10]; exact iG8.2.1 2 4 (-1, 80) rfl
      show pj_X _ _ G8 51 [(0, .ref 27), (1, .ref 2), (2, .int lv), (3, .int dp), (4, .int v4), (5, .int v5)] [.int y7] _
      refine pj_X_of (fun r h => pj_R_to (G8, 56, [(6, .int y7), (0, .ref 27), (1, .ref 2), (2, .int lv), (3, .int dp), (4, .int v4), (5, .int v5)], [.int (Int32.ofInt (-1)), .int y7], 0, 0) 56 4 (fun _ => rfl) h) ?_
      cases b11 : pj_c1 .ne y7 (Int32.ofInt (-1)) with
      | true =>
        rw [pj_cT]
        have ub11 := pj_u_neT b11
        refine pj_X_of (fun r h => pj_R_icT 60 rfl rfl b11 h) ?_
        refine pj_X_of (fun r h => pj_R_to (G8, 65, [(6, .int y7), (0, .ref 27), (1, .ref 2), (2, .int lv), (3, .int dp), (4, .int v4), (5, .int v5)], [.int (lv + (Int32.ofInt 1)), .ref 2, .ref 27], 0, 0) 65 6 (fun _ => rfl) h) ?_
        obtain ⟨z12, hz12⟩ : ∃ z : Int32, z = lv + (Int32.ofInt 1) := ⟨_, rfl⟩
        refine pj_X_eqi hz12.symm ?_
        rw [← hz12, pj_nm_e]
        have fz12_0 : z12.toInt = lv.toInt + (Int32.ofInt 1).toInt := by rw [hz12]; exact pj_addI (by have := pj_i32 lv; have := pj_i32 (Int32.ofInt 1); omega) (by have := pj_i32 lv; have := pj_i32 (Int32.ofInt 1); omega)
        refine pj_X_of (fun r h => pj_R_to (G8, 66, [(6, .int y7), (0, .ref 27), (1, .ref 2), (2, .int lv), (3, .int dp), (4, .int v4), (5, .int v5)], [.int dp, .int z12, .ref 2, .ref 27], 0, 0) 66 2 (fun _ => rfl) h) ?_
        have q13 : (pj_fi G8 2 4).toInt = y10.toInt := by rw [show pj_fi G8 2 4 = y10 from hy10.symm]
        refine pj_X_ca (vs := [.ref 27, .ref 2, .int z12, .int dp]) rfl (fun _ => rfl) ⟨Nat.le_of_ble_eq_true rfl, Nat.le_of_ble_eq_true rfl, pj_T_rcv iG8 rfl⟩ ⟨rfl, rfl⟩ (pj_Y_up (by decide) (ct_62_3_1x G8 iG8 z12 dp ⟨by omega, by omega⟩ ⟨by omega, by omega⟩)) ?_
        rintro _ G15 ⟨rfl, iG15, jG15, eG15, fy14⟩
        replace eG15 := eG15 _ rfl
        rw [← fy14, pj_nm_e]
        have kG15 : pj_kpt kc_62_2_1x G0 G15 := pj_kpt_t kG8 (pj_kpt_s jG15 rfl)
        obtain ⟨y16, hy16⟩ : ∃ z : Int32, z = pj_fi G15 2 4 := ⟨_, rfl⟩
        have ey16 : (pj_fi G15 2 4).toInt = y16.toInt := by rw [hy16]
        have ry16 : (-1 : Int) ≤ y16.toInt ∧ y16.toInt ≤ 80 := by rw [hy16]; exact iG15.2.1 2 4 (-1, 80) rfl
        show pj_X _ _ G15 69 [(6, .int y7), (0, .ref 27), (1, .ref 2), (2, .int lv), (3, .int dp), (4, .int v4), (5, .int v5)] [] _
        refine pj_X_of (fun r h => pj_R_to (G15, 76, [(6, .int y7), (0, .ref 27), (1, .ref 2), (2, .int lv), (3, .int dp), (4, .int v4), (5, .int v5)], [.int (((Int16.ofInt 3000).toInt32) + y7), .ref 27], 0, 0) 76 5 (fun _ => rfl) h) ?_
        obtain ⟨z17, hz17⟩ : ∃ z : Int32, z = ((Int16.ofInt 3000).toInt32) + y7 := ⟨_, rfl⟩
        refine pj_X_eqi hz17.symm ?_
        rw [← hz17, pj_nm_e]
        have fz17_0 : z17.toInt = ((Int16.ofInt 3000).toInt32).toInt + y7.toInt := by rw [hz17]; exact pj_addI (by have := pj_i32 ((Int16.ofInt 3000).toInt32); have := pj_i32 y7; omega) (by have := pj_i32 ((Int16.ofInt 3000).toInt32); have := pj_i32 y7; omega)
        have q18 : (pj_fi G15 2 4).toInt = y16.toInt := by rw [show pj_fi G15 2 4 = y16 from hy16.symm]
        refine pj_X_ca (vs := [.ref 27, .int z17]) rfl (fun _ => rfl) ⟨Nat.le_of_ble_eq_true rfl, Nat.le_of_ble_eq_true rfl, pj_T_rcv iG15 rfl⟩ ⟨rfl, rfl⟩ (pj_Y_up (by decide) (ct_60x G15 iG15 z17 (by omega))) ?_
        rintro _ G20 ⟨rfl, iG20, jG20, eG20, fy19⟩
        replace eG20 := eG20 _ rfl
        rw [← fy19, pj_nm_e]
        have kG20 : pj_kpt kc_62_2_1x G0 G20 := pj_kpt_t kG15 (pj_kpt_s jG20 rfl)
        have q21 : (pj_fi G20 2 4).toInt = (pj_fi G15 2 4).toInt := by rw [jG20.1 (2, 4) (by decide)]
        obtain ⟨y22, hy22⟩ : ∃ z : Int32, z = pj_fi G20 2 4 := ⟨_, rfl⟩
        have ey22 : (pj_fi G20 2 4).toInt = y22.toInt := by rw [hy22]
        have ry22 : (-1 : Int) ≤ y22.toInt ∧ y22.toInt ≤ 80 := by rw [hy22]; exact iG20.2.1 2 4 (-1, 80) rfl
        show pj_X _ _ G20 79 [(6, .int y7), (0, .ref 27), (1, .ref 2), (2, .int lv), (3, .int dp), (4, .int v4), (5, .int v5)] [] _
        refine pj_X_of (fun r h => pj_R_to (G20, 82, [(5, .int (v5 + Int32.ofInt 1)), (6, .int y7), (0, .ref 27), (1, .ref 2), (2, .int lv), (3, .int dp), (4, .int v4)], [], 0, 0) 82 2 (fun _ => rfl) h) ?_
        obtain ⟨z23, hz23⟩ : ∃ z : Int32, z = v5 + Int32.ofInt 1 := ⟨_, rfl⟩
        rw [← hz23]
        rw [pj_nm_e]
        have fz23_0 : z23.toInt = v5.toInt + (Int32.ofInt 1).toInt := by rw [hz23]; exact pj_addI (by have := pj_i32 v5; have := pj_i32 (Int32.ofInt 1); omega) (by have := pj_i32 v5; have := pj_i32 (Int32.ofInt 1); omega)
        refine pj_X_of (fun r h => pj_R_to (G20, 36, [(5, .int z23), (6, .int y7), (0, .ref 27), (1, .ref 2), (2, .int lv), (3, .int dp), (4, .int v4)], [], 0, 0) 36 2 (fun _ => rfl) h) ?_
        have q24 : (pj_fi G20 2 4).toInt = y22.toInt := by rw [show pj_fi G20 2 4 = y22 from hy22.symm]
        exact pj_X_sub [(0, .ref 27), (1, .ref 2), (2, .int lv), (3, .int dp), (4, .int v4), (5, .int z23)] (show List.Nodup [0, 1, 2, 3, 4, 5] by decide) ⟨rfl, rfl, rfl, rfl, rfl, rfl, trivial⟩ (ih G20 iG20 kG20 v4 z23 ⟨by omega, by omega⟩ ⟨by omega, by omega⟩ (by omega) (pr_kc_t (pr_kc_t (pr_kc_t x1_ (pr_kc_k jG8 rfl)) eG15.2) eG20) (by omega))
      | false =>
        rw [pj_cF]
        have ub11 := pj_u_neF b11
        refine pj_X_of (fun r h => pj_R_icF rfl b11 h) ?_
        have q25 : (pj_fi G8 2 4).toInt = y10.toInt := by rw [show pj_fi G8 2 4 = y10 from hy10.symm]
        exact pj_X_rt rfl rfl ⟨rfl, iG8, kG8, (fun H hH => by subst hH; exact (⟨by omega, (pr_kc_t x1_ (pr_kc_k jG8 rfl))⟩)), rfl⟩
theorem ct_62_2_1x (G0 : pj_G) (hI : pj_Inv G0) (lv : Int32) (dp : Int32) (rlv : (2 : Int) ≤ lv.toInt ∧ lv.toInt ≤ 2) (rdp : (1 : Int) ≤ dp.toInt ∧ dp.toInt ≤ 1) : pj_Y 38 62 [.ref 27, .ref 2, .int lv, .int dp] G0 (fun v' G' => v' = none ∧ pj_Inv G' ∧ pj_kpt kc_62_2_1x G0 G' ∧ (∀ H, G0 = H → (((¬ (pj_fi H 2 4).toInt = -1 → (pj_fi G' 2 4).toInt = (pj_fi H 2 4).toInt)) ∧ (pr_kc H G'))) ∧ (G' = F_62_2_1x G0 lv dp)) := by
  have c0_ : ((Int16.ofInt 3000).toInt32).toInt = 3000 := by decide
  have c1_ : ((Int8.ofInt 40).toInt32).toInt = 40 := by decide
  have c2_ : (Int32.ofInt (-1)).toInt = -1 := by decide
  have c3_ : (Int32.ofInt 0).toInt = 0 := by decide
  have c4_ : (Int32.ofInt 1).toInt = 1 := by decide
  have c5_ : (Int32.ofInt 2).toInt = 2 := by decide
  refine pj_Y_X (M := pj_m62) rfl rfl (Nat.le_of_ble_eq_true rfl) ?_
  have hK : pj_kpt kc_62_2_1x G0 G0 := pj_kpt_r _ _
  show pj_X _ _ G0 0 [(0, .ref 27), (1, .ref 2), (2, .int lv), (3, .int dp)] [] _
  rw [F_62_2_1x_e]
  obtain ⟨y26, hy26⟩ : ∃ z : Int32, z = pj_fi G0 2 4 := ⟨_, rfl⟩
  have ey26 : (pj_fi G0 2 4).toInt = y26.toInt := by rw [hy26]
  have ry26 : (-1 : Int) ≤ y26.toInt ∧ y26.toInt ≤ 80 := by rw [hy26]; exact hI.2.1 2 4 (-1, 80) rfl
  refine pj_X_of (fun r h => pj_R_to (G0, 2, [(0, .ref 27), (1, .ref 2), (2, .int lv), (3, .int dp)], [.int (Int32.ofInt 2), .int lv], 0, 0) 2 3 (fun _ => rfl) h) ?_
  refine pj_X_of (fun r h => pj_R_icT 12 rfl rfl (pj_b_leT (by omega)) h) ?_
  refine pj_X_of (fun r h => pj_R_to (G0, 17, [(0, .ref 27), (1, .ref 2), (2, .int lv), (3, .int dp)], [.int (lv + (Int32.ofInt 1)), .ref 2, .ref 27], 0, 0) 17 6 (fun _ => rfl) h) ?_
  obtain ⟨z27, hz27⟩ : ∃ z : Int32, z = lv + (Int32.ofInt 1) := ⟨_, rfl⟩
  refine pj_X_eqi hz27.symm ?_
  rw [← hz27, pj_nm_e]
  have fz27_0 : z27.toInt = lv.toInt + (Int32.ofInt 1).toInt := by rw [hz27]; exact pj_addI (by have := pj_i32 lv; have := pj_i32 (Int32.ofInt 1); omega) (by have := pj_i32 lv; have := pj_i32 (Int32.ofInt 1); omega)
  refine pj_X_of (fun r h => pj_R_to (G0, 18, [(0, .ref 27), (1, .ref 2), (2, .int lv), (3, .int dp)], [.int dp, .int z27, .ref 2, .ref 27], 0, 0) 18 2 (fun _ => rfl) h) ?_
  have q28 : (pj_fi G0 2 4).toInt = y26.toInt := by rw [show pj_fi G0 2 4 = y26 from hy26.symm]
  refine pj_X_ca (vs := [.ref 27, .ref 2, .int z27, .int dp]) rfl (fun _ => rfl) ⟨Nat.le_of_ble_eq_true rfl, Nat.le_of_ble_eq_true rfl, pj_T_rcv hI rfl⟩ ⟨rfl, rfl⟩ (pj_Y_up (by decide) (ct_62_3_1x G0 hI z27 dp ⟨by omega, by omega⟩ ⟨by omega, by omega⟩)) ?_
  rintro _ G30 ⟨rfl, iG30, jG30, eG30, fy29⟩
  replace eG30 := eG30 _ rfl
  rw [← fy29, pj_nm_e]
  have kG30 : pj_kpt kc_62_2_1x G0 G30 := pj_kpt_t hK (pj_kpt_s jG30 rfl)
  obtain ⟨y31, hy31⟩ : ∃ z : Int32, z = pj_fi G30 2 4 := ⟨_, rfl⟩
  have ey31 : (pj_fi G30 2 4).toInt = y31.toInt := by rw [hy31]
  have ry31 : (-1 : Int) ≤ y31.toInt ∧ y31.toInt ≤ 80 := by rw [hy31]; exact iG30.2.1 2 4 (-1, 80) rfl
  show pj_X _ _ G30 21 [(0, .ref 27), (1, .ref 2), (2, .int lv), (3, .int dp)] [] _
  refine pj_X_of (fun r h => pj_R_to (G30, 22, [(0, .ref 27), (1, .ref 2), (2, .int lv), (3, .int dp)], [.int lv], 0, 0) 22 2 (fun _ => rfl) h) ?_
  refine pj_X_of (fun r h => pj_R_ifT 29 rfl rfl (pj_b0_neT (by omega)) h) ?_
  refine pj_X_of (fun r h => pj_R_to (G30, 36, [(5, .int (Int32.ofInt 0)), (4, .int ((Int8.ofInt 40).toInt32)), (0, .ref 27), (1, .ref 2), (2, .int lv), (3, .int dp)], [], 0, 0) 36 5 (fun _ => rfl) h) ?_
  have q32 : (pj_fi G30 2 4).toInt = y31.toInt := by rw [show pj_fi G30 2 4 = y31 from hy31.symm]
  exact pj_X_sub [(0, .ref 27), (1, .ref 2), (2, .int lv), (3, .int dp), (4, .int ((Int8.ofInt 40).toInt32)), (5, .int (Int32.ofInt 0))] (show List.Nodup [0, 1, 2, 3, 4, 5] by decide) ⟨rfl, rfl, rfl, rfl, rfl, rfl, trivial⟩ ((lp_ct_62_2_1x G0 hI lv dp rlv rdp 41) G30 iG30 kG30 ((Int8.ofInt 40).toInt32) (Int32.ofInt 0) ⟨by omega, by omega⟩ ⟨by omega, by omega⟩ (by omega) eG30.2 (by omega))
theorem fr_62_2_1x (G0 : pj_G) (hI : pj_Inv G0) (lv : Int32) (dp : Int32) (rlv : (2 : Int) ≤ lv.toInt ∧ lv.toInt ≤ 2) (rdp : (1 : Int) ≤ dp.toInt ∧ dp.toInt ≤ 1) : pj_Inv (F_62_2_1x G0 lv dp) ∧ pj_kpt kc_62_2_1x G0 (F_62_2_1x G0 lv dp) ∧ (((¬ (pj_fi G0 2 4).toInt = -1 → (pj_fi (F_62_2_1x G0 lv dp) 2 4).toInt = (pj_fi G0 2 4).toInt)) ∧ (pr_kc G0 (F_62_2_1x G0 lv dp))) := by
  obtain ⟨v, G', -, -, i, j, x, e⟩ := ct_62_2_1x G0 hI lv dp rlv rdp
  rw [← e]
  exact ⟨i, j, x _ rfl⟩
def kc_62_1_1x : pj_KT := ([(2, 3), (2, 4), (27, 3)], [2, 27, 28, 29], [28, 29])
noncomputable def L_62_1_1x (G0 : pj_G) (lv : Int32) (dp : Int32) (fu : Nat) : Int32 → Int32 → pj_G → pj_G := Nat.rec (motive := fun _ => Int32 → Int32 → pj_G → pj_G) (fun _ _ G => G) (fun _ ih v4 v5 G => cond (pj_c1 .ge v5 v4) (G) (pj_bd (F_84_s6x G) (fun y7 G8 => cond (pj_c1 .ne y7 (Int32.ofInt (-1))) (pj_nm (lv + (Int32.ofInt 1)) (fun z12 => pj_nm (F_62_2_1x G8 z12 dp) (fun G15 => pj_nm (((Int16.ofInt 3000).toInt32) + y7) (fun z17 => pj_nm (F_60x G15 z17) (fun G20 => pj_nm (v5 + Int32.ofInt 1) (fun z23 => ih v4 z23 G20)))))) (G8)))) fu
theorem L_62_1_1x_s0 (G0 : pj_G) (lv : Int32) (dp : Int32) (fu : Nat) (v4 : Int32) (v5 : Int32) (G : pj_G) : L_62_1_1x G0 lv dp (fu + 1) v4 v5 G = cond (pj_c1 .ge v5 v4) (G) (pj_bd (F_84_s6x G) (fun y7 G8 => cond (pj_c1 .ne y7 (Int32.ofInt (-1))) (pj_nm (lv + (Int32.ofInt 1)) (fun z12 => pj_nm (F_62_2_1x G8 z12 dp) (fun G15 => pj_nm (((Int16.ofInt 3000).toInt32) + y7) (fun z17 => pj_nm (F_60x G15 z17) (fun G20 => pj_nm (v5 + Int32.ofInt 1) (fun z23 => L_62_1_1x G0 lv dp fu v4 z23 G20)))))) (G8))) := rfl
noncomputable def F_62_1_1x (G0 : pj_G) (lv : Int32) (dp : Int32) : pj_G := pj_nm (lv + (Int32.ofInt 1)) (fun z27 => pj_nm (F_62_2_1x G0 z27 dp) (fun G30 => L_62_1_1x G0 lv dp 41 ((Int8.ofInt 40).toInt32) (Int32.ofInt 0) G30))
theorem F_62_1_1x_e (G0 : pj_G) (lv : Int32) (dp : Int32) : F_62_1_1x G0 lv dp = pj_nm (lv + (Int32.ofInt 1)) (fun z27 => pj_nm (F_62_2_1x G0 z27 dp) (fun G30 => L_62_1_1x G0 lv dp 41 ((Int8.ofInt 40).toInt32) (Int32.ofInt 0) G30)) := rfl
theorem lp_ct_62_1_1x (G0 : pj_G) (hI0 : pj_Inv G0) (lv : Int32) (dp : Int32) (rlv : (1 : Int) ≤ lv.toInt ∧ lv.toInt ≤ 1) (rdp : (1 : Int) ≤ dp.toInt ∧ dp.toInt ≤ 1) : ∀ mn : Nat, (∀ (G : pj_G) (hI : pj_Inv G) (hK : pj_kpt kc_62_1_1x G0 G) (v4 : Int32) (v5 : Int32), ((1 : Int) ≤ v4.toInt ∧ v4.toInt ≤ 40) → ((0 : Int) ≤ v5.toInt ∧ v5.toInt ≤ 40) → (¬ (pj_fi G0 2 4).toInt = -1 → (pj_fi G 2 4).toInt = (pj_fi G0 2 4).toInt) → (pr_kc G0 G) → 40 - v5.toInt < (mn : Int) → pj_X 38 pj_m62 G 36 [(0, .ref 27), (1, .ref 2), (2, .int lv), (3, .int dp), (4, .int v4), (5, .int v5)] [] (fun v' G' => v' = none ∧ pj_Inv G' ∧ pj_kpt kc_62_1_1x G0 G' ∧ (∀ H, G0 = H → (((¬ (pj_fi H 2 4).toInt = -1 → (pj_fi G' 2 4).toInt = (pj_fi H 2 4).toInt)) ∧ (pr_kc H G'))) ∧ (G' = L_62_1_1x G0 lv dp mn v4 v5 G))) := by
  have c0_ : ((Int16.ofInt 3000).toInt32).toInt = 3000 := by decide
  have c1_ : ((Int8.ofInt 40).toInt32).toInt = 40 := by decide
  have c2_ : (Int32.ofInt (-1)).toInt = -1 := by decide
  have c3_ : (Int32.ofInt 0).toInt = 0 := by decide
  have c4_ : (Int32.ofInt 1).toInt = 1 := by decide
  have c5_ : (Int32.ofInt 2).toInt = 2 := by decide
  intro mn
  induction mn with
  | zero =>
    intro G hI hK v4 v5 rv4 rv5 x0_ x1_ hm
    exfalso
    omega
  | succ mn ih =>
    intro G hI hK v4 v5 rv4 rv5 x0_ x1_ hm
    rw [L_62_1_1x_s0]
    obtain ⟨y1, hy1⟩ : ∃ z : Int32, z = pj_fi G 2 4 := ⟨_, rfl⟩
    have ey1 : (pj_fi G 2 4).toInt = y1.toInt := by rw [hy1]
    have ry1 : (-1 : Int) ≤ y1.toInt ∧ y1.toInt ≤ 80 := by rw [hy1]; exact hI.2.1 2 4 (-1, 80) rfl
    refine pj_X_of (fun r h => pj_R_to (G, 40, [(0, .ref 27), (1, .ref 2), (2, .int lv), (3, .int dp), (4, .int v4), (5, .int v5)], [.int v4, .int v5], 0, 0) 40 3 (fun _ => rfl) h) ?_
    cases b2 : pj_c1 .ge v5 v4 with
    | true =>
      rw [pj_cT]
      have ub2 := pj_u_geT b2
      refine pj_X_of (fun r h => pj_R_icT 85 rfl rfl b2 h) ?_
      have q3 : (pj_fi G 2 4).toInt = y1.toInt := by rw [show pj_fi G 2 4 = y1 from hy1.symm]
      exact pj_X_rt rfl rfl ⟨rfl, hI, hK, (fun H hH => by subst hH; exact (⟨by omega, x1_⟩)), rfl⟩
    | false =>
      rw [pj_cF]
      have ub2 := pj_u_geF b2
      refine pj_X_of (fun r h => pj_R_icF rfl b2 h) ?_
      refine pj_X_of (fun r h => pj_R_to (G, 45, [(0, .ref 27), (1, .ref 2), (2, .int lv), (3, .int dp), (4, .int v4), (5, .int v5)], [.int lv, .ref 2], 0, 0) 45 3 (fun _ => rfl) h) ?_
      have q4 : (pj_fi G 2 4).toInt = y1.toInt := by rw [show pj_fi G 2 4 = y1 from hy1.symm]
      refine pj_X_ca (vs := [.int lv]) rfl (fun _ => rfl) ⟨Nat.le_of_ble_eq_true rfl, Nat.le_of_ble_eq_true rfl, rfl⟩ ⟨rfl, rfl⟩ (pj_Y_up (by decide) (ct_61_1 G hI lv ⟨by omega, by omega⟩)) ?_
      rintro _ _ ⟨rfl, rfl⟩
      show pj_X _ _ G 48 [(0, .ref 27), (1, .ref 2), (2, .int lv), (3, .int dp), (4, .int v4), (5, .int v5)] [.retAddr 6, .ref 2] _
      have q6 : (pj_fi G 2 4).toInt = y1.toInt := by rw [show pj_fi G 2 4 = y1 from hy1.symm]
      refine pj_X_ca (vs := [.ref 2, .retAddr 6]) rfl (fun _ => rfl) ⟨Nat.le_of_ble_eq_true rfl, Nat.le_of_ble_eq_true rfl, pj_T_rcv hI rfl⟩ ⟨rfl, rfl⟩ (pj_Y_up (by decide) (ct_84_s6x G hI)) ?_
      rintro _ G8 ⟨y7, rfl, iG8, jG8, ry7, ey7, fy7⟩
      replace ey7 := ey7 _ rfl
      rw [← fy7, pj_bd_e]
      have kG8 : pj_kpt kc_62_1_1x G0 G8 := pj_kpt_t hK (pj_kpt_s jG8 rfl)
      have q9 : (pj_fi G8 2 4).toInt = (pj_fi G 2 4).toInt := by rw [jG8.1 (2, 4) (by decide)]
      obtain ⟨y10, hy10⟩ : ∃ z : Int32, z = pj_fi G8 2 4 := ⟨_, rfl⟩
      have ey10 : (pj_fi G8 2 4).toInt = y10.toInt := by rw [hy10]
      have ry10 : (-1 : Int) ≤ y10.toInt ∧ y10.toInt ≤ 80 := by rw [hy10]; exact iG8.2.1 2 4 (-1, 80) rfl
      show pj_X _ _ G8 51 [(0, .ref 27), (1, .ref 2), (2, .int lv), (3, .int dp), (4, .int v4), (5, .int v5)] [.int y7] _
      refine pj_X_of (fun r h => pj_R_to (G8, 56, [(6, .int y7), (0, .ref 27), (1, .ref 2), (2, .int lv), (3, .int dp), (4, .int v4), (5, .int v5)], [.int (Int32.ofInt (-1)), .int y7], 0, 0) 56 4 (fun _ => rfl) h) ?_
      cases b11 : pj_c1 .ne y7 (Int32.ofInt (-1)) with
      | true =>
        rw [pj_cT]
        have ub11 := pj_u_neT b11
        refine pj_X_of (fun r h => pj_R_icT 60 rfl rfl b11 h) ?_
        refine pj_X_of (fun r h => pj_R_to (G8, 65, [(6, .int y7), (0, .ref 27), (1, .ref 2), (2, .int lv), (3, .int dp), (4, .int v4), (5, .int v5)], [.int (lv + (Int32.ofInt 1)), .ref 2, .ref 27], 0, 0) 65 6 (fun _ => rfl) h) ?_
        obtain ⟨z12, hz12⟩ : ∃ z : Int32, z = lv + (Int32.ofInt 1) := ⟨_, rfl⟩
        refine pj_X_eqi hz12.symm ?_
        rw [← hz12, pj_nm_e]
        have fz12_0 : z12.toInt = lv.toInt + (Int32.ofInt 1).toInt := by rw [hz12]; exact pj_addI (by have := pj_i32 lv; have := pj_i32 (Int32.ofInt 1); omega) (by have := pj_i32 lv; have := pj_i32 (Int32.ofInt 1); omega)
        refine pj_X_of (fun r h => pj_R_to (G8, 66, [(6, .int y7), (0, .ref 27), (1, .ref 2), (2, .int lv), (3, .int dp), (4, .int v4), (5, .int v5)], [.int dp, .int z12, .ref 2, .ref 27], 0, 0) 66 2 (fun _ => rfl) h) ?_
        have q13 : (pj_fi G8 2 4).toInt = y10.toInt := by rw [show pj_fi G8 2 4 = y10 from hy10.symm]
        refine pj_X_ca (vs := [.ref 27, .ref 2, .int z12, .int dp]) rfl (fun _ => rfl) ⟨Nat.le_of_ble_eq_true rfl, Nat.le_of_ble_eq_true rfl, pj_T_rcv iG8 rfl⟩ ⟨rfl, rfl⟩ (pj_Y_up (by decide) (ct_62_2_1x G8 iG8 z12 dp ⟨by omega, by omega⟩ ⟨by omega, by omega⟩)) ?_
        rintro _ G15 ⟨rfl, iG15, jG15, eG15, fy14⟩
        replace eG15 := eG15 _ rfl
        rw [← fy14, pj_nm_e]
        have kG15 : pj_kpt kc_62_1_1x G0 G15 := pj_kpt_t kG8 (pj_kpt_s jG15 rfl)
        obtain ⟨y16, hy16⟩ : ∃ z : Int32, z = pj_fi G15 2 4 := ⟨_, rfl⟩
        have ey16 : (pj_fi G15 2 4).toInt = y16.toInt := by rw [hy16]
        have ry16 : (-1 : Int) ≤ y16.toInt ∧ y16.toInt ≤ 80 := by rw [hy16]; exact iG15.2.1 2 4 (-1, 80) rfl
        show pj_X _ _ G15 69 [(6, .int y7), (0, .ref 27), (1, .ref 2), (2, .int lv), (3, .int dp), (4, .int v4), (5, .int v5)] [] _
        refine pj_X_of (fun r h => pj_R_to (G15, 76, [(6, .int y7), (0, .ref 27), (1, .ref 2), (2, .int lv), (3, .int dp), (4, .int v4), (5, .int v5)], [.int (((Int16.ofInt 3000).toInt32) + y7), .ref 27], 0, 0) 76 5 (fun _ => rfl) h) ?_
        obtain ⟨z17, hz17⟩ : ∃ z : Int32, z = ((Int16.ofInt 3000).toInt32) + y7 := ⟨_, rfl⟩
        refine pj_X_eqi hz17.symm ?_
        rw [← hz17, pj_nm_e]
        have fz17_0 : z17.toInt = ((Int16.ofInt 3000).toInt32).toInt + y7.toInt := by rw [hz17]; exact pj_addI (by have := pj_i32 ((Int16.ofInt 3000).toInt32); have := pj_i32 y7; omega) (by have := pj_i32 ((Int16.ofInt 3000).toInt32); have := pj_i32 y7; omega)
        have q18 : (pj_fi G15 2 4).toInt = y16.toInt := by rw [show pj_fi G15 2 4 = y16 from hy16.symm]
        refine pj_X_ca (vs := [.ref 27, .int z17]) rfl (fun _ => rfl) ⟨Nat.le_of_ble_eq_true rfl, Nat.le_of_ble_eq_true rfl, pj_T_rcv iG15 rfl⟩ ⟨rfl, rfl⟩ (pj_Y_up (by decide) (ct_60x G15 iG15 z17 (by omega))) ?_
        rintro _ G20 ⟨rfl, iG20, jG20, eG20, fy19⟩
        replace eG20 := eG20 _ rfl
        rw [← fy19, pj_nm_e]
        have kG20 : pj_kpt kc_62_1_1x G0 G20 := pj_kpt_t kG15 (pj_kpt_s jG20 rfl)
        have q21 : (pj_fi G20 2 4).toInt = (pj_fi G15 2 4).toInt := by rw [jG20.1 (2, 4) (by decide)]
        obtain ⟨y22, hy22⟩ : ∃ z : Int32, z = pj_fi G20 2 4 := ⟨_, rfl⟩
        have ey22 : (pj_fi G20 2 4).toInt = y22.toInt := by rw [hy22]
        have ry22 : (-1 : Int) ≤ y22.toInt ∧ y22.toInt ≤ 80 := by rw [hy22]; exact iG20.2.1 2 4 (-1, 80) rfl
        show pj_X _ _ G20 79 [(6, .int y7), (0, .ref 27), (1, .ref 2), (2, .int lv), (3, .int dp), (4, .int v4), (5, .int v5)] [] _
        refine pj_X_of (fun r h => pj_R_to (G20, 82, [(5, .int (v5 + Int32.ofInt 1)), (6, .int y7), (0, .ref 27), (1, .ref 2), (2, .int lv), (3, .int dp), (4, .int v4)], [], 0, 0) 82 2 (fun _ => rfl) h) ?_
        obtain ⟨z23, hz23⟩ : ∃ z : Int32, z = v5 + Int32.ofInt 1 := ⟨_, rfl⟩
        rw [← hz23]
        rw [pj_nm_e]
        have fz23_0 : z23.toInt = v5.toInt + (Int32.ofInt 1).toInt := by rw [hz23]; exact pj_addI (by have := pj_i32 v5; have := pj_i32 (Int32.ofInt 1); omega) (by have := pj_i32 v5; have := pj_i32 (Int32.ofInt 1); omega)
        refine pj_X_of (fun r h => pj_R_to (G20, 36, [(5, .int z23), (6, .int y7), (0, .ref 27), (1, .ref 2), (2, .int lv), (3, .int dp), (4, .int v4)], [], 0, 0) 36 2 (fun _ => rfl) h) ?_
        have q24 : (pj_fi G20 2 4).toInt = y22.toInt := by rw [show pj_fi G20 2 4 = y22 from hy22.symm]
        exact pj_X_sub [(0, .ref 27), (1, .ref 2), (2, .int lv), (3, .int dp), (4, .int v4), (5, .int z23)] (show List.Nodup [0, 1, 2, 3, 4, 5] by decide) ⟨rfl, rfl, rfl, rfl, rfl, rfl, trivial⟩ (ih G20 iG20 kG20 v4 z23 ⟨by omega, by omega⟩ ⟨by omega, by omega⟩ (by omega) (pr_kc_t (pr_kc_t (pr_kc_t x1_ (pr_kc_k jG8 rfl)) eG15.2) eG20) (by omega))
      | false =>
        rw [pj_cF]
        have ub11 := pj_u_neF b11
        refine pj_X_of (fun r h => pj_R_icF rfl b11 h) ?_
        have q25 : (pj_fi G8 2 4).toInt = y10.toInt := by rw [show pj_fi G8 2 4 = y10 from hy10.symm]
        exact pj_X_rt rfl rfl ⟨rfl, iG8, kG8, (fun H hH => by subst hH; exact (⟨by omega, (pr_kc_t x1_ (pr_kc_k jG8 rfl))⟩)), rfl⟩
theorem ct_62_1_1x (G0 : pj_G) (hI : pj_Inv G0) (lv : Int32) (dp : Int32) (rlv : (1 : Int) ≤ lv.toInt ∧ lv.toInt ≤ 1) (rdp : (1 : Int) ≤ dp.toInt ∧ dp.toInt ≤ 1) : pj_Y 39 62 [.ref 27, .ref 2, .int lv, .int dp] G0 (fun v' G' => v' = none ∧ pj_Inv G' ∧ pj_kpt kc_62_1_1x G0 G' ∧ (∀ H, G0 = H → (((¬ (pj_fi H 2 4).toInt = -1 → (pj_fi G' 2 4).toInt = (pj_fi H 2 4).toInt)) ∧ (pr_kc H G'))) ∧ (G' = F_62_1_1x G0 lv dp)) := by
  have c0_ : ((Int16.ofInt 3000).toInt32).toInt = 3000 := by decide
  have c1_ : ((Int8.ofInt 40).toInt32).toInt = 40 := by decide
  have c2_ : (Int32.ofInt (-1)).toInt = -1 := by decide
  have c3_ : (Int32.ofInt 0).toInt = 0 := by decide
  have c4_ : (Int32.ofInt 1).toInt = 1 := by decide
  have c5_ : (Int32.ofInt 2).toInt = 2 := by decide
  refine pj_Y_X (M := pj_m62) rfl rfl (Nat.le_of_ble_eq_true rfl) ?_
  have hK : pj_kpt kc_62_1_1x G0 G0 := pj_kpt_r _ _
  show pj_X _ _ G0 0 [(0, .ref 27), (1, .ref 2), (2, .int lv), (3, .int dp)] [] _
  rw [F_62_1_1x_e]
  obtain ⟨y26, hy26⟩ : ∃ z : Int32, z = pj_fi G0 2 4 := ⟨_, rfl⟩
  have ey26 : (pj_fi G0 2 4).toInt = y26.toInt := by rw [hy26]
  have ry26 : (-1 : Int) ≤ y26.toInt ∧ y26.toInt ≤ 80 := by rw [hy26]; exact hI.2.1 2 4 (-1, 80) rfl
  refine pj_X_of (fun r h => pj_R_to (G0, 2, [(0, .ref 27), (1, .ref 2), (2, .int lv), (3, .int dp)], [.int (Int32.ofInt 2), .int lv], 0, 0) 2 3 (fun _ => rfl) h) ?_
  refine pj_X_of (fun r h => pj_R_icT 12 rfl rfl (pj_b_leT (by omega)) h) ?_
  refine pj_X_of (fun r h => pj_R_to (G0, 17, [(0, .ref 27), (1, .ref 2), (2, .int lv), (3, .int dp)], [.int (lv + (Int32.ofInt 1)), .ref 2, .ref 27], 0, 0) 17 6 (fun _ => rfl) h) ?_
  obtain ⟨z27, hz27⟩ : ∃ z : Int32, z = lv + (Int32.ofInt 1) := ⟨_, rfl⟩
  refine pj_X_eqi hz27.symm ?_
  rw [← hz27, pj_nm_e]
  have fz27_0 : z27.toInt = lv.toInt + (Int32.ofInt 1).toInt := by rw [hz27]; exact pj_addI (by have := pj_i32 lv; have := pj_i32 (Int32.ofInt 1); omega) (by have := pj_i32 lv; have := pj_i32 (Int32.ofInt 1); omega)
  refine pj_X_of (fun r h => pj_R_to (G0, 18, [(0, .ref 27), (1, .ref 2), (2, .int lv), (3, .int dp)], [.int dp, .int z27, .ref 2, .ref 27], 0, 0) 18 2 (fun _ => rfl) h) ?_
  have q28 : (pj_fi G0 2 4).toInt = y26.toInt := by rw [show pj_fi G0 2 4 = y26 from hy26.symm]
  refine pj_X_ca (vs := [.ref 27, .ref 2, .int z27, .int dp]) rfl (fun _ => rfl) ⟨Nat.le_of_ble_eq_true rfl, Nat.le_of_ble_eq_true rfl, pj_T_rcv hI rfl⟩ ⟨rfl, rfl⟩ (pj_Y_up (by decide) (ct_62_2_1x G0 hI z27 dp ⟨by omega, by omega⟩ ⟨by omega, by omega⟩)) ?_
  rintro _ G30 ⟨rfl, iG30, jG30, eG30, fy29⟩
  replace eG30 := eG30 _ rfl
  rw [← fy29, pj_nm_e]
  have kG30 : pj_kpt kc_62_1_1x G0 G30 := pj_kpt_t hK (pj_kpt_s jG30 rfl)
  obtain ⟨y31, hy31⟩ : ∃ z : Int32, z = pj_fi G30 2 4 := ⟨_, rfl⟩
  have ey31 : (pj_fi G30 2 4).toInt = y31.toInt := by rw [hy31]
  have ry31 : (-1 : Int) ≤ y31.toInt ∧ y31.toInt ≤ 80 := by rw [hy31]; exact iG30.2.1 2 4 (-1, 80) rfl
  show pj_X _ _ G30 21 [(0, .ref 27), (1, .ref 2), (2, .int lv), (3, .int dp)] [] _
  refine pj_X_of (fun r h => pj_R_to (G30, 22, [(0, .ref 27), (1, .ref 2), (2, .int lv), (3, .int dp)], [.int lv], 0, 0) 22 2 (fun _ => rfl) h) ?_
  refine pj_X_of (fun r h => pj_R_ifT 29 rfl rfl (pj_b0_neT (by omega)) h) ?_
  refine pj_X_of (fun r h => pj_R_to (G30, 36, [(5, .int (Int32.ofInt 0)), (4, .int ((Int8.ofInt 40).toInt32)), (0, .ref 27), (1, .ref 2), (2, .int lv), (3, .int dp)], [], 0, 0) 36 5 (fun _ => rfl) h) ?_
  have q32 : (pj_fi G30 2 4).toInt = y31.toInt := by rw [show pj_fi G30 2 4 = y31 from hy31.symm]
  exact pj_X_sub [(0, .ref 27), (1, .ref 2), (2, .int lv), (3, .int dp), (4, .int ((Int8.ofInt 40).toInt32)), (5, .int (Int32.ofInt 0))] (show List.Nodup [0, 1, 2, 3, 4, 5] by decide) ⟨rfl, rfl, rfl, rfl, rfl, rfl, trivial⟩ ((lp_ct_62_1_1x G0 hI lv dp rlv rdp 41) G30 iG30 kG30 ((Int8.ofInt 40).toInt32) (Int32.ofInt 0) ⟨by omega, by omega⟩ ⟨by omega, by omega⟩ (by omega) eG30.2 (by omega))
theorem fr_62_1_1x (G0 : pj_G) (hI : pj_Inv G0) (lv : Int32) (dp : Int32) (rlv : (1 : Int) ≤ lv.toInt ∧ lv.toInt ≤ 1) (rdp : (1 : Int) ≤ dp.toInt ∧ dp.toInt ≤ 1) : pj_Inv (F_62_1_1x G0 lv dp) ∧ pj_kpt kc_62_1_1x G0 (F_62_1_1x G0 lv dp) ∧ (((¬ (pj_fi G0 2 4).toInt = -1 → (pj_fi (F_62_1_1x G0 lv dp) 2 4).toInt = (pj_fi G0 2 4).toInt)) ∧ (pr_kc G0 (F_62_1_1x G0 lv dp))) := by
  obtain ⟨v, G', -, -, i, j, x, e⟩ := ct_62_1_1x G0 hI lv dp rlv rdp
  rw [← e]
  exact ⟨i, j, x _ rfl⟩
def kc_62_0_1x : pj_KT := ([(2, 3), (2, 4), (27, 3)], [2, 27, 28, 29], [28, 29])
noncomputable def L_62_0_1x (G0 : pj_G) (lv : Int32) (dp : Int32) (fu : Nat) : Int32 → Int32 → pj_G → pj_G := Nat.rec (motive := fun _ => Int32 → Int32 → pj_G → pj_G) (fun _ _ G => G) (fun _ ih v4 v5 G => cond (pj_c1 .ge v5 v4) (G) (pj_bd (F_84_s5x G) (fun y7 G8 => cond (pj_c1 .ne y7 (Int32.ofInt (-1))) (pj_nm (lv + (Int32.ofInt 1)) (fun z12 => pj_nm (F_62_1_1x G8 z12 dp) (fun G15 => pj_nm (((Int16.ofInt 3000).toInt32) + y7) (fun z17 => pj_nm (F_60x G15 z17) (fun G20 => pj_nm (v5 + Int32.ofInt 1) (fun z23 => ih v4 z23 G20)))))) (G8)))) fu
theorem L_62_0_1x_s0 (G0 : pj_G) (lv : Int32) (dp : Int32) (fu : Nat) (v4 : Int32) (v5 : Int32) (G : pj_G) : L_62_0_1x G0 lv dp (fu + 1) v4 v5 G = cond (pj_c1 .ge v5 v4) (G) (pj_bd (F_84_s5x G) (fun y7 G8 => cond (pj_c1 .ne y7 (Int32.ofInt (-1))) (pj_nm (lv + (Int32.ofInt 1)) (fun z12 => pj_nm (F_62_1_1x G8 z12 dp) (fun G15 => pj_nm (((Int16.ofInt 3000).toInt32) + y7) (fun z17 => pj_nm (F_60x G15 z17) (fun G20 => pj_nm (v5 + Int32.ofInt 1) (fun z23 => L_62_0_1x G0 lv dp fu v4 z23 G20)))))) (G8))) := rfl
noncomputable def F_62_0_1x (G0 : pj_G) (lv : Int32) (dp : Int32) : pj_G := pj_nm (lv + (Int32.ofInt 1)) (fun z27 => pj_nm (F_62_1_1x G0 z27 dp) (fun G30 => L_62_0_1x G0 lv dp 41 (Int32.ofInt 1) (Int32.ofInt 0) G30))
theorem F_62_0_1x_e (G0 : pj_G) (lv : Int32) (dp : Int32) : F_62_0_1x G0 lv dp = pj_nm (lv + (Int32.ofInt 1)) (fun z27 => pj_nm (F_62_1_1x G0 z27 dp) (fun G30 => L_62_0_1x G0 lv dp 41 (Int32.ofInt 1) (Int32.ofInt 0) G30)) := rfl
theorem lp_ct_62_0_1x (G0 : pj_G) (hI0 : pj_Inv G0) (lv : Int32) (dp : Int32) (rlv : (0 : Int) ≤ lv.toInt ∧ lv.toInt ≤ 0) (rdp : (1 : Int) ≤ dp.toInt ∧ dp.toInt ≤ 1) : ∀ mn : Nat, (∀ (G : pj_G) (hI : pj_Inv G) (hK : pj_kpt kc_62_0_1x G0 G) (v4 : Int32) (v5 : Int32), ((1 : Int) ≤ v4.toInt ∧ v4.toInt ≤ 40) → ((0 : Int) ≤ v5.toInt ∧ v5.toInt ≤ 40) → (¬ (pj_fi G0 2 4).toInt = -1 → (pj_fi G 2 4).toInt = (pj_fi G0 2 4).toInt) → (pr_kc G0 G) → 40 - v5.toInt < (mn : Int) → pj_X 39 pj_m62 G 36 [(0, .ref 27), (1, .ref 2), (2, .int lv), (3, .int dp), (4, .int v4), (5, .int v5)] [] (fun v' G' => v' = none ∧ pj_Inv G' ∧ pj_kpt kc_62_0_1x G0 G' ∧ (∀ H, G0 = H → (((¬ (pj_fi H 2 4).toInt = -1 → (pj_fi G' 2 4).toInt = (pj_fi H 2 4).toInt)) ∧ (pr_kc H G'))) ∧ (G' = L_62_0_1x G0 lv dp mn v4 v5 G))) := by
  have c0_ : ((Int16.ofInt 3000).toInt32).toInt = 3000 := by decide
  have c1_ : (Int32.ofInt (-1)).toInt = -1 := by decide
  have c2_ : (Int32.ofInt 0).toInt = 0 := by decide
  have c3_ : (Int32.ofInt 1).toInt = 1 := by decide
  have c4_ : (Int32.ofInt 2).toInt = 2 := by decide
  intro mn
  induction mn with
  | zero =>
    intro G hI hK v4 v5 rv4 rv5 x0_ x1_ hm
    exfalso
    omega
  | succ mn ih =>
    intro G hI hK v4 v5 rv4 rv5 x0_ x1_ hm
    rw [L_62_0_1x_s0]
    obtain ⟨y1, hy1⟩ : ∃ z : Int32, z = pj_fi G 2 4 := ⟨_, rfl⟩
    have ey1 : (pj_fi G 2 4).toInt = y1.toInt := by rw [hy1]
    have ry1 : (-1 : Int) ≤ y1.toInt ∧ y1.toInt ≤ 80 := by rw [hy1]; exact hI.2.1 2 4 (-1, 80) rfl
    refine pj_X_of (fun r h => pj_R_to (G, 40, [(0, .ref 27), (1, .ref 2), (2, .int lv), (3, .int dp), (4, .int v4), (5, .int v5)], [.int v4, .int v5], 0, 0) 40 3 (fun _ => rfl) h) ?_
    cases b2 : pj_c1 .ge v5 v4 with
    | true =>
      rw [pj_cT]
      have ub2 := pj_u_geT b2
      refine pj_X_of (fun r h => pj_R_icT 85 rfl rfl b2 h) ?_
      have q3 : (pj_fi G 2 4).toInt = y1.toInt := by rw [show pj_fi G 2 4 = y1 from hy1.symm]
      exact pj_X_rt rfl rfl ⟨rfl, hI, hK, (fun H hH => by subst hH; exact (⟨by omega, x1_⟩)), rfl⟩
    | false =>
      rw [pj_cF]
      have ub2 := pj_u_geF b2
      refine pj_X_of (fun r h => pj_R_icF rfl b2 h) ?_
      refine pj_X_of (fun r h => pj_R_to (G, 45, [(0, .ref 27), (1, .ref 2), (2, .int lv), (3, .int dp), (4, .int v4), (5, .int v5)], [.int lv, .ref 2], 0, 0) 45 3 (fun _ => rfl) h) ?_
      have q4 : (pj_fi G 2 4).toInt = y1.toInt := by rw [show pj_fi G 2 4 = y1 from hy1.symm]
      refine pj_X_ca (vs := [.int lv]) rfl (fun _ => rfl) ⟨Nat.le_of_ble_eq_true rfl, Nat.le_of_ble_eq_true rfl, rfl⟩ ⟨rfl, rfl⟩ (pj_Y_up (by decide) (ct_61_0 G hI lv ⟨by omega, by omega⟩)) ?_
      rintro _ _ ⟨rfl, rfl⟩
      show pj_X _ _ G 48 [(0, .ref 27), (1, .ref 2), (2, .int lv), (3, .int dp), (4, .int v4), (5, .int v5)] [.retAddr 5, .ref 2] _
      have q6 : (pj_fi G 2 4).toInt = y1.toInt := by rw [show pj_fi G 2 4 = y1 from hy1.symm]
      refine pj_X_ca (vs := [.ref 2, .retAddr 5]) rfl (fun _ => rfl) ⟨Nat.le_of_ble_eq_true rfl, Nat.le_of_ble_eq_true rfl, pj_T_rcv hI rfl⟩ ⟨rfl, rfl⟩ (pj_Y_up (by decide) (ct_84_s5x G hI)) ?_
      rintro _ G8 ⟨y7, rfl, iG8, jG8, ry7, ey7, fy7⟩
      replace ey7 := ey7 _ rfl
      rw [← fy7, pj_bd_e]
      have kG8 : pj_kpt kc_62_0_1x G0 G8 := pj_kpt_t hK (pj_kpt_s jG8 rfl)
      have q9 : (pj_fi G8 2 4).toInt = (pj_fi G 2 4).toInt := by rw [jG8.1 (2, 4) (by decide)]
      obtain ⟨y10, hy10⟩ : ∃ z : Int32, z = pj_fi G8 2 4 := ⟨_, rfl⟩
      have ey10 : (pj_fi G8 2 4).toInt = y10.toInt := by rw [hy10]
      have ry10 : (-1 : Int) ≤ y10.toInt ∧ y10.toInt ≤ 80 := by rw [hy10]; exact iG8.2.1 2 4 (-1, 80) rfl
      show pj_X _ _ G8 51 [(0, .ref 27), (1, .ref 2), (2, .int lv), (3, .int dp), (4, .int v4), (5, .int v5)] [.int y7] _
      refine pj_X_of (fun r h => pj_R_to (G8, 56, [(6, .int y7), (0, .ref 27), (1, .ref 2), (2, .int lv), (3, .int dp), (4, .int v4), (5, .int v5)], [.int (Int32.ofInt (-1)), .int y7], 0, 0) 56 4 (fun _ => rfl) h) ?_
      cases b11 : pj_c1 .ne y7 (Int32.ofInt (-1)) with
      | true =>
        rw [pj_cT]
        have ub11 := pj_u_neT b11
        refine pj_X_of (fun r h => pj_R_icT 60 rfl rfl b11 h) ?_
        refine pj_X_of (fun r h => pj_R_to (G8, 65, [(6, .int y7), (0, .ref 27), (1, .ref 2), (2, .int lv), (3, .int dp), (4, .int v4), (5, .int v5)], [.int (lv + (Int32.ofInt 1)), .ref 2, .ref 27], 0, 0) 65 6 (fun _ => rfl) h) ?_
        obtain ⟨z12, hz12⟩ : ∃ z : Int32, z = lv + (Int32.ofInt 1) := ⟨_, rfl⟩
        refine pj_X_eqi hz12.symm ?_
        rw [← hz12, pj_nm_e]
        have fz12_0 : z12.toInt = lv.toInt + (Int32.ofInt 1).toInt := by rw [hz12]; exact pj_addI (by have := pj_i32 lv; have := pj_i32 (Int32.ofInt 1); omega) (by have := pj_i32 lv; have := pj_i32 (Int32.ofInt 1); omega)
        refine pj_X_of (fun r h => pj_R_to (G8, 66, [(6, .int y7), (0, .ref 27), (1, .ref 2), (2, .int lv), (3, .int dp), (4, .int v4), (5, .int v5)], [.int dp, .int z12, .ref 2, .ref 27], 0, 0) 66 2 (fun _ => rfl) h) ?_
        have q13 : (pj_fi G8 2 4).toInt = y10.toInt := by rw [show pj_fi G8 2 4 = y10 from hy10.symm]
        refine pj_X_ca (vs := [.ref 27, .ref 2, .int z12, .int dp]) rfl (fun _ => rfl) ⟨Nat.le_of_ble_eq_true rfl, Nat.le_of_ble_eq_true rfl, pj_T_rcv iG8 rfl⟩ ⟨rfl, rfl⟩ (pj_Y_up (by decide) (ct_62_1_1x G8 iG8 z12 dp ⟨by omega, by omega⟩ ⟨by omega, by omega⟩)) ?_
        rintro _ G15 ⟨rfl, iG15, jG15, eG15, fy14⟩
        replace eG15 := eG15 _ rfl
        rw [← fy14, pj_nm_e]
        have kG15 : pj_kpt kc_62_0_1x G0 G15 := pj_kpt_t kG8 (pj_kpt_s jG15 rfl)
        obtain ⟨y16, hy16⟩ : ∃ z : Int32, z = pj_fi G15 2 4 := ⟨_, rfl⟩
        have ey16 : (pj_fi G15 2 4).toInt = y16.toInt := by rw [hy16]
        have ry16 : (-1 : Int) ≤ y16.toInt ∧ y16.toInt ≤ 80 := by rw [hy16]; exact iG15.2.1 2 4 (-1, 80) rfl
        show pj_X _ _ G15 69 [(6, .int y7), (0, .ref 27), (1, .ref 2), (2, .int lv), (3, .int dp), (4, .int v4), (5, .int v5)] [] _
        refine pj_X_of (fun r h => pj_R_to (G15, 76, [(6, .int y7), (0, .ref 27), (1, .ref 2), (2, .int lv), (3, .int dp), (4, .int v4), (5, .int v5)], [.int (((Int16.ofInt 3000).toInt32) + y7), .ref 27], 0, 0) 76 5 (fun _ => rfl) h) ?_
        obtain ⟨z17, hz17⟩ : ∃ z : Int32, z = ((Int16.ofInt 3000).toInt32) + y7 := ⟨_, rfl⟩
        refine pj_X_eqi hz17.symm ?_
        rw [← hz17, pj_nm_e]
        have fz17_0 : z17.toInt = ((Int16.ofInt 3000).toInt32).toInt + y7.toInt := by rw [hz17]; exact pj_addI (by have := pj_i32 ((Int16.ofInt 3000).toInt32); have := pj_i32 y7; omega) (by have := pj_i32 ((Int16.ofInt 3000).toInt32); have := pj_i32 y7; omega)
        have q18 : (pj_fi G15 2 4).toInt = y16.toInt := by rw [show pj_fi G15 2 4 = y16 from hy16.symm]
        refine pj_X_ca (vs := [.ref 27, .int z17]) rfl (fun _ => rfl) ⟨Nat.le_of_ble_eq_true rfl, Nat.le_of_ble_eq_true rfl, pj_T_rcv iG15 rfl⟩ ⟨rfl, rfl⟩ (pj_Y_up (by decide) (ct_60x G15 iG15 z17 (by omega))) ?_
        rintro _ G20 ⟨rfl, iG20, jG20, eG20, fy19⟩
        replace eG20 := eG20 _ rfl
        rw [← fy19, pj_nm_e]
        have kG20 : pj_kpt kc_62_0_1x G0 G20 := pj_kpt_t kG15 (pj_kpt_s jG20 rfl)
        have q21 : (pj_fi G20 2 4).toInt = (pj_fi G15 2 4).toInt := by rw [jG20.1 (2, 4) (by decide)]
        obtain ⟨y22, hy22⟩ : ∃ z : Int32, z = pj_fi G20 2 4 := ⟨_, rfl⟩
        have ey22 : (pj_fi G20 2 4).toInt = y22.toInt := by rw [hy22]
        have ry22 : (-1 : Int) ≤ y22.toInt ∧ y22.toInt ≤ 80 := by rw [hy22]; exact iG20.2.1 2 4 (-1, 80) rfl
        show pj_X _ _ G20 79 [(6, .int y7), (0, .ref 27), (1, .ref 2), (2, .int lv), (3, .int dp), (4, .int v4), (5, .int v5)] [] _
        refine pj_X_of (fun r h => pj_R_to (G20, 82, [(5, .int (v5 + Int32.ofInt 1)), (6, .int y7), (0, .ref 27), (1, .ref 2), (2, .int lv), (3, .int dp), (4, .int v4)], [], 0, 0) 82 2 (fun _ => rfl) h) ?_
        obtain ⟨z23, hz23⟩ : ∃ z : Int32, z = v5 + Int32.ofInt 1 := ⟨_, rfl⟩
        rw [← hz23]
        rw [pj_nm_e]
        have fz23_0 : z23.toInt = v5.toInt + (Int32.ofInt 1).toInt := by rw [hz23]; exact pj_addI (by have := pj_i32 v5; have := pj_i32 (Int32.ofInt 1); omega) (by have := pj_i32 v5; have := pj_i32 (Int32.ofInt 1); omega)
        refine pj_X_of (fun r h => pj_R_to (G20, 36, [(5, .int z23), (6, .int y7), (0, .ref 27), (1, .ref 2), (2, .int lv), (3, .int dp), (4, .int v4)], [], 0, 0) 36 2 (fun _ => rfl) h) ?_
        have q24 : (pj_fi G20 2 4).toInt = y22.toInt := by rw [show pj_fi G20 2 4 = y22 from hy22.symm]
        exact pj_X_sub [(0, .ref 27), (1, .ref 2), (2, .int lv), (3, .int dp), (4, .int v4), (5, .int z23)] (show List.Nodup [0, 1, 2, 3, 4, 5] by decide) ⟨rfl, rfl, rfl, rfl, rfl, rfl, trivial⟩ (ih G20 iG20 kG20 v4 z23 ⟨by omega, by omega⟩ ⟨by omega, by omega⟩ (by omega) (pr_kc_t (pr_kc_t (pr_kc_t x1_ (pr_kc_k jG8 rfl)) eG15.2) eG20) (by omega))
      | false =>
        rw [pj_cF]
        have ub11 := pj_u_neF b11
        refine pj_X_of (fun r h => pj_R_icF rfl b11 h) ?_
        have q25 : (pj_fi G8 2 4).toInt = y10.toInt := by rw [show pj_fi G8 2 4 = y10 from hy10.symm]
        exact pj_X_rt rfl rfl ⟨rfl, iG8, kG8, (fun H hH => by subst hH; exact (⟨by omega, (pr_kc_t x1_ (pr_kc_k jG8 rfl))⟩)), rfl⟩
theorem ct_62_0_1x (G0 : pj_G) (hI : pj_Inv G0) (lv : Int32) (dp : Int32) (rlv : (0 : Int) ≤ lv.toInt ∧ lv.toInt ≤ 0) (rdp : (1 : Int) ≤ dp.toInt ∧ dp.toInt ≤ 1) : pj_Y 40 62 [.ref 27, .ref 2, .int lv, .int dp] G0 (fun v' G' => v' = none ∧ pj_Inv G' ∧ pj_kpt kc_62_0_1x G0 G' ∧ (∀ H, G0 = H → (((¬ (pj_fi H 2 4).toInt = -1 → (pj_fi G' 2 4).toInt = (pj_fi H 2 4).toInt)) ∧ (pr_kc H G'))) ∧ (G' = F_62_0_1x G0 lv dp)) := by
  have c0_ : ((Int16.ofInt 3000).toInt32).toInt = 3000 := by decide
  have c1_ : (Int32.ofInt (-1)).toInt = -1 := by decide
  have c2_ : (Int32.ofInt 0).toInt = 0 := by decide
  have c3_ : (Int32.ofInt 1).toInt = 1 := by decide
  have c4_ : (Int32.ofInt 2).toInt = 2 := by decide
  refine pj_Y_X (M := pj_m62) rfl rfl (Nat.le_of_ble_eq_true rfl) ?_
  have hK : pj_kpt kc_62_0_1x G0 G0 := pj_kpt_r _ _
  show pj_X _ _ G0 0 [(0, .ref 27), (1, .ref 2), (2, .int lv), (3, .int dp)] [] _
  rw [F_62_0_1x_e]
  obtain ⟨y26, hy26⟩ : ∃ z : Int32, z = pj_fi G0 2 4 := ⟨_, rfl⟩
  have ey26 : (pj_fi G0 2 4).toInt = y26.toInt := by rw [hy26]
  have ry26 : (-1 : Int) ≤ y26.toInt ∧ y26.toInt ≤ 80 := by rw [hy26]; exact hI.2.1 2 4 (-1, 80) rfl
  refine pj_X_of (fun r h => pj_R_to (G0, 2, [(0, .ref 27), (1, .ref 2), (2, .int lv), (3, .int dp)], [.int (Int32.ofInt 2), .int lv], 0, 0) 2 3 (fun _ => rfl) h) ?_
  refine pj_X_of (fun r h => pj_R_icT 12 rfl rfl (pj_b_leT (by omega)) h) ?_
  refine pj_X_of (fun r h => pj_R_to (G0, 17, [(0, .ref 27), (1, .ref 2), (2, .int lv), (3, .int dp)], [.int (lv + (Int32.ofInt 1)), .ref 2, .ref 27], 0, 0) 17 6 (fun _ => rfl) h) ?_
  obtain ⟨z27, hz27⟩ : ∃ z : Int32, z = lv + (Int32.ofInt 1) := ⟨_, rfl⟩
  refine pj_X_eqi hz27.symm ?_
  rw [← hz27, pj_nm_e]
  have fz27_0 : z27.toInt = lv.toInt + (Int32.ofInt 1).toInt := by rw [hz27]; exact pj_addI (by have := pj_i32 lv; have := pj_i32 (Int32.ofInt 1); omega) (by have := pj_i32 lv; have := pj_i32 (Int32.ofInt 1); omega)
  refine pj_X_of (fun r h => pj_R_to (G0, 18, [(0, .ref 27), (1, .ref 2), (2, .int lv), (3, .int dp)], [.int dp, .int z27, .ref 2, .ref 27], 0, 0) 18 2 (fun _ => rfl) h) ?_
  have q28 : (pj_fi G0 2 4).toInt = y26.toInt := by rw [show pj_fi G0 2 4 = y26 from hy26.symm]
  refine pj_X_ca (vs := [.ref 27, .ref 2, .int z27, .int dp]) rfl (fun _ => rfl) ⟨Nat.le_of_ble_eq_true rfl, Nat.le_of_ble_eq_true rfl, pj_T_rcv hI rfl⟩ ⟨rfl, rfl⟩ (pj_Y_up (by decide) (ct_62_1_1x G0 hI z27 dp ⟨by omega, by omega⟩ ⟨by omega, by omega⟩)) ?_
  rintro _ G30 ⟨rfl, iG30, jG30, eG30, fy29⟩
  replace eG30 := eG30 _ rfl
  rw [← fy29, pj_nm_e]
  have kG30 : pj_kpt kc_62_0_1x G0 G30 := pj_kpt_t hK (pj_kpt_s jG30 rfl)
  obtain ⟨y31, hy31⟩ : ∃ z : Int32, z = pj_fi G30 2 4 := ⟨_, rfl⟩
  have ey31 : (pj_fi G30 2 4).toInt = y31.toInt := by rw [hy31]
  have ry31 : (-1 : Int) ≤ y31.toInt ∧ y31.toInt ≤ 80 := by rw [hy31]; exact iG30.2.1 2 4 (-1, 80) rfl
  show pj_X _ _ G30 21 [(0, .ref 27), (1, .ref 2), (2, .int lv), (3, .int dp)] [] _
  refine pj_X_of (fun r h => pj_R_to (G30, 22, [(0, .ref 27), (1, .ref 2), (2, .int lv), (3, .int dp)], [.int lv], 0, 0) 22 2 (fun _ => rfl) h) ?_
  refine pj_X_of (fun r h => pj_R_ifF rfl (pj_b0_neF (by omega)) h) ?_
  refine pj_X_of (fun r h => pj_R_to (G30, 36, [(5, .int (Int32.ofInt 0)), (4, .int (Int32.ofInt 1)), (0, .ref 27), (1, .ref 2), (2, .int lv), (3, .int dp)], [], 0, 0) 36 6 (fun _ => rfl) h) ?_
  have q32 : (pj_fi G30 2 4).toInt = y31.toInt := by rw [show pj_fi G30 2 4 = y31 from hy31.symm]
  exact pj_X_sub [(0, .ref 27), (1, .ref 2), (2, .int lv), (3, .int dp), (4, .int (Int32.ofInt 1)), (5, .int (Int32.ofInt 0))] (show List.Nodup [0, 1, 2, 3, 4, 5] by decide) ⟨rfl, rfl, rfl, rfl, rfl, rfl, trivial⟩ ((lp_ct_62_0_1x G0 hI lv dp rlv rdp 41) G30 iG30 kG30 (Int32.ofInt 1) (Int32.ofInt 0) ⟨by omega, by omega⟩ ⟨by omega, by omega⟩ (by omega) eG30.2 (by omega))
theorem fr_62_0_1x (G0 : pj_G) (hI : pj_Inv G0) (lv : Int32) (dp : Int32) (rlv : (0 : Int) ≤ lv.toInt ∧ lv.toInt ≤ 0) (rdp : (1 : Int) ≤ dp.toInt ∧ dp.toInt ≤ 1) : pj_Inv (F_62_0_1x G0 lv dp) ∧ pj_kpt kc_62_0_1x G0 (F_62_0_1x G0 lv dp) ∧ (((¬ (pj_fi G0 2 4).toInt = -1 → (pj_fi (F_62_0_1x G0 lv dp) 2 4).toInt = (pj_fi G0 2 4).toInt)) ∧ (pr_kc G0 (F_62_0_1x G0 lv dp))) := by
  obtain ⟨v, G', -, -, i, j, x, e⟩ := ct_62_0_1x G0 hI lv dp rlv rdp
  rw [← e]
  exact ⟨i, j, x _ rfl⟩
def kc_64_0x : pj_KT := ([(2, 3), (2, 4), (27, 3)], [2, 27, 28, 29], [28, 29])
noncomputable def F_64_0x (G0 : pj_G) (dp : Int32) : pj_G := pj_nm (F_85x G0) (fun y3 => cond (pj_c1 .eq y3 0) (pj_bd (F_82x G0 ((Int8.ofInt 40).toInt32)) (fun y6 G7 => cond (pj_c1 .eq y6 0) (pj_bd (F_84_s8x G7) (fun y12 G13 => cond (pj_c1 .ne y12 (Int32.ofInt (-1))) (pj_nm ((y12.toUInt32 % 65536).toInt32) (fun z17 => pj_nm (F_291_s8x G13 z17) (fun y19 => pj_nm (((Int16.ofInt 1000).toInt32) + y19) (fun z20 => pj_nm (F_60x G13 z20) (fun G23 => G23))))) (pj_nm (F_81x G13) (fun G29 => G29)))) (pj_nm (dp + (Int32.ofInt 1)) (fun z32 => pj_nm (F_62_0_1x G7 (Int32.ofInt 0) z32) (fun G35 => pj_bd (F_83x G35 ((Int8.ofInt 41).toInt32) ((Int8.ofInt 41).toInt32)) (fun y38 G39 => G39)))))) (pj_bd (F_86x G0 (Int32.ofInt 3)) (fun y43 G44 => pj_nm (F_60x G44 y43) (fun G48 => G48))))
theorem F_64_0x_e (G0 : pj_G) (dp : Int32) : F_64_0x G0 dp = pj_nm (F_85x G0) (fun y3 => cond (pj_c1 .eq y3 0) (pj_bd (F_82x G0 ((Int8.ofInt 40).toInt32)) (fun y6 G7 => cond (pj_c1 .eq y6 0) (pj_bd (F_84_s8x G7) (fun y12 G13 => cond (pj_c1 .ne y12 (Int32.ofInt (-1))) (pj_nm ((y12.toUInt32 % 65536).toInt32) (fun z17 => pj_nm (F_291_s8x G13 z17) (fun y19 => pj_nm (((Int16.ofInt 1000).toInt32) + y19) (fun z20 => pj_nm (F_60x G13 z20) (fun G23 => G23))))) (pj_nm (F_81x G13) (fun G29 => G29)))) (pj_nm (dp + (Int32.ofInt 1)) (fun z32 => pj_nm (F_62_0_1x G7 (Int32.ofInt 0) z32) (fun G35 => pj_bd (F_83x G35 ((Int8.ofInt 41).toInt32) ((Int8.ofInt 41).toInt32)) (fun y38 G39 => G39)))))) (pj_bd (F_86x G0 (Int32.ofInt 3)) (fun y43 G44 => pj_nm (F_60x G44 y43) (fun G48 => G48)))) := rfl
theorem ct_64_0x (G0 : pj_G) (hI : pj_Inv G0) (dp : Int32) (rdp : (0 : Int) ≤ dp.toInt ∧ dp.toInt ≤ 0) : pj_Y 41 64 [.ref 27, .ref 2, .int dp] G0 (fun v' G' => v' = none ∧ pj_Inv G' ∧ pj_kpt kc_64_0x G0 G' ∧ (∀ H, G0 = H → (((¬ (pj_fi H 2 4).toInt = -1 → (pj_fi G' 2 4).toInt = (pj_fi H 2 4).toInt)) ∧ (pr_kc H G'))) ∧ (G' = F_64_0x G0 dp)) := by
  have c0_ : ((Int16.ofInt 1000).toInt32).toInt = 1000 := by decide
  have c1_ : ((Int8.ofInt 40).toInt32).toInt = 40 := by decide
  have c2_ : ((Int8.ofInt 41).toInt32).toInt = 41 := by decide
  have c3_ : (Int32.ofInt (-1)).toInt = -1 := by decide
  have c4_ : (Int32.ofInt 0).toInt = 0 := by decide
  have c5_ : (Int32.ofInt 1).toInt = 1 := by decide
  have c6_ : (Int32.ofInt 3).toInt = 3 := by decide
  have c7_ : (Int32.ofInt 4).toInt = 4 := by decide
  refine pj_Y_X (M := pj_m64) rfl rfl (Nat.le_of_ble_eq_true rfl) ?_
  have hK : pj_kpt kc_64_0x G0 G0 := pj_kpt_r _ _
  show pj_X _ _ G0 0 [(0, .ref 27), (1, .ref 2), (2, .int dp)] [] _
  rw [F_64_0x_e]
  obtain ⟨y1, hy1⟩ : ∃ z : Int32, z = pj_fi G0 2 4 := ⟨_, rfl⟩
  have ey1 : (pj_fi G0 2 4).toInt = y1.toInt := by rw [hy1]
  have ry1 : (-1 : Int) ≤ y1.toInt ∧ y1.toInt ≤ 80 := by rw [hy1]; exact hI.2.1 2 4 (-1, 80) rfl
  refine pj_X_of (fun r h => pj_R_to (G0, 1, [(0, .ref 27), (1, .ref 2), (2, .int dp)], [.ref 2], 0, 0) 1 2 (fun _ => rfl) h) ?_
  have q2 : (pj_fi G0 2 4).toInt = y1.toInt := by rw [show pj_fi G0 2 4 = y1 from hy1.symm]
  refine pj_X_ca (vs := [.ref 2]) rfl (fun _ => rfl) ⟨Nat.le_of_ble_eq_true rfl, Nat.le_of_ble_eq_true rfl, pj_T_rcv hI rfl⟩ ⟨rfl, rfl⟩ (pj_Y_up (by decide) (ct_85x G0 hI)) ?_
  rintro _ _ ⟨y3, rfl, rfl, ry3, ey3, fy3⟩
  replace ey3 := ey3 _ rfl
  rw [← fy3, pj_nm_e]
  show pj_X _ _ G0 4 [(0, .ref 27), (1, .ref 2), (2, .int dp)] [.int y3] _
  cases b4 : pj_c1 .eq y3 0 with
  | true =>
    rw [pj_cT]
    have ub4 := pj_u0_eqT b4
    refine pj_X_of (fun r h => pj_R_ifT 19 rfl rfl b4 h) ?_
    refine pj_X_of (fun r h => pj_R_to (G0, 21, [(0, .ref 27), (1, .ref 2), (2, .int dp)], [.int (Int32.ofInt 4), .int dp], 0, 0) 21 3 (fun _ => rfl) h) ?_
    refine pj_X_of (fun r h => pj_R_icF rfl (pj_b_geF (by omega)) h) ?_
    refine pj_X_of (fun r h => pj_R_to (G0, 27, [(0, .ref 27), (1, .ref 2), (2, .int dp)], [.int ((Int8.ofInt 40).toInt32), .ref 2], 0, 0) 27 3 (fun _ => rfl) h) ?_
    have q5 : (pj_fi G0 2 4).toInt = y1.toInt := by rw [show pj_fi G0 2 4 = y1 from hy1.symm]
    refine pj_X_ca (vs := [.ref 2, .int ((Int8.ofInt 40).toInt32)]) rfl (fun _ => rfl) ⟨Nat.le_of_ble_eq_true rfl, Nat.le_of_ble_eq_true rfl, pj_T_rcv hI rfl⟩ ⟨rfl, rfl⟩ (pj_Y_up (by decide) (ct_82x G0 hI ((Int8.ofInt 40).toInt32) ⟨by omega, by omega⟩)) ?_
    rintro _ G7 ⟨y6, rfl, iG7, jG7, ry6, ey6, fy6⟩
    replace ey6 := ey6 _ rfl
    rw [← fy6, pj_bd_e]
    have kG7 : pj_kpt kc_64_0x G0 G7 := pj_kpt_t hK (pj_kpt_s jG7 rfl)
    have q8 : (pj_fi G7 2 4).toInt = (pj_fi G0 2 4).toInt := by rw [jG7.1 (2, 4) (by decide)]
    obtain ⟨y9, hy9⟩ : ∃ z : Int32, z = pj_fi G7 2 4 := ⟨_, rfl⟩
    have ey9 : (pj_fi G7 2 4).toInt = y9.toInt := by rw [hy9]
    have ry9 : (-1 : Int) ≤ y9.toInt ∧ y9.toInt ≤ 80 := by rw [hy9]; exact iG7.2.1 2 4 (-1, 80) rfl
    show pj_X _ _ G7 30 [(0, .ref 27), (1, .ref 2), (2, .int dp)] [.int y6] _
    cases b10 : pj_c1 .eq y6 0 with
    | true =>
      rw [pj_cT]
      have ub10 := pj_u0_eqT b10
      refine pj_X_of (fun r h => pj_R_ifT 54 rfl rfl b10 h) ?_
      refine pj_X_of (fun r h => pj_R_to (G7, 57, [(0, .ref 27), (1, .ref 2), (2, .int dp)], [.retAddr 8, .ref 2], 0, 0) 57 3 (fun _ => rfl) h) ?_
      have q11 : (pj_fi G7 2 4).toInt = y9.toInt := by rw [show pj_fi G7 2 4 = y9 from hy9.symm]
      refine pj_X_ca (vs := [.ref 2, .retAddr 8]) rfl (fun _ => rfl) ⟨Nat.le_of_ble_eq_true rfl, Nat.le_of_ble_eq_true rfl, pj_T_rcv iG7 rfl⟩ ⟨rfl, rfl⟩ (pj_Y_up (by decide) (ct_84_s8x G7 iG7)) ?_
      rintro _ G13 ⟨y12, rfl, iG13, jG13, ry12, ey12, fy12⟩
      replace ey12 := ey12 _ rfl
      rw [← fy12, pj_bd_e]
      have kG13 : pj_kpt kc_64_0x G0 G13 := pj_kpt_t kG7 (pj_kpt_s jG13 rfl)
      have q14 : (pj_fi G13 2 4).toInt = (pj_fi G7 2 4).toInt := by rw [jG13.1 (2, 4) (by decide)]
      obtain ⟨y15, hy15⟩ : ∃ z : Int32, z = pj_fi G13 2 4 := ⟨_, rfl⟩
      have ey15 : (pj_fi G13 2 4).toInt = y15.toInt := by rw [hy15]
      have ry15 : (-1 : Int) ≤ y15.toInt ∧ y15.toInt ≤ 80 := by rw [hy15]; exact iG13.2.1 2 4 (-1, 80) rfl
      show pj_X _ _ G13 60 [(0, .ref 27), (1, .ref 2), (2, .int dp)] [.int y12] _
      refine pj_X_of (fun r h => pj_R_to (G13, 63, [(3, .int y12), (0, .ref 27), (1, .ref 2), (2, .int dp)], [.int (Int32.ofInt (-1)), .int y12], 0, 0) 63 4 (fun _ => rfl) h) ?_
      cases b16 : pj_c1 .ne y12 (Int32.ofInt (-1)) with
      | true =>
        rw [pj_cT]
        have ub16 := pj_u_neT b16
        refine pj_X_of (fun r h => pj_R_icT 73 rfl rfl b16 h) ?_
        refine pj_X_of (fun r h => pj_R_to (G13, 81, [(3, .int y12), (0, .ref 27), (1, .ref 2), (2, .int dp)], [.int ((y12.toUInt32 % 65536).toInt32), .retAddr 8, .int ((Int16.ofInt 1000).toInt32), .ref 27], 0, 0) 81 6 (fun _ => rfl) h) ?_
        obtain ⟨z17, hz17⟩ : ∃ z : Int32, z = (y12.toUInt32 % 65536).toInt32 := ⟨_, rfl⟩
        refine pj_X_eqi hz17.symm ?_
        rw [← hz17, pj_nm_e]
        have fz17_0 : z17.toInt = y12.toInt := by rw [hz17]; exact pj_i2cI (by omega) (by omega)
        have q18 : (pj_fi G13 2 4).toInt = y15.toInt := by rw [show pj_fi G13 2 4 = y15 from hy15.symm]
        refine pj_X_ca (vs := [.retAddr 8, .int z17]) rfl (fun _ => rfl) ⟨Nat.le_of_ble_eq_true rfl, Nat.le_of_ble_eq_true rfl, rfl⟩ ⟨rfl, rfl⟩ (pj_Y_up (by decide) (ct_290_s8x G13 iG13 z17 ⟨by omega, by omega⟩)) ?_
        rintro _ _ ⟨y19, rfl, rfl, ry19, fy19⟩
        rw [← fy19, pj_nm_e]
        show pj_X _ _ G13 84 [(3, .int y12), (0, .ref 27), (1, .ref 2), (2, .int dp)] [.int y19, .int ((Int16.ofInt 1000).toInt32), .ref 27] _
        refine pj_X_of (fun r h => pj_R_to (G13, 85, [(3, .int y12), (0, .ref 27), (1, .ref 2), (2, .int dp)], [.int (((Int16.ofInt 1000).toInt32) + y19), .ref 27], 0, 0) 85 2 (fun _ => rfl) h) ?_
        obtain ⟨z20, hz20⟩ : ∃ z : Int32, z = ((Int16.ofInt 1000).toInt32) + y19 := ⟨_, rfl⟩
        refine pj_X_eqi hz20.symm ?_
        rw [← hz20, pj_nm_e]
        have fz20_0 : z20.toInt = ((Int16.ofInt 1000).toInt32).toInt + y19.toInt := by rw [hz20]; exact pj_addI (by have := pj_i32 ((Int16.ofInt 1000).toInt32); have := pj_i32 y19; omega) (by have := pj_i32 ((Int16.ofInt 1000).toInt32); have := pj_i32 y19; omega)
        have q21 : (pj_fi G13 2 4).toInt = y15.toInt := by rw [show pj_fi G13 2 4 = y15 from hy15.symm]
        refine pj_X_ca (vs := [.ref 27, .int z20]) rfl (fun _ => rfl) ⟨Nat.le_of_ble_eq_true rfl, Nat.le_of_ble_eq_true rfl, pj_T_rcv iG13 rfl⟩ ⟨rfl, rfl⟩ (pj_Y_up (by decide) (ct_60x G13 iG13 z20 (by omega))) ?_
        rintro _ G23 ⟨rfl, iG23, jG23, eG23, fy22⟩
        replace eG23 := eG23 _ rfl
        rw [← fy22, pj_nm_e]
        have kG23 : pj_kpt kc_64_0x G0 G23 := pj_kpt_t kG13 (pj_kpt_s jG23 rfl)
        have q24 : (pj_fi G23 2 4).toInt = (pj_fi G13 2 4).toInt := by rw [jG23.1 (2, 4) (by decide)]
        obtain ⟨y25, hy25⟩ : ∃ z : Int32, z = pj_fi G23 2 4 := ⟨_, rfl⟩
        have ey25 : (pj_fi G23 2 4).toInt = y25.toInt := by rw [hy25]
        have ry25 : (-1 : Int) ≤ y25.toInt ∧ y25.toInt ≤ 80 := by rw [hy25]; exact iG23.2.1 2 4 (-1, 80) rfl
        show pj_X _ _ G23 88 [(3, .int y12), (0, .ref 27), (1, .ref 2), (2, .int dp)] [] _
        have q26 : (pj_fi G23 2 4).toInt = y25.toInt := by rw [show pj_fi G23 2 4 = y25 from hy25.symm]
        exact pj_X_rt rfl rfl ⟨rfl, iG23, kG23, (fun H hH => by subst hH; exact (⟨by omega, (pr_kc_t (pr_kc_t (pr_kc_k jG7 rfl) (pr_kc_k jG13 rfl)) eG23)⟩)), rfl⟩
      | false =>
        rw [pj_cF]
        have ub16 := pj_u_neF b16
        refine pj_X_of (fun r h => pj_R_icF rfl b16 h) ?_
        refine pj_X_of (fun r h => pj_R_to (G13, 67, [(3, .int y12), (0, .ref 27), (1, .ref 2), (2, .int dp)], [.ref 2], 0, 0) 67 2 (fun _ => rfl) h) ?_
        have q27 : (pj_fi G13 2 4).toInt = y15.toInt := by rw [show pj_fi G13 2 4 = y15 from hy15.symm]
        refine pj_X_ca (vs := [.ref 2]) rfl (fun _ => rfl) ⟨Nat.le_of_ble_eq_true rfl, Nat.le_of_ble_eq_true rfl, pj_T_rcv iG13 rfl⟩ ⟨rfl, rfl⟩ (pj_Y_up (by decide) (ct_81x G13 iG13)) ?_
        rintro _ G29 ⟨rfl, iG29, jG29, eG29, fy28⟩
        replace eG29 := eG29 _ rfl
        rw [← fy28, pj_nm_e]
        have kG29 : pj_kpt kc_64_0x G0 G29 := pj_kpt_t kG13 (pj_kpt_s jG29 rfl)
        obtain ⟨y30, hy30⟩ : ∃ z : Int32, z = pj_fi G29 2 4 := ⟨_, rfl⟩
        have ey30 : (pj_fi G29 2 4).toInt = y30.toInt := by rw [hy30]
        have ry30 : (-1 : Int) ≤ y30.toInt ∧ y30.toInt ≤ 80 := by rw [hy30]; exact iG29.2.1 2 4 (-1, 80) rfl
        show pj_X _ _ G29 70 [(3, .int y12), (0, .ref 27), (1, .ref 2), (2, .int dp)] [] _
        refine pj_X_of (fun r h => pj_R_to (G29, 88, [(3, .int y12), (0, .ref 27), (1, .ref 2), (2, .int dp)], [], 0, 0) 88 2 (fun _ => rfl) h) ?_
        have q31 : (pj_fi G29 2 4).toInt = y30.toInt := by rw [show pj_fi G29 2 4 = y30 from hy30.symm]
        exact pj_X_rt rfl rfl ⟨rfl, iG29, kG29, (fun H hH => by subst hH; exact (⟨by omega, (pr_kc_t (pr_kc_t (pr_kc_k jG7 rfl) (pr_kc_k jG13 rfl)) (pr_kc_k jG29 rfl))⟩)), rfl⟩
    | false =>
      rw [pj_cF]
      have ub10 := pj_u0_eqF b10
      refine pj_X_of (fun r h => pj_R_ifF rfl b10 h) ?_
      refine pj_X_of (fun r h => pj_R_to (G7, 39, [(0, .ref 27), (1, .ref 2), (2, .int dp)], [.int (dp + (Int32.ofInt 1)), .int (Int32.ofInt 0), .ref 2, .ref 27], 0, 0) 39 7 (fun _ => rfl) h) ?_
      obtain ⟨z32, hz32⟩ : ∃ z : Int32, z = dp + (Int32.ofInt 1) := ⟨_, rfl⟩
      refine pj_X_eqi hz32.symm ?_
      rw [← hz32, pj_nm_e]
      have fz32_0 : z32.toInt = dp.toInt + (Int32.ofInt 1).toInt := by rw [hz32]; exact pj_addI (by have := pj_i32 dp; have := pj_i32 (Int32.ofInt 1); omega) (by have := pj_i32 dp; have := pj_i32 (Int32.ofInt 1); omega)
      have q33 : (pj_fi G7 2 4).toInt = y9.toInt := by rw [show pj_fi G7 2 4 = y9 from hy9.symm]
      refine pj_X_ca (vs := [.ref 27, .ref 2, .int (Int32.ofInt 0), .int z32]) rfl (fun _ => rfl) ⟨Nat.le_of_ble_eq_true rfl, Nat.le_of_ble_eq_true rfl, pj_T_rcv iG7 rfl⟩ ⟨rfl, rfl⟩ (pj_Y_up (by decide) (ct_62_0_1x G7 iG7 (Int32.ofInt 0) z32 ⟨by omega, by omega⟩ ⟨by omega, by omega⟩)) ?_
      rintro _ G35 ⟨rfl, iG35, jG35, eG35, fy34⟩
      replace eG35 := eG35 _ rfl
      rw [← fy34, pj_nm_e]
      have kG35 : pj_kpt kc_64_0x G0 G35 := pj_kpt_t kG7 (pj_kpt_s jG35 rfl)
      obtain ⟨y36, hy36⟩ : ∃ z : Int32, z = pj_fi G35 2 4 := ⟨_, rfl⟩
      have ey36 : (pj_fi G35 2 4).toInt = y36.toInt := by rw [hy36]
      have ry36 : (-1 : Int) ≤ y36.toInt ∧ y36.toInt ≤ 80 := by rw [hy36]; exact iG35.2.1 2 4 (-1, 80) rfl
      show pj_X _ _ G35 42 [(0, .ref 27), (1, .ref 2), (2, .int dp)] [] _
      refine pj_X_of (fun r h => pj_R_to (G35, 47, [(0, .ref 27), (1, .ref 2), (2, .int dp)], [.int ((Int8.ofInt 41).toInt32), .int ((Int8.ofInt 41).toInt32), .ref 2], 0, 0) 47 4 (fun _ => rfl) h) ?_
      have q37 : (pj_fi G35 2 4).toInt = y36.toInt := by rw [show pj_fi G35 2 4 = y36 from hy36.symm]
      refine pj_X_ca (vs := [.ref 2, .int ((Int8.ofInt 41).toInt32), .int ((Int8.ofInt 41).toInt32)]) rfl (fun _ => rfl) ⟨Nat.le_of_ble_eq_true rfl, Nat.le_of_ble_eq_true rfl, pj_T_rcv iG35 rfl⟩ ⟨rfl, rfl⟩ (pj_Y_up (by decide) (ct_83x G35 iG35 ((Int8.ofInt 41).toInt32) ((Int8.ofInt 41).toInt32) ⟨by omega, by omega⟩ ⟨by omega, by omega⟩)) ?_
      rintro _ G39 ⟨y38, rfl, iG39, jG39, ry38, ey38, fy38⟩
      replace ey38 := ey38 _ rfl
      rw [← fy38, pj_bd_e]
      have kG39 : pj_kpt kc_64_0x G0 G39 := pj_kpt_t kG35 (pj_kpt_s jG39 rfl)
      obtain ⟨y40, hy40⟩ : ∃ z : Int32, z = pj_fi G39 2 4 := ⟨_, rfl⟩
      have ey40 : (pj_fi G39 2 4).toInt = y40.toInt := by rw [hy40]
      have ry40 : (-1 : Int) ≤ y40.toInt ∧ y40.toInt ≤ 80 := by rw [hy40]; exact iG39.2.1 2 4 (-1, 80) rfl
      show pj_X _ _ G39 50 [(0, .ref 27), (1, .ref 2), (2, .int dp)] [.int y38] _
      refine pj_X_of (fun r h => pj_R_to (G39, 88, [(0, .ref 27), (1, .ref 2), (2, .int dp)], [], 0, 0) 88 3 (fun _ => rfl) h) ?_
      have q41 : (pj_fi G39 2 4).toInt = y40.toInt := by rw [show pj_fi G39 2 4 = y40 from hy40.symm]
      exact pj_X_rt rfl rfl ⟨rfl, iG39, kG39, (fun H hH => by subst hH; exact (⟨by omega, (pr_kc_t (pr_kc_t (pr_kc_k jG7 rfl) eG35.2) (pr_kc_k jG39 rfl))⟩)), rfl⟩
  | false =>
    rw [pj_cF]
    have ub4 := pj_u0_eqF b4
    refine pj_X_of (fun r h => pj_R_ifF rfl b4 h) ?_
    refine pj_X_of (fun r h => pj_R_to (G0, 10, [(0, .ref 27), (1, .ref 2), (2, .int dp)], [.int (Int32.ofInt 3), .ref 2, .ref 27], 0, 0) 10 4 (fun _ => rfl) h) ?_
    have q42 : (pj_fi G0 2 4).toInt = y1.toInt := by rw [show pj_fi G0 2 4 = y1 from hy1.symm]
    refine pj_X_ca (vs := [.ref 2, .int (Int32.ofInt 3)]) rfl (fun _ => rfl) ⟨Nat.le_of_ble_eq_true rfl, Nat.le_of_ble_eq_true rfl, pj_T_rcv hI rfl⟩ ⟨rfl, rfl⟩ (pj_Y_up (by decide) (ct_86x G0 hI (Int32.ofInt 3) ⟨by omega, by omega⟩)) ?_
    rintro _ G44 ⟨y43, rfl, iG44, jG44, ry43, fy43⟩
    rw [← fy43, pj_bd_e]
    have kG44 : pj_kpt kc_64_0x G0 G44 := pj_kpt_t hK (pj_kpt_s jG44 rfl)
    obtain ⟨y45, hy45⟩ : ∃ z : Int32, z = pj_fi G44 2 4 := ⟨_, rfl⟩
    have ey45 : (pj_fi G44 2 4).toInt = y45.toInt := by rw [hy45]
    have ry45 : (-1 : Int) ≤ y45.toInt ∧ y45.toInt ≤ 80 := by rw [hy45]; exact iG44.2.1 2 4 (-1, 80) rfl
    show pj_X _ _ G44 13 [(0, .ref 27), (1, .ref 2), (2, .int dp)] [.int y43, .ref 27] _
    have q46 : (pj_fi G44 2 4).toInt = y45.toInt := by rw [show pj_fi G44 2 4 = y45 from hy45.symm]
    refine pj_X_ca (vs := [.ref 27, .int y43]) rfl (fun _ => rfl) ⟨Nat.le_of_ble_eq_true rfl, Nat.le_of_ble_eq_true rfl, pj_T_rcv iG44 rfl⟩ ⟨rfl, rfl⟩ (pj_Y_up (by decide) (ct_60x G44 iG44 y43 (by omega))) ?_
    rintro _ G48 ⟨rfl, iG48, jG48, eG48, fy47⟩
    replace eG48 := eG48 _ rfl
    rw [← fy47, pj_nm_e]
    have kG48 : pj_kpt kc_64_0x G0 G48 := pj_kpt_t kG44 (pj_kpt_s jG48 rfl)
    have q49 : (pj_fi G48 2 4).toInt = (pj_fi G44 2 4).toInt := by rw [jG48.1 (2, 4) (by decide)]
    obtain ⟨y50, hy50⟩ : ∃ z : Int32, z = pj_fi G48 2 4 := ⟨_, rfl⟩
    have ey50 : (pj_fi G48 2 4).toInt = y50.toInt := by rw [hy50]
    have ry50 : (-1 : Int) ≤ y50.toInt ∧ y50.toInt ≤ 80 := by rw [hy50]; exact iG48.2.1 2 4 (-1, 80) rfl
    show pj_X _ _ G48 16 [(0, .ref 27), (1, .ref 2), (2, .int dp)] [] _
    refine pj_X_of (fun r h => pj_R_to (G48, 88, [(0, .ref 27), (1, .ref 2), (2, .int dp)], [], 0, 0) 88 2 (fun _ => rfl) h) ?_
    have q51 : (pj_fi G48 2 4).toInt = y50.toInt := by rw [show pj_fi G48 2 4 = y50 from hy50.symm]
    exact pj_X_rt rfl rfl ⟨rfl, iG48, kG48, (fun H hH => by subst hH; exact (⟨by omega, (pr_kc_t (pr_kc_k jG44 rfl) eG48)⟩)), rfl⟩
theorem fr_64_0x (G0 : pj_G) (hI : pj_Inv G0) (dp : Int32) (rdp : (0 : Int) ≤ dp.toInt ∧ dp.toInt ≤ 0) : pj_Inv (F_64_0x G0 dp) ∧ pj_kpt kc_64_0x G0 (F_64_0x G0 dp) ∧ (((¬ (pj_fi G0 2 4).toInt = -1 → (pj_fi (F_64_0x G0 dp) 2 4).toInt = (pj_fi G0 2 4).toInt)) ∧ (pr_kc G0 (F_64_0x G0 dp))) := by
  obtain ⟨v, G', -, -, i, j, x, e⟩ := ct_64_0x G0 hI dp rdp
  rw [← e]
  exact ⟨i, j, x _ rfl⟩
def kc_63_0x : pj_KT := ([(2, 3), (2, 4), (27, 3)], [2, 27, 28, 29], [28, 29])
noncomputable def L_63_0x (G0 : pj_G) (dp : Int32) (fu : Nat) : Int32 → Int32 → pj_G → pj_G := Nat.rec (motive := fun _ => Int32 → Int32 → pj_G → pj_G) (fun _ _ G => G) (fun _ ih v3 v4 G => cond (pj_c1 .ge v4 ((Int8.ofInt 40).toInt32)) (pj_nm (F_64_0x G dp) (fun G5 => cond (pj_c1 .eq v3 0) (G5) (pj_nm (F_60x G5 ((Int16.ofInt 2000).toInt32)) (fun G11 => G11)))) (pj_bd (F_82x G ((Int8.ofInt 45).toInt32)) (fun y16 G17 => cond (pj_c1 .eq y16 0) (pj_nm (F_64_0x G17 dp) (fun G23 => cond (pj_c1 .eq v3 0) (G23) (pj_nm (F_60x G23 ((Int16.ofInt 2000).toInt32)) (fun G29 => G29)))) (cond (pj_c1 .ne v3 0) (pj_nm (v4 + Int32.ofInt 1) (fun z34 => ih (Int32.ofInt 0) z34 G17)) (pj_nm (v4 + Int32.ofInt 1) (fun z36 => ih (Int32.ofInt 1) z36 G17)))))) fu
theorem L_63_0x_s0 (G0 : pj_G) (dp : Int32) (fu : Nat) (v3 : Int32) (v4 : Int32) (G : pj_G) : L_63_0x G0 dp (fu + 1) v3 v4 G = cond (pj_c1 .ge v4 ((Int8.ofInt 40).toInt32)) (pj_nm (F_64_0x G dp) (fun G5 => cond (pj_c1 .eq v3 0) (G5) (pj_nm (F_60x G5 ((Int16.ofInt 2000).toInt32)) (fun G11 => G11)))) (pj_bd (F_82x G ((Int8.ofInt 45).toInt32)) (fun y16 G17 => cond (pj_c1 .eq y16 0) (pj_nm (F_64_0x G17 dp) (fun G23 => cond (pj_c1 .eq v3 0) (G23) (pj_nm (F_60x G23 ((Int16.ofInt 2000).toInt32)) (fun G29 => G29)))) (cond (pj_c1 .ne v3 0) (pj_nm (v4 + Int32.ofInt 1) (fun z34 => L_63_0x G0 dp fu (Int32.ofInt 0) z34 G17)) (pj_nm (v4 + Int32.ofInt 1) (fun z36 => L_63_0x G0 dp fu (Int32.ofInt 1) z36 G17))))) := rfl
noncomputable def F_63_0x (G0 : pj_G) (dp : Int32) : pj_G := L_63_0x G0 dp 41 (Int32.ofInt 0) (Int32.ofInt 0) G0
theorem F_63_0x_e (G0 : pj_G) (dp : Int32) : F_63_0x G0 dp = L_63_0x G0 dp 41 (Int32.ofInt 0) (Int32.ofInt 0) G0 := rfl
theorem lp_ct_63_0x (G0 : pj_G) (hI0 : pj_Inv G0) (dp : Int32) (rdp : (0 : Int) ≤ dp.toInt ∧ dp.toInt ≤ 0) : ∀ mn : Nat, (∀ (G : pj_G) (hI : pj_Inv G) (hK : pj_kpt kc_63_0x G0 G) (v3 : Int32) (v4 : Int32), ((0 : Int) ≤ v3.toInt ∧ v3.toInt ≤ 1) → ((0 : Int) ≤ v4.toInt ∧ v4.toInt ≤ 40) → (¬ (pj_fi G0 2 4).toInt = -1 → (pj_fi G 2 4).toInt = (pj_fi G0 2 4).toInt) → (pr_kc G0 G) → 40 - v4.toInt < (mn : Int) → pj_X 41 pj_m63 G 5 [(0, .ref 27), (1, .ref 2), (2, .int dp), (3, .int v3), (4, .int v4)] [] (fun v' G' => v' = none ∧ pj_Inv G' ∧ pj_kpt kc_63_0x G0 G' ∧ (∀ H, G0 = H → (((¬ (pj_fi H 2 4).toInt = -1 → (pj_fi G' 2 4).toInt = (pj_fi H 2 4).toInt)) ∧ (pr_kc H G'))) ∧ (G' = L_63_0x G0 dp mn v3 v4 G))) := by
  have c0_ : ((Int16.ofInt 2000).toInt32).toInt = 2000 := by decide
  have c1_ : ((Int8.ofInt 40).toInt32).toInt = 40 := by decide
  have c2_ : ((Int8.ofInt 45).toInt32).toInt = 45 := by decide
  have c3_ : (Int32.ofInt 0).toInt = 0 := by decide
  have c4_ : (Int32.ofInt 1).toInt = 1 := by decide
  intro mn
  induction mn with
  | zero =>
    intro G hI hK v3 v4 rv3 rv4 x0_ x1_ hm
    exfalso
    omega
  | succ mn ih =>
    intro G hI hK v3 v4 rv3 rv4 x0_ x1_ hm
    rw [L_63_0x_s0]
    obtain ⟨y1, hy1⟩ : ∃ z : Int32, z = pj_fi G 2 4 := ⟨_, rfl⟩
    have ey1 : (pj_fi G 2 4).toInt = y1.toInt := by rw [hy1]
    have ry1 : (-1 : Int) ≤ y1.toInt ∧ y1.toInt ≤ 80 := by rw [hy1]; exact hI.2.1 2 4 (-1, 80) rfl
    refine pj_X_of (fun r h => pj_R_to (G, 9, [(0, .ref 27), (1, .ref 2), (2, .int dp), (3, .int v3), (4, .int v4)], [.int ((Int8.ofInt 40).toInt32), .int v4], 0, 0) 9 3 (fun _ => rfl) h) ?_
    cases b2 : pj_c1 .ge v4 ((Int8.ofInt 40).toInt32) with
    | true =>
      rw [pj_cT]
      have ub2 := pj_u_geT b2
      refine pj_X_of (fun r h => pj_R_icT 37 rfl rfl b2 h) ?_
      refine pj_X_of (fun r h => pj_R_to (G, 40, [(0, .ref 27), (1, .ref 2), (2, .int dp), (3, .int v3), (4, .int v4)], [.int dp, .ref 2, .ref 27], 0, 0) 40 4 (fun _ => rfl) h) ?_
      have q3 : (pj_fi G 2 4).toInt = y1.toInt := by rw [show pj_fi G 2 4 = y1 from hy1.symm]
      refine pj_X_ca (vs := [.ref 27, .ref 2, .int dp]) rfl (fun _ => rfl) ⟨Nat.le_of_ble_eq_true rfl, Nat.le_of_ble_eq_true rfl, pj_T_rcv hI rfl⟩ ⟨rfl, rfl⟩ (pj_Y_up (by decide) (ct_64_0x G hI dp ⟨by omega, by omega⟩)) ?_
      rintro _ G5 ⟨rfl, iG5, jG5, eG5, fy4⟩
      replace eG5 := eG5 _ rfl
      rw [← fy4, pj_nm_e]
      have kG5 : pj_kpt kc_63_0x G0 G5 := pj_kpt_t hK (pj_kpt_s jG5 rfl)
      obtain ⟨y6, hy6⟩ : ∃ z : Int32, z = pj_fi G5 2 4 := ⟨_, rfl⟩
      have ey6 : (pj_fi G5 2 4).toInt = y6.toInt := by rw [hy6]
      have ry6 : (-1 : Int) ≤ y6.toInt ∧ y6.toInt ≤ 80 := by rw [hy6]; exact iG5.2.1 2 4 (-1, 80) rfl
      show pj_X _ _ G5 43 [(0, .ref 27), (1, .ref 2), (2, .int dp), (3, .int v3), (4, .int v4)] [] _
      refine pj_X_of (fun r h => pj_R_to (G5, 44, [(0, .ref 27), (1, .ref 2), (2, .int dp), (3, .int v3), (4, .int v4)], [.int v3], 0, 0) 44 2 (fun _ => rfl) h) ?_
      cases b7 : pj_c1 .eq v3 0 with
      | true =>
        rw [pj_cT]
        have ub7 := pj_u0_eqT b7
        refine pj_X_of (fun r h => pj_R_ifT 54 rfl rfl b7 h) ?_
        have q8 : (pj_fi G5 2 4).toInt = y6.toInt := by rw [show pj_fi G5 2 4 = y6 from hy6.symm]
        exact pj_X_rt rfl rfl ⟨rfl, iG5, kG5, (fun H hH => by subst hH; exact (⟨by omega, (pr_kc_t x1_ eG5.2)⟩)), rfl⟩
      | false =>
        rw [pj_cF]
        have ub7 := pj_u0_eqF b7
        refine pj_X_of (fun r h => pj_R_ifF rfl b7 h) ?_
        refine pj_X_of (fun r h => pj_R_to (G5, 51, [(0, .ref 27), (1, .ref 2), (2, .int dp), (3, .int v3), (4, .int v4)], [.int ((Int16.ofInt 2000).toInt32), .ref 27], 0, 0) 51 3 (fun _ => rfl) h) ?_
        have q9 : (pj_fi G5 2 4).toInt = y6.toInt := by rw [show pj_fi G5 2 4 = y6 from hy6.symm]
        refine pj_X_ca (vs := [.ref 27, .int ((Int16.ofInt 2000).toInt32)]) rfl (fun _ => rfl) ⟨Nat.le_of_ble_eq_true rfl, Nat.le_of_ble_eq_true rfl, pj_T_rcv iG5 rfl⟩ ⟨rfl, rfl⟩ (pj_Y_up (by decide) (ct_60x G5 iG5 ((Int16.ofInt 2000).toInt32) (by omega))) ?_
        rintro _ G11 ⟨rfl, iG11, jG11, eG11, fy10⟩
        replace eG11 := eG11 _ rfl
        rw [← fy10, pj_nm_e]
        have kG11 : pj_kpt kc_63_0x G0 G11 := pj_kpt_t kG5 (pj_kpt_s jG11 rfl)
        have q12 : (pj_fi G11 2 4).toInt = (pj_fi G5 2 4).toInt := by rw [jG11.1 (2, 4) (by decide)]
        obtain ⟨y13, hy13⟩ : ∃ z : Int32, z = pj_fi G11 2 4 := ⟨_, rfl⟩
        have ey13 : (pj_fi G11 2 4).toInt = y13.toInt := by rw [hy13]
        have ry13 : (-1 : Int) ≤ y13.toInt ∧ y13.toInt ≤ 80 := by rw [hy13]; exact iG11.2.1 2 4 (-1, 80) rfl
        show pj_X _ _ G11 54 [(0, .ref 27), (1, .ref 2), (2, .int dp), (3, .int v3), (4, .int v4)] [] _
        have q14 : (pj_fi G11 2 4).toInt = y13.toInt := by rw [show pj_fi G11 2 4 = y13 from hy13.symm]
        exact pj_X_rt rfl rfl ⟨rfl, iG11, kG11, (fun H hH => by subst hH; exact (⟨by omega, (pr_kc_t (pr_kc_t x1_ eG5.2) eG11)⟩)), rfl⟩
    | false =>
      rw [pj_cF]
      have ub2 := pj_u_geF b2
      refine pj_X_of (fun r h => pj_R_icF rfl b2 h) ?_
      refine pj_X_of (fun r h => pj_R_to (G, 15, [(0, .ref 27), (1, .ref 2), (2, .int dp), (3, .int v3), (4, .int v4)], [.int ((Int8.ofInt 45).toInt32), .ref 2], 0, 0) 15 3 (fun _ => rfl) h) ?_
      have q15 : (pj_fi G 2 4).toInt = y1.toInt := by rw [show pj_fi G 2 4 = y1 from hy1.symm]
      refine pj_X_ca (vs := [.ref 2, .int ((Int8.ofInt 45).toInt32)]) rfl (fun _ => rfl) ⟨Nat.le_of_ble_eq_true rfl, Nat.le_of_ble_eq_true rfl, pj_T_rcv hI rfl⟩ ⟨rfl, rfl⟩ (pj_Y_up (by decide) (ct_82x G hI ((Int8.ofInt 45).toInt32) ⟨by omega, by omega⟩)) ?_
      rintro _ G17 ⟨y16, rfl, iG17, jG17, ry16, ey16, fy16⟩
      replace ey16 := ey16 _ rfl
      rw [← fy16, pj_bd_e]
      have kG17 : pj_kpt kc_63_0x G0 G17 := pj_kpt_t hK (pj_kpt_s jG17 rfl)
      have q18 : (pj_fi G17 2 4).toInt = (pj_fi G 2 4).toInt := by rw [jG17.1 (2, 4) (by decide)]
      obtain ⟨y19, hy19⟩ : ∃ z : Int32, z = pj_fi G17 2 4 := ⟨_, rfl⟩
      have ey19 : (pj_fi G17 2 4).toInt = y19.toInt := by rw [hy19]
      have ry19 : (-1 : Int) ≤ y19.toInt ∧ y19.toInt ≤ 80 := by rw [hy19]; exact iG17.2.1 2 4 (-1, 80) rfl
      show pj_X _ _ G17 18 [(0, .ref 27), (1, .ref 2), (2, .int dp), (3, .int v3), (4, .int v4)] [.int y16] _
      cases b20 : pj_c1 .eq y16 0 with
      | true =>
        rw [pj_cT]
        have ub20 := pj_u0_eqT b20
        refine pj_X_of (fun r h => pj_R_ifT 37 rfl rfl b20 h) ?_
        refine pj_X_of (fun r h => pj_R_to (G17, 40, [(0, .ref 27), (1, .ref 2), (2, .int dp), (3, .int v3), (4, .int v4)], [.int dp, .ref 2, .ref 27], 0, 0) 40 4 (fun _ => rfl) h) ?_
        have q21 : (pj_fi G17 2 4).toInt = y19.toInt := by rw [show pj_fi G17 2 4 = y19 from hy19.symm]
        refine pj_X_ca (vs := [.ref 27, .ref 2, .int dp]) rfl (fun _ => rfl) ⟨Nat.le_of_ble_eq_true rfl, Nat.le_of_ble_eq_true rfl, pj_T_rcv iG17 rfl⟩ ⟨rfl, rfl⟩ (pj_Y_up (by decide) (ct_64_0x G17 iG17 dp ⟨by omega, by omega⟩)) ?_
        rintro _ G23 ⟨rfl, iG23, jG23, eG23, fy22⟩
        replace eG23 := eG23 _ rfl
        rw [← fy22, pj_nm_e]
        have kG23 : pj_kpt kc_63_0x G0 G23 := pj_kpt_t kG17 (pj_kpt_s jG23 rfl)
        obtain ⟨y24, hy24⟩ : ∃ z : Int32, z = pj_fi G23 2 4 := ⟨_, rfl⟩
        have ey24 : (pj_fi G23 2 4).toInt = y24.toInt := by rw [hy24]
        have ry24 : (-1 : Int) ≤ y24.toInt ∧ y24.toInt ≤ 80 := by rw [hy24]; exact iG23.2.1 2 4 (-1, 80) rfl
        show pj_X _ _ G23 43 [(0, .ref 27), (1, .ref 2), (2, .int dp), (3, .int v3), (4, .int v4)] [] _
        refine pj_X_of (fun r h => pj_R_to (G23, 44, [(0, .ref 27), (1, .ref 2), (2, .int dp), (3, .int v3), (4, .int v4)], [.int v3], 0, 0) 44 2 (fun _ => rfl) h) ?_
        cases b25 : pj_c1 .eq v3 0 with
        | true =>
          rw [pj_cT]
          have ub25 := pj_u0_eqT b25
          refine pj_X_of (fun r h => pj_R_ifT 54 rfl rfl b25 h) ?_
          have q26 : (pj_fi G23 2 4).toInt = y24.toInt := by rw [show pj_fi G23 2 4 = y24 from hy24.symm]
          exact pj_X_rt rfl rfl ⟨rfl, iG23, kG23, (fun H hH => by subst hH; exact (⟨by omega, (pr_kc_t (pr_kc_t x1_ (pr_kc_k jG17 rfl)) eG23.2)⟩)), rfl⟩
        | false =>
          rw [pj_cF]
          have ub25 := pj_u0_eqF b25
          refine pj_X_of (fun r h => pj_R_ifF rfl b25 h) ?_
          refine pj_X_of (fun r h => pj_R_to (G23, 51, [(0, .ref 27), (1, .ref 2), (2, .int dp), (3, .int v3), (4, .int v4)], [.int ((Int16.ofInt 2000).toInt32), .ref 27], 0, 0) 51 3 (fun _ => rfl) h) ?_
          have q27 : (pj_fi G23 2 4).toInt = y24.toInt := by rw [show pj_fi G23 2 4 = y24 from hy24.symm]
          refine pj_X_ca (vs := [.ref 27, .int ((Int16.ofInt 2000).toInt32)]) rfl (fun _ => rfl) ⟨Nat.le_of_ble_eq_true rfl, Nat.le_of_ble_eq_true rfl, pj_T_rcv iG23 rfl⟩ ⟨rfl, rfl⟩ (pj_Y_up (by decide) (ct_60x G23 iG23 ((Int16.ofInt 2000).toInt32) (by omega))) ?_
          rintro _ G29 ⟨rfl, iG29, jG29, eG29, fy28⟩
          replace eG29 := eG29 _ rfl
          rw [← fy28, pj_nm_e]
          have kG29 : pj_kpt kc_63_0x G0 G29 := pj_kpt_t kG23 (pj_kpt_s jG29 rfl)
          have q30 : (pj_fi G29 2 4).toInt = (pj_fi G23 2 4).toInt := by rw [jG29.1 (2, 4) (by decide)]
          obtain ⟨y31, hy31⟩ : ∃ z : Int32, z = pj_fi G29 2 4 := ⟨_, rfl⟩
          have ey31 : (pj_fi G29 2 4).toInt = y31.toInt := by rw [hy31]
          have ry31 : (-1 : Int) ≤ y31.toInt ∧ y31.toInt ≤ 80 := by rw [hy31]; exact iG29.2.1 2 4 (-1, 80) rfl
          show pj_X _ _ G29 54 [(0, .ref 27), (1, .ref 2), (2, .int dp), (3, .int v3), (4, .int v4)] [] _
          have q32 : (pj_fi G29 2 4).toInt = y31.toInt := by rw [show pj_fi G29 2 4 = y31 from hy31.symm]
          exact pj_X_rt rfl rfl ⟨rfl, iG29, kG29, (fun H hH => by subst hH; exact (⟨by omega, (pr_kc_t (pr_kc_t (pr_kc_t x1_ (pr_kc_k jG17 rfl)) eG23.2) eG29)⟩)), rfl⟩
      | false =>
        rw [pj_cF]
        have ub20 := pj_u0_eqF b20
        refine pj_X_of (fun r h => pj_R_ifF rfl b20 h) ?_
        refine pj_X_of (fun r h => pj_R_to (G17, 22, [(0, .ref 27), (1, .ref 2), (2, .int dp), (3, .int v3), (4, .int v4)], [.int v3], 0, 0) 22 2 (fun _ => rfl) h) ?_
        cases b33 : pj_c1 .ne v3 0 with
        | true =>
          rw [pj_cT]
          have ub33 := pj_u0_neT b33
          refine pj_X_of (fun r h => pj_R_ifT 29 rfl rfl b33 h) ?_
          refine pj_X_of (fun r h => pj_R_to (G17, 34, [(4, .int (v4 + Int32.ofInt 1)), (3, .int (Int32.ofInt 0)), (0, .ref 27), (1, .ref 2), (2, .int dp)], [], 0, 0) 34 4 (fun _ => rfl) h) ?_
          obtain ⟨z34, hz34⟩ : ∃ z : Int32, z = v4 + Int32.ofInt 1 := ⟨_, rfl⟩
          rw [← hz34]
          rw [pj_nm_e]
          have fz34_0 : z34.toInt = v4.toInt + (Int32.ofInt 1).toInt := by rw [hz34]; exact pj_addI (by have := pj_i32 v4; have := pj_i32 (Int32.ofInt 1); omega) (by have := pj_i32 v4; have := pj_i32 (Int32.ofInt 1); omega)
          refine pj_X_of (fun r h => pj_R_to (G17, 5, [(4, .int z34), (3, .int (Int32.ofInt 0)), (0, .ref 27), (1, .ref 2), (2, .int dp)], [], 0, 0) 5 2 (fun _ => rfl) h) ?_
          have q35 : (pj_fi G17 2 4).toInt = y19.toInt := by rw [show pj_fi G17 2 4 = y19 from hy19.symm]
          exact pj_X_sub [(0, .ref 27), (1, .ref 2), (2, .int dp), (3, .int (Int32.ofInt 0)), (4, .int z34)] (show List.Nodup [0, 1, 2, 3, 4] by decide) ⟨rfl, rfl, rfl, rfl, rfl, trivial⟩ (ih G17 iG17 kG17 (Int32.ofInt 0) z34 ⟨by omega, by omega⟩ ⟨by omega, by omega⟩ (by omega) (pr_kc_t x1_ (pr_kc_k jG17 rfl)) (by omega))
        | false =>
          rw [pj_cF]
          have ub33 := pj_u0_neF b33
          refine pj_X_of (fun r h => pj_R_ifF rfl b33 h) ?_
          refine pj_X_of (fun r h => pj_R_to (G17, 34, [(4, .int (v4 + Int32.ofInt 1)), (3, .int (Int32.ofInt 1)), (0, .ref 27), (1, .ref 2), (2, .int dp)], [], 0, 0) 34 5 (fun _ => rfl) h) ?_
          obtain ⟨z36, hz36⟩ : ∃ z : Int32, z = v4 + Int32.ofInt 1 := ⟨_, rfl⟩
          rw [← hz36]
          rw [pj_nm_e]
          have fz36_0 : z36.toInt = v4.toInt + (Int32.ofInt 1).toInt := by rw [hz36]; exact pj_addI (by have := pj_i32 v4; have := pj_i32 (Int32.ofInt 1); omega) (by have := pj_i32 v4; have := pj_i32 (Int32.ofInt 1); omega)
          refine pj_X_of (fun r h => pj_R_to (G17, 5, [(4, .int z36), (3, .int (Int32.ofInt 1)), (0, .ref 27), (1, .ref 2), (2, .int dp)], [], 0, 0) 5 2 (fun _ => rfl) h) ?_
          have q37 : (pj_fi G17 2 4).toInt = y19.toInt := by rw [show pj_fi G17 2 4 = y19 from hy19.symm]
          exact pj_X_sub [(0, .ref 27), (1, .ref 2), (2, .int dp), (3, .int (Int32.ofInt 1)), (4, .int z36)] (show List.Nodup [0, 1, 2, 3, 4] by decide) ⟨rfl, rfl, rfl, rfl, rfl, trivial⟩ (ih G17 iG17 kG17 (Int32.ofInt 1) z36 ⟨by omega, by omega⟩ ⟨by omega, by omega⟩ (by omega) (pr_kc_t x1_ (pr_kc_k jG17 rfl)) (by omega))
theorem ct_63_0x (G0 : pj_G) (hI : pj_Inv G0) (dp : Int32) (rdp : (0 : Int) ≤ dp.toInt ∧ dp.toInt ≤ 0) : pj_Y 42 63 [.ref 27, .ref 2, .int dp] G0 (fun v' G' => v' = none ∧ pj_Inv G' ∧ pj_kpt kc_63_0x G0 G' ∧ (∀ H, G0 = H → (((¬ (pj_fi H 2 4).toInt = -1 → (pj_fi G' 2 4).toInt = (pj_fi H 2 4).toInt)) ∧ (pr_kc H G'))) ∧ (G' = F_63_0x G0 dp)) := by
  have c0_ : ((Int16.ofInt 2000).toInt32).toInt = 2000 := by decide
  have c1_ : ((Int8.ofInt 40).toInt32).toInt = 40 := by decide
  have c2_ : ((Int8.ofInt 45).toInt32).toInt = 45 := by decide
  have c3_ : (Int32.ofInt 0).toInt = 0 := by decide
  have c4_ : (Int32.ofInt 1).toInt = 1 := by decide
  refine pj_Y_X (M := pj_m63) rfl rfl (Nat.le_of_ble_eq_true rfl) ?_
  have hK : pj_kpt kc_63_0x G0 G0 := pj_kpt_r _ _
  show pj_X _ _ G0 0 [(0, .ref 27), (1, .ref 2), (2, .int dp)] [] _
  rw [F_63_0x_e]
  obtain ⟨y38, hy38⟩ : ∃ z : Int32, z = pj_fi G0 2 4 := ⟨_, rfl⟩
  have ey38 : (pj_fi G0 2 4).toInt = y38.toInt := by rw [hy38]
  have ry38 : (-1 : Int) ≤ y38.toInt ∧ y38.toInt ≤ 80 := by rw [hy38]; exact hI.2.1 2 4 (-1, 80) rfl
  refine pj_X_of (fun r h => pj_R_to (G0, 5, [(4, .int (Int32.ofInt 0)), (3, .int (Int32.ofInt 0)), (0, .ref 27), (1, .ref 2), (2, .int dp)], [], 0, 0) 5 5 (fun _ => rfl) h) ?_
  have q39 : (pj_fi G0 2 4).toInt = y38.toInt := by rw [show pj_fi G0 2 4 = y38 from hy38.symm]
  exact pj_X_sub [(0, .ref 27), (1, .ref 2), (2, .int dp), (3, .int (Int32.ofInt 0)), (4, .int (Int32.ofInt 0))] (show List.Nodup [0, 1, 2, 3, 4] by decide) ⟨rfl, rfl, rfl, rfl, rfl, trivial⟩ ((lp_ct_63_0x G0 hI dp rdp 41) G0 hI hK (Int32.ofInt 0) (Int32.ofInt 0) ⟨by omega, by omega⟩ ⟨by omega, by omega⟩ (by omega) (pr_kc_r _) (by omega))
theorem fr_63_0x (G0 : pj_G) (hI : pj_Inv G0) (dp : Int32) (rdp : (0 : Int) ≤ dp.toInt ∧ dp.toInt ≤ 0) : pj_Inv (F_63_0x G0 dp) ∧ pj_kpt kc_63_0x G0 (F_63_0x G0 dp) ∧ (((¬ (pj_fi G0 2 4).toInt = -1 → (pj_fi (F_63_0x G0 dp) 2 4).toInt = (pj_fi G0 2 4).toInt)) ∧ (pr_kc G0 (F_63_0x G0 dp))) := by
  obtain ⟨v, G', -, -, i, j, x, e⟩ := ct_63_0x G0 hI dp rdp
  rw [← e]
  exact ⟨i, j, x _ rfl⟩
def kc_62_3_0x : pj_KT := ([(2, 3), (2, 4), (27, 3)], [2, 27, 28, 29], [28, 29])
noncomputable def F_62_3_0x (G0 : pj_G) (lv : Int32) (dp : Int32) : pj_G := pj_nm (F_63_0x G0 dp) (fun G4 => G4)
theorem F_62_3_0x_e (G0 : pj_G) (lv : Int32) (dp : Int32) : F_62_3_0x G0 lv dp = pj_nm (F_63_0x G0 dp) (fun G4 => G4) := rfl
theorem ct_62_3_0x (G0 : pj_G) (hI : pj_Inv G0) (lv : Int32) (dp : Int32) (rlv : (3 : Int) ≤ lv.toInt ∧ lv.toInt ≤ 3) (rdp : (0 : Int) ≤ dp.toInt ∧ dp.toInt ≤ 0) : pj_Y 43 62 [.ref 27, .ref 2, .int lv, .int dp] G0 (fun v' G' => v' = none ∧ pj_Inv G' ∧ pj_kpt kc_62_3_0x G0 G' ∧ (∀ H, G0 = H → (((¬ (pj_fi H 2 4).toInt = -1 → (pj_fi G' 2 4).toInt = (pj_fi H 2 4).toInt)) ∧ (pr_kc H G'))) ∧ (G' = F_62_3_0x G0 lv dp)) := by
  have c0_ : (Int32.ofInt 2).toInt = 2 := by decide
  refine pj_Y_X (M := pj_m62) rfl rfl (Nat.le_of_ble_eq_true rfl) ?_
  have hK : pj_kpt kc_62_3_0x G0 G0 := pj_kpt_r _ _
  show pj_X _ _ G0 0 [(0, .ref 27), (1, .ref 2), (2, .int lv), (3, .int dp)] [] _
  rw [F_62_3_0x_e]
  obtain ⟨y1, hy1⟩ : ∃ z : Int32, z = pj_fi G0 2 4 := ⟨_, rfl⟩
  have ey1 : (pj_fi G0 2 4).toInt = y1.toInt := by rw [hy1]
  have ry1 : (-1 : Int) ≤ y1.toInt ∧ y1.toInt ≤ 80 := by rw [hy1]; exact hI.2.1 2 4 (-1, 80) rfl
  refine pj_X_of (fun r h => pj_R_to (G0, 2, [(0, .ref 27), (1, .ref 2), (2, .int lv), (3, .int dp)], [.int (Int32.ofInt 2), .int lv], 0, 0) 2 3 (fun _ => rfl) h) ?_
  refine pj_X_of (fun r h => pj_R_icF rfl (pj_b_leF (by omega)) h) ?_
  refine pj_X_of (fun r h => pj_R_to (G0, 8, [(0, .ref 27), (1, .ref 2), (2, .int lv), (3, .int dp)], [.int dp, .ref 2, .ref 27], 0, 0) 8 4 (fun _ => rfl) h) ?_
  have q2 : (pj_fi G0 2 4).toInt = y1.toInt := by rw [show pj_fi G0 2 4 = y1 from hy1.symm]
  refine pj_X_ca (vs := [.ref 27, .ref 2, .int dp]) rfl (fun _ => rfl) ⟨Nat.le_of_ble_eq_true rfl, Nat.le_of_ble_eq_true rfl, pj_T_rcv hI rfl⟩ ⟨rfl, rfl⟩ (pj_Y_up (by decide) (ct_63_0x G0 hI dp ⟨by omega, by omega⟩)) ?_
  rintro _ G4 ⟨rfl, iG4, jG4, eG4, fy3⟩
  replace eG4 := eG4 _ rfl
  rw [← fy3, pj_nm_e]
  have kG4 : pj_kpt kc_62_3_0x G0 G4 := pj_kpt_t hK (pj_kpt_s jG4 rfl)
  obtain ⟨y5, hy5⟩ : ∃ z : Int32, z = pj_fi G4 2 4 := ⟨_, rfl⟩
  have ey5 : (pj_fi G4 2 4).toInt = y5.toInt := by rw [hy5]
  have ry5 : (-1 : Int) ≤ y5.toInt ∧ y5.toInt ≤ 80 := by rw [hy5]; exact iG4.2.1 2 4 (-1, 80) rfl
  show pj_X _ _ G4 11 [(0, .ref 27), (1, .ref 2), (2, .int lv), (3, .int dp)] [] _
  have q6 : (pj_fi G4 2 4).toInt = y5.toInt := by rw [show pj_fi G4 2 4 = y5 from hy5.symm]
  exact pj_X_rt rfl rfl ⟨rfl, iG4, kG4, (fun H hH => by subst hH; exact (⟨by omega, eG4.2⟩)), rfl⟩
theorem fr_62_3_0x (G0 : pj_G) (hI : pj_Inv G0) (lv : Int32) (dp : Int32) (rlv : (3 : Int) ≤ lv.toInt ∧ lv.toInt ≤ 3) (rdp : (0 : Int) ≤ dp.toInt ∧ dp.toInt ≤ 0) : pj_Inv (F_62_3_0x G0 lv dp) ∧ pj_kpt kc_62_3_0x G0 (F_62_3_0x G0 lv dp) ∧ (((¬ (pj_fi G0 2 4).toInt = -1 → (pj_fi (F_62_3_0x G0 lv dp) 2 4).toInt = (pj_fi G0 2 4).toInt)) ∧ (pr_kc G0 (F_62_3_0x G0 lv dp))) := by
  obtain ⟨v, G', -, -, i, j, x, e⟩ := ct_62_3_0x G0 hI lv dp rlv rdp
  rw [← e]
  exact ⟨i, j, x _ rfl⟩
def kc_62_2_0x : pj_KT := ([(2, 3), (2, 4), (27, 3)], [2, 27, 28, 29], [28, 29])
noncomputable def L_62_2_0x (G0 : pj_G) (lv : Int32) (dp : Int32) (fu : Nat) : Int32 → Int32 → pj_G → pj_G := Nat.rec (motive := fun _ => Int32 → Int32 → pj_G → pj_G) (fun _ _ G => G) (fun _ ih v4 v5 G => cond (pj_c1 .ge v5 v4) (G) (pj_bd (F_84_s7x G) (fun y7 G8 => cond (pj_c1 .ne y7 (Int32.ofInt (-1))) (pj_nm (lv + (Int32.ofInt 1)) (fun z12 => pj_nm (F_62_3_0x G8 z12 dp) (fun G15 => pj_nm (((Int16.ofInt 3000).toInt32) + y7) (fun z17 => pj_nm (F_60x G15 z17) (fun G20 => pj_nm (v5 + Int32.ofInt 1) (fun z23 => ih v4 z23 G20)))))) (G8)))) fu
theorem L_62_2_0x_s0 (G0 : pj_G) (lv : Int32) (dp : Int32) (fu : Nat) (v4 : Int32) (v5 : Int32) (G : pj_G) : L_62_2_0x G0 lv dp (fu + 1) v4 v5 G = cond (pj_c1 .ge v5 v4) (G) (pj_bd (F_84_s7x G) (fun y7 G8 => cond (pj_c1 .ne y7 (Int32.ofInt (-1))) (pj_nm (lv + (Int32.ofInt 1)) (fun z12 => pj_nm (F_62_3_0x G8 z12 dp) (fun G15 => pj_nm (((Int16.ofInt 3000).toInt32) + y7) (fun z17 => pj_nm (F_60x G15 z17) (fun G20 => pj_nm (v5 + Int32.ofInt 1) (fun z23 => L_62_2_0x G0 lv dp fu v4 z23 G20)))))) (G8))) := rfl
noncomputable def F_62_2_0x (G0 : pj_G) (lv : Int32) (dp : Int32) : pj_G := pj_nm (lv + (Int32.ofInt 1)) (fun z27 => pj_nm (F_62_3_0x G0 z27 dp) (fun G30 => L_62_2_0x G0 lv dp 41 ((Int8.ofInt 40).toInt32) (Int32.ofInt 0) G30))
theorem F_62_2_0x_e (G0 : pj_G) (lv : Int32) (dp : Int32) : F_62_2_0x G0 lv dp = pj_nm (lv + (Int32.ofInt 1)) (fun z27 => pj_nm (F_62_3_0x G0 z27 dp) (fun G30 => L_62_2_0x G0 lv dp 41 ((Int8.ofInt 40).toInt32) (Int32.ofInt 0) G30)) := rfl
theorem lp_ct_62_2_0x (G0 : pj_G) (hI0 : pj_Inv G0) (lv : Int32) (dp : Int32) (rlv : (2 : Int) ≤ lv.toInt ∧ lv.toInt ≤ 2) (rdp : (0 : Int) ≤ dp.toInt ∧ dp.toInt ≤ 0) : ∀ mn : Nat, (∀ (G : pj_G) (hI : pj_Inv G) (hK : pj_kpt kc_62_2_0x G0 G) (v4 : Int32) (v5 : Int32), ((1 : Int) ≤ v4.toInt ∧ v4.toInt ≤ 40) → ((0 : Int) ≤ v5.toInt ∧ v5.toInt ≤ 40) → (¬ (pj_fi G0 2 4).toInt = -1 → (pj_fi G 2 4).toInt = (pj_fi G0 2 4).toInt) → (pr_kc G0 G) → 40 - v5.toInt < (mn : Int) → pj_X 43 pj_m62 G 36 [(0, .ref 27), (1, .ref 2), (2, .int lv), (3, .int dp), (4, .int v4), (5, .int v5)] [] (fun v' G' => v' = none ∧ pj_Inv G' ∧ pj_kpt kc_62_2_0x G0 G' ∧ (∀ H, G0 = H → (((¬ (pj_fi H 2 4).toInt = -1 → (pj_fi G' 2 4).toInt = (pj_fi H 2 4).toInt)) ∧ (pr_kc H G'))) ∧ (G' = L_62_2_0x G0 lv dp mn v4 v5 G))) := by
  have c0_ : ((Int16.ofInt 3000).toInt32).toInt = 3000 := by decide
  have c1_ : ((Int8.ofInt 40).toInt32).toInt = 40 := by decide
  have c2_ : (Int32.ofInt (-1)).toInt = -1 := by decide
  have c3_ : (Int32.ofInt 0).toInt = 0 := by decide
  have c4_ : (Int32.ofInt 1).toInt = 1 := by decide
  have c5_ : (Int32.ofInt 2).toInt = 2 := by decide
  intro mn
  induction mn with
  | zero =>
    intro G hI hK v4 v5 rv4 rv5 x0_ x1_ hm
    exfalso
    omega
  | succ mn ih =>
    intro G hI hK v4 v5 rv4 rv5 x0_ x1_ hm
    rw [L_62_2_0x_s0]
    obtain ⟨y1, hy1⟩ : ∃ z : Int32, z = pj_fi G 2 4 := ⟨_, rfl⟩
    have ey1 : (pj_fi G 2 4).toInt = y1.toInt := by rw [hy1]
    have ry1 : (-1 : Int) ≤ y1.toInt ∧ y1.toInt ≤ 80 := by rw [hy1]; exact hI.2.1 2 4 (-1, 80) rfl
    refine pj_X_of (fun r h => pj_R_to (G, 40, [(0, .ref 27), (1, .ref 2), (2, .int lv), (3, .int dp), (4, .int v4), (5, .int v5)], [.int v4, .int v5], 0, 0) 40 3 (fun _ => rfl) h) ?_
    cases b2 : pj_c1 .ge v5 v4 with
    | true =>
      rw [pj_cT]
      have ub2 := pj_u_geT b2
      refine pj_X_of (fun r h => pj_R_icT 85 rfl rfl b2 h) ?_
      have q3 : (pj_fi G 2 4).toInt = y1.toInt := by rw [show pj_fi G 2 4 = y1 from hy1.symm]
      exact pj_X_rt rfl rfl ⟨rfl, hI, hK, (fun H hH => by subst hH; exact (⟨by omega, x1_⟩)), rfl⟩
    | false =>
      rw [pj_cF]
      have ub2 := pj_u_geF b2
      refine pj_X_of (fun r h => pj_R_icF rfl b2 h) ?_
      refine pj_X_of (fun r h => pj_R_to (G, 45, [(0, .ref 27), (1, .ref 2), (2, .int lv), (3, .int dp), (4, .int v4), (5, .int v5)], [.int lv, .ref 2], 0, 0) 45 3 (fun _ => rfl) h) ?_
      have q4 : (pj_fi G 2 4).toInt = y1.toInt := by rw [show pj_fi G 2 4 = y1 from hy1.symm]
      refine pj_X_ca (vs := [.int lv]) rfl (fun _ => rfl) ⟨Nat.le_of_ble_eq_true rfl, Nat.le_of_ble_eq_true rfl, rfl⟩ ⟨rfl, rfl⟩ (pj_Y_up (by decide) (ct_61_2 G hI lv ⟨by omega, by omega⟩)) ?_
      rintro _ _ ⟨rfl, rfl⟩
      show pj_X _ _ G 48 [(0, .ref 27), (1, .ref 2), (2, .int lv), (3, .int dp), (4, .int v4), (5, .int v5)] [.retAddr 7, .ref 2] _
      have q6 : (pj_fi G 2 4).toInt = y1.toInt := by rw [show pj_fi G 2 4 = y1 from hy1.symm]
      refine pj_X_ca (vs := [.ref 2, .retAddr 7]) rfl (fun _ => rfl) ⟨Nat.le_of_ble_eq_true rfl, Nat.le_of_ble_eq_true rfl, pj_T_rcv hI rfl⟩ ⟨rfl, rfl⟩ (pj_Y_up (by decide) (ct_84_s7x G hI)) ?_
      rintro _ G8 ⟨y7, rfl, iG8, jG8, ry7, ey7, fy7⟩
      replace ey7 := ey7 _ rfl
      rw [← fy7, pj_bd_e]
      have kG8 : pj_kpt kc_62_2_0x G0 G8 := pj_kpt_t hK (pj_kpt_s jG8 rfl)
      have q9 : (pj_fi G8 2 4).toInt = (pj_fi G 2 4).toInt := by rw [jG8.1 (2, 4) (by decide)]
      obtain ⟨y10, hy10⟩ : ∃ z : Int32, z = pj_fi G8 2 4 := ⟨_, rfl⟩
      have ey10 : (pj_fi G8 2 4).toInt = y10.toInt := by rw [hy10]
      have ry10 : (-1 : Int) ≤ y10.toInt ∧ y10.toInt ≤ 80 := by rw [hy10]; exact iG8.2.1 2 4 (-1, 80) rfl
      show pj_X _ _ G8 51 [(0, .ref 27), (1, .ref 2), (2, .int lv), (3, .int dp), (4, .int v4), (5, .int v5)] [.int y7] _
      refine pj_X_of (fun r h => pj_R_to (G8, 56, [(6, .int y7), (0, .ref 27), (1, .ref 2), (2, .int lv), (3, .int dp), (4, .int v4), (5, .int v5)], [.int (Int32.ofInt (-1)), .int y7], 0, 0) 56 4 (fun _ => rfl) h) ?_
      cases b11 : pj_c1 .ne y7 (Int32.ofInt (-1)) with
      | true =>
        rw [pj_cT]
        have ub11 := pj_u_neT b11
        refine pj_X_of (fun r h => pj_R_icT 60 rfl rfl b11 h) ?_
        refine pj_X_of (fun r h => pj_R_to (G8, 65, [(6, .int y7), (0, .ref 27), (1, .ref 2), (2, .int lv), (3, .int dp), (4, .int v4), (5, .int v5)], [.int (lv + (Int32.ofInt 1)), .ref 2, .ref 27], 0, 0) 65 6 (fun _ => rfl) h) ?_
        obtain ⟨z12, hz12⟩ : ∃ z : Int32, z = lv + (Int32.ofInt 1) := ⟨_, rfl⟩
        refine pj_X_eqi hz12.symm ?_
        rw [← hz12, pj_nm_e]
        have fz12_0 : z12.toInt = lv.toInt + (Int32.ofInt 1).toInt := by rw [hz12]; exact pj_addI (by have := pj_i32 lv; have := pj_i32 (Int32.ofInt 1); omega) (by have := pj_i32 lv; have := pj_i32 (Int32.ofInt 1); omega)
        refine pj_X_of (fun r h => pj_R_to (G8, 66, [(6, .int y7), (0, .ref 27), (1, .ref 2), (2, .int lv), (3, .int dp), (4, .int v4), (5, .int v5)], [.int dp, .int z12, .ref 2, .ref 27], 0, 0) 66 2 (fun _ => rfl) h) ?_
        have q13 : (pj_fi G8 2 4).toInt = y10.toInt := by rw [show pj_fi G8 2 4 = y10 from hy10.symm]
        refine pj_X_ca (vs := [.ref 27, .ref 2, .int z12, .int dp]) rfl (fun _ => rfl) ⟨Nat.le_of_ble_eq_true rfl, Nat.le_of_ble_eq_true rfl, pj_T_rcv iG8 rfl⟩ ⟨rfl, rfl⟩ (pj_Y_up (by decide) (ct_62_3_0x G8 iG8 z12 dp ⟨by omega, by omega⟩ ⟨by omega, by omega⟩)) ?_
        rintro _ G15 ⟨rfl, iG15, jG15, eG15, fy14⟩
        replace eG15 := eG15 _ rfl
        rw [← fy14, pj_nm_e]
        have kG15 : pj_kpt kc_62_2_0x G0 G15 := pj_kpt_t kG8 (pj_kpt_s jG15 rfl)
        obtain ⟨y16, hy16⟩ : ∃ z : Int32, z = pj_fi G15 2 4 := ⟨_, rfl⟩
        have ey16 : (pj_fi G15 2 4).toInt = y16.toInt := by rw [hy16]
        have ry16 : (-1 : Int) ≤ y16.toInt ∧ y16.toInt ≤ 80 := by rw [hy16]; exact iG15.2.1 2 4 (-1, 80) rfl
        show pj_X _ _ G15 69 [(6, .int y7), (0, .ref 27), (1, .ref 2), (2, .int lv), (3, .int dp), (4, .int v4), (5, .int v5)] [] _
        refine pj_X_of (fun r h => pj_R_to (G15, 76, [(6, .int y7), (0, .ref 27), (1, .ref 2), (2, .int lv), (3, .int dp), (4, .int v4), (5, .int v5)], [.int (((Int16.ofInt 3000).toInt32) + y7), .ref 27], 0, 0) 76 5 (fun _ => rfl) h) ?_
        obtain ⟨z17, hz17⟩ : ∃ z : Int32, z = ((Int16.ofInt 3000).toInt32) + y7 := ⟨_, rfl⟩
        refine pj_X_eqi hz17.symm ?_
        rw [← hz17, pj_nm_e]
        have fz17_0 : z17.toInt = ((Int16.ofInt 3000).toInt32).toInt + y7.toInt := by rw [hz17]; exact pj_addI (by have := pj_i32 ((Int16.ofInt 3000).toInt32); have := pj_i32 y7; omega) (by have := pj_i32 ((Int16.ofInt 3000).toInt32); have := pj_i32 y7; omega)
        have q18 : (pj_fi G15 2 4).toInt = y16.toInt := by rw [show pj_fi G15 2 4 = y16 from hy16.symm]
        refine pj_X_ca (vs := [.ref 27, .int z17]) rfl (fun _ => rfl) ⟨Nat.le_of_ble_eq_true rfl, Nat.le_of_ble_eq_true rfl, pj_T_rcv iG15 rfl⟩ ⟨rfl, rfl⟩ (pj_Y_up (by decide) (ct_60x G15 iG15 z17 (by omega))) ?_
        rintro _ G20 ⟨rfl, iG20, jG20, eG20, fy19⟩
        replace eG20 := eG20 _ rfl
        rw [← fy19, pj_nm_e]
        have kG20 : pj_kpt kc_62_2_0x G0 G20 := pj_kpt_t kG15 (pj_kpt_s jG20 rfl)
        have q21 : (pj_fi G20 2 4).toInt = (pj_fi G15 2 4).toInt := by rw [jG20.1 (2, 4) (by decide)]
        obtain ⟨y22, hy22⟩ : ∃ z : Int32, z = pj_fi G20 2 4 := ⟨_, rfl⟩
        have ey22 : (pj_fi G20 2 4).toInt = y22.toInt := by rw [hy22]
        have ry22 : (-1 : Int) ≤ y22.toInt ∧ y22.toInt ≤ 80 := by rw [hy22]; exact iG20.2.1 2 4 (-1, 80) rfl
        show pj_X _ _ G20 79 [(6, .int y7), (0, .ref 27), (1, .ref 2), (2, .int lv), (3, .int dp), (4, .int v4), (5, .int v5)] [] _
        refine pj_X_of (fun r h => pj_R_to (G20, 82, [(5, .int (v5 + Int32.ofInt 1)), (6, .int y7), (0, .ref 27), (1, .ref 2), (2, .int lv), (3, .int dp), (4, .int v4)], [], 0, 0) 82 2 (fun _ => rfl) h) ?_
        obtain ⟨z23, hz23⟩ : ∃ z : Int32, z = v5 + Int32.ofInt 1 := ⟨_, rfl⟩
        rw [← hz23]
        rw [pj_nm_e]
        have fz23_0 : z23.toInt = v5.toInt + (Int32.ofInt 1).toInt := by rw [hz23]; exact pj_addI (by have := pj_i32 v5; have := pj_i32 (Int32.ofInt 1); omega) (by have := pj_i32 v5; have := pj_i32 (Int32.ofInt 1); omega)
        refine pj_X_of (fun r h => pj_R_to (G20, 36, [(5, .int z23), (6, .int y7), (0, .ref 27), (1, .ref 2), (2, .int lv), (3, .int dp), (4, .int v4)], [], 0, 0) 36 2 (fun _ => rfl) h) ?_
        have q24 : (pj_fi G20 2 4).toInt = y22.toInt := by rw [show pj_fi G20 2 4 = y22 from hy22.symm]
        exact pj_X_sub [(0, .ref 27), (1, .ref 2), (2, .int lv), (3, .int dp), (4, .int v4), (5, .int z23)] (show List.Nodup [0, 1, 2, 3, 4, 5] by decide) ⟨rfl, rfl, rfl, rfl, rfl, rfl, trivial⟩ (ih G20 iG20 kG20 v4 z23 ⟨by omega, by omega⟩ ⟨by omega, by omega⟩ (by omega) (pr_kc_t (pr_kc_t (pr_kc_t x1_ (pr_kc_k jG8 rfl)) eG15.2) eG20) (by omega))
      | false =>
        rw [pj_cF]
        have ub11 := pj_u_neF b11
        refine pj_X_of (fun r h => pj_R_icF rfl b11 h) ?_
        have q25 : (pj_fi G8 2 4).toInt = y10.toInt := by rw [show pj_fi G8 2 4 = y10 from hy10.symm]
        exact pj_X_rt rfl rfl ⟨rfl, iG8, kG8, (fun H hH => by subst hH; exact (⟨by omega, (pr_kc_t x1_ (pr_kc_k jG8 rfl))⟩)), rfl⟩
theorem ct_62_2_0x (G0 : pj_G) (hI : pj_Inv G0) (lv : Int32) (dp : Int32) (rlv : (2 : Int) ≤ lv.toInt ∧ lv.toInt ≤ 2) (rdp : (0 : Int) ≤ dp.toInt ∧ dp.toInt ≤ 0) : pj_Y 44 62 [.ref 27, .ref 2, .int lv, .int dp] G0 (fun v' G' => v' = none ∧ pj_Inv G' ∧ pj_kpt kc_62_2_0x G0 G' ∧ (∀ H, G0 = H → (((¬ (pj_fi H 2 4).toInt = -1 → (pj_fi G' 2 4).toInt = (pj_fi H 2 4).toInt)) ∧ (pr_kc H G'))) ∧ (G' = F_62_2_0x G0 lv dp)) := by
  have c0_ : ((Int16.ofInt 3000).toInt32).toInt = 3000 := by decide
  have c1_ : ((Int8.ofInt 40).toInt32).toInt = 40 := by decide
  have c2_ : (Int32.ofInt (-1)).toInt = -1 := by decide
  have c3_ : (Int32.ofInt 0).toInt = 0 := by decide
  have c4_ : (Int32.ofInt 1).toInt = 1 := by decide
  have c5_ : (Int32.ofInt 2).toInt = 2 := by decide
  refine pj_Y_X (M := pj_m62) rfl rfl (Nat.le_of_ble_eq_true rfl) ?_
  have hK : pj_kpt kc_62_2_0x G0 G0 := pj_kpt_r _ _
  show pj_X _ _ G0 0 [(0, .ref 27), (1, .ref 2), (2, .int lv), (3, .int dp)] [] _
  rw [F_62_2_0x_e]
  obtain ⟨y26, hy26⟩ : ∃ z : Int32, z = pj_fi G0 2 4 := ⟨_, rfl⟩
  have ey26 : (pj_fi G0 2 4).toInt = y26.toInt := by rw [hy26]
  have ry26 : (-1 : Int) ≤ y26.toInt ∧ y26.toInt ≤ 80 := by rw [hy26]; exact hI.2.1 2 4 (-1, 80) rfl
  refine pj_X_of (fun r h => pj_R_to (G0, 2, [(0, .ref 27), (1, .ref 2), (2, .int lv), (3, .int dp)], [.int (Int32.ofInt 2), .int lv], 0, 0) 2 3 (fun _ => rfl) h) ?_
  refine pj_X_of (fun r h => pj_R_icT 12 rfl rfl (pj_b_leT (by omega)) h) ?_
  refine pj_X_of (fun r h => pj_R_to (G0, 17, [(0, .ref 27), (1, .ref 2), (2, .int lv), (3, .int dp)], [.int (lv + (Int32.ofInt 1)), .ref 2, .ref 27], 0, 0) 17 6 (fun _ => rfl) h) ?_
  obtain ⟨z27, hz27⟩ : ∃ z : Int32, z = lv + (Int32.ofInt 1) := ⟨_, rfl⟩
  refine pj_X_eqi hz27.symm ?_
  rw [← hz27, pj_nm_e]
  have fz27_0 : z27.toInt = lv.toInt + (Int32.ofInt 1).toInt := by rw [hz27]; exact pj_addI (by have := pj_i32 lv; have := pj_i32 (Int32.ofInt 1); omega) (by have := pj_i32 lv; have := pj_i32 (Int32.ofInt 1); omega)
  refine pj_X_of (fun r h => pj_R_to (G0, 18, [(0, .ref 27), (1, .ref 2), (2, .int lv), (3, .int dp)], [.int dp, .int z27, .ref 2, .ref 27], 0, 0) 18 2 (fun _ => rfl) h) ?_
  have q28 : (pj_fi G0 2 4).toInt = y26.toInt := by rw [show pj_fi G0 2 4 = y26 from hy26.symm]
  refine pj_X_ca (vs := [.ref 27, .ref 2, .int z27, .int dp]) rfl (fun _ => rfl) ⟨Nat.le_of_ble_eq_true rfl, Nat.le_of_ble_eq_true rfl, pj_T_rcv hI rfl⟩ ⟨rfl, rfl⟩ (pj_Y_up (by decide) (ct_62_3_0x G0 hI z27 dp ⟨by omega, by omega⟩ ⟨by omega, by omega⟩)) ?_
  rintro _ G30 ⟨rfl, iG30, jG30, eG30, fy29⟩
  replace eG30 := eG30 _ rfl
  rw [← fy29, pj_nm_e]
  have kG30 : pj_kpt kc_62_2_0x G0 G30 := pj_kpt_t hK (pj_kpt_s jG30 rfl)
  obtain ⟨y31, hy31⟩ : ∃ z : Int32, z = pj_fi G30 2 4 := ⟨_, rfl⟩
  have ey31 : (pj_fi G30 2 4).toInt = y31.toInt := by rw [hy31]
  have ry31 : (-1 : Int) ≤ y31.toInt ∧ y31.toInt ≤ 80 := by rw [hy31]; exact iG30.2.1 2 4 (-1, 80) rfl
  show pj_X _ _ G30 21 [(0, .ref 27), (1, .ref 2), (2, .int lv), (3, .int dp)] [] _
  refine pj_X_of (fun r h => pj_R_to (G30, 22, [(0, .ref 27), (1, .ref 2), (2, .int lv), (3, .int dp)], [.int lv], 0, 0) 22 2 (fun _ => rfl) h) ?_
  refine pj_X_of (fun r h => pj_R_ifT 29 rfl rfl (pj_b0_neT (by omega)) h) ?_
  refine pj_X_of (fun r h => pj_R_to (G30, 36, [(5, .int (Int32.ofInt 0)), (4, .int ((Int8.ofInt 40).toInt32)), (0, .ref 27), (1, .ref 2), (2, .int lv), (3, .int dp)], [], 0, 0) 36 5 (fun _ => rfl) h) ?_
  have q32 : (pj_fi G30 2 4).toInt = y31.toInt := by rw [show pj_fi G30 2 4 = y31 from hy31.symm]
  exact pj_X_sub [(0, .ref 27), (1, .ref 2), (2, .int lv), (3, .int dp), (4, .int ((Int8.ofInt 40).toInt32)), (5, .int (Int32.ofInt 0))] (show List.Nodup [0, 1, 2, 3, 4, 5] by decide) ⟨rfl, rfl, rfl, rfl, rfl, rfl, trivial⟩ ((lp_ct_62_2_0x G0 hI lv dp rlv rdp 41) G30 iG30 kG30 ((Int8.ofInt 40).toInt32) (Int32.ofInt 0) ⟨by omega, by omega⟩ ⟨by omega, by omega⟩ (by omega) eG30.2 (by omega))
theorem fr_62_2_0x (G0 : pj_G) (hI : pj_Inv G0) (lv : Int32) (dp : Int32) (rlv : (2 : Int) ≤ lv.toInt ∧ lv.toInt ≤ 2) (rdp : (0 : Int) ≤ dp.toInt ∧ dp.toInt ≤ 0) : pj_Inv (F_62_2_0x G0 lv dp) ∧ pj_kpt kc_62_2_0x G0 (F_62_2_0x G0 lv dp) ∧ (((¬ (pj_fi G0 2 4).toInt = -1 → (pj_fi (F_62_2_0x G0 lv dp) 2 4).toInt = (pj_fi G0 2 4).toInt)) ∧ (pr_kc G0 (F_62_2_0x G0 lv dp))) := by
  obtain ⟨v, G', -, -, i, j, x, e⟩ := ct_62_2_0x G0 hI lv dp rlv rdp
  rw [← e]
  exact ⟨i, j, x _ rfl⟩
def kc_62_1_0x : pj_KT := ([(2, 3), (2, 4), (27, 3)], [2, 27, 28, 29], [28, 29])
noncomputable def L_62_1_0x (G0 : pj_G) (lv : Int32) (dp : Int32) (fu : Nat) : Int32 → Int32 → pj_G → pj_G := Nat.rec (motive := fun _ => Int32 → Int32 → pj_G → pj_G) (fun _ _ G => G) (fun _ ih v4 v5 G => cond (pj_c1 .ge v5 v4) (G) (pj_bd (F_84_s6x G) (fun y7 G8 => cond (pj_c1 .ne y7 (Int32.ofInt (-1))) (pj_nm (lv + (Int32.ofInt 1)) (fun z12 => pj_nm (F_62_2_0x G8 z12 dp) (fun G15 => pj_nm (((Int16.ofInt 3000).toInt32) + y7) (fun z17 => pj_nm (F_60x G15 z17) (fun G20 => pj_nm (v5 + Int32.ofInt 1) (fun z23 => ih v4 z23 G20)))))) (G8)))) fu
theorem L_62_1_0x_s0 (G0 : pj_G) (lv : Int32) (dp : Int32) (fu : Nat) (v4 : Int32) (v5 : Int32) (G : pj_G) : L_62_1_0x G0 lv dp (fu + 1) v4 v5 G = cond (pj_c1 .ge v5 v4) (G) (pj_bd (F_84_s6x G) (fun y7 G8 => cond (pj_c1 .ne y7 (Int32.ofInt (-1))) (pj_nm (lv + (Int32.ofInt 1)) (fun z12 => pj_nm (F_62_2_0x G8 z12 dp) (fun G15 => pj_nm (((Int16.ofInt 3000).toInt32) + y7) (fun z17 => pj_nm (F_60x G15 z17) (fun G20 => pj_nm (v5 + Int32.ofInt 1) (fun z23 => L_62_1_0x G0 lv dp fu v4 z23 G20)))))) (G8))) := rfl
noncomputable def F_62_1_0x (G0 : pj_G) (lv : Int32) (dp : Int32) : pj_G := pj_nm (lv + (Int32.ofInt 1)) (fun z27 => pj_nm (F_62_2_0x G0 z27 dp) (fun G30 => L_62_1_0x G0 lv dp 41 ((Int8.ofInt 40).toInt32) (Int32.ofInt 0) G30))
theorem F_62_1_0x_e (G0 : pj_G) (lv : Int32) (dp : Int32) : F_62_1_0x G0 lv dp = pj_nm (lv + (Int32.ofInt 1)) (fun z27 => pj_nm (F_62_2_0x G0 z27 dp) (fun G30 => L_62_1_0x G0 lv dp 41 ((Int8.ofInt 40).toInt32) (Int32.ofInt 0) G30)) := rfl
theorem lp_ct_62_1_0x (G0 : pj_G) (hI0 : pj_Inv G0) (lv : Int32) (dp : Int32) (rlv : (1 : Int) ≤ lv.toInt ∧ lv.toInt ≤ 1) (rdp : (0 : Int) ≤ dp.toInt ∧ dp.toInt ≤ 0) : ∀ mn : Nat, (∀ (G : pj_G) (hI : pj_Inv G) (hK : pj_kpt kc_62_1_0x G0 G) (v4 : Int32) (v5 : Int32), ((1 : Int) ≤ v4.toInt ∧ v4.toInt ≤ 40) → ((0 : Int) ≤ v5.toInt ∧ v5.toInt ≤ 40) → (¬ (pj_fi G0 2 4).toInt = -1 → (pj_fi G 2 4).toInt = (pj_fi G0 2 4).toInt) → (pr_kc G0 G) → 40 - v5.toInt < (mn : Int) → pj_X 44 pj_m62 G 36 [(0, .ref 27), (1, .ref 2), (2, .int lv), (3, .int dp), (4, .int v4), (5, .int v5)] [] (fun v' G' => v' = none ∧ pj_Inv G' ∧ pj_kpt kc_62_1_0x G0 G' ∧ (∀ H, G0 = H → (((¬ (pj_fi H 2 4).toInt = -1 → (pj_fi G' 2 4).toInt = (pj_fi H 2 4).toInt)) ∧ (pr_kc H G'))) ∧ (G' = L_62_1_0x G0 lv dp mn v4 v5 G))) := by
  have c0_ : ((Int16.ofInt 3000).toInt32).toInt = 3000 := by decide
  have c1_ : ((Int8.ofInt 40).toInt32).toInt = 40 := by decide
  have c2_ : (Int32.ofInt (-1)).toInt = -1 := by decide
  have c3_ : (Int32.ofInt 0).toInt = 0 := by decide
  have c4_ : (Int32.ofInt 1).toInt = 1 := by decide
  have c5_ : (Int32.ofInt 2).toInt = 2 := by decide
  intro mn
  induction mn with
  | zero =>
    intro G hI hK v4 v5 rv4 rv5 x0_ x1_ hm
    exfalso
    omega
  | succ mn ih =>
    intro G hI hK v4 v5 rv4 rv5 x0_ x1_ hm
    rw [L_62_1_0x_s0]
    obtain ⟨y1, hy1⟩ : ∃ z : Int32, z = pj_fi G 2 4 := ⟨_, rfl⟩
    have ey1 : (pj_fi G 2 4).toInt = y1.toInt := by rw [hy1]
    have ry1 : (-1 : Int) ≤ y1.toInt ∧ y1.toInt ≤ 80 := by rw [hy1]; exact hI.2.1 2 4 (-1, 80) rfl
    refine pj_X_of (fun r h => pj_R_to (G, 40, [(0, .ref 27), (1, .ref 2), (2, .int lv), (3, .int dp), (4, .int v4), (5, .int v5)], [.int v4, .int v5], 0, 0) 40 3 (fun _ => rfl) h) ?_
    cases b2 : pj_c1 .ge v5 v4 with
    | true =>
      rw [pj_cT]
      have ub2 := pj_u_geT b2
      refine pj_X_of (fun r h => pj_R_icT 85 rfl rfl b2 h) ?_
      have q3 : (pj_fi G 2 4).toInt = y1.toInt := by rw [show pj_fi G 2 4 = y1 from hy1.symm]
      exact pj_X_rt rfl rfl ⟨rfl, hI, hK, (fun H hH => by subst hH; exact (⟨by omega, x1_⟩)), rfl⟩
    | false =>
      rw [pj_cF]
      have ub2 := pj_u_geF b2
      refine pj_X_of (fun r h => pj_R_icF rfl b2 h) ?_
      refine pj_X_of (fun r h => pj_R_to (G, 45, [(0, .ref 27), (1, .ref 2), (2, .int lv), (3, .int dp), (4, .int v4), (5, .int v5)], [.int lv, .ref 2], 0, 0) 45 3 (fun _ => rfl) h) ?_
      have q4 : (pj_fi G 2 4).toInt = y1.toInt := by rw [show pj_fi G 2 4 = y1 from hy1.symm]
      refine pj_X_ca (vs := [.int lv]) rfl (fun _ => rfl) ⟨Nat.le_of_ble_eq_true rfl, Nat.le_of_ble_eq_true rfl, rfl⟩ ⟨rfl, rfl⟩ (pj_Y_up (by decide) (ct_61_1 G hI lv ⟨by omega, by omega⟩)) ?_
      rintro _ _ ⟨rfl, rfl⟩
      show pj_X _ _ G 48 [(0, .ref 27), (1, .ref 2), (2, .int lv), (3, .int dp), (4, .int v4), (5, .int v5)] [.retAddr 6, .ref 2] _
      have q6 : (pj_fi G 2 4).toInt = y1.toInt := by rw [show pj_fi G 2 4 = y1 from hy1.symm]
      refine pj_X_ca (vs := [.ref 2, .retAddr 6]) rfl (fun _ => rfl) ⟨Nat.le_of_ble_eq_true rfl, Nat.le_of_ble_eq_true rfl, pj_T_rcv hI rfl⟩ ⟨rfl, rfl⟩ (pj_Y_up (by decide) (ct_84_s6x G hI)) ?_
      rintro _ G8 ⟨y7, rfl, iG8, jG8, ry7, ey7, fy7⟩
      replace ey7 := ey7 _ rfl
      rw [← fy7, pj_bd_e]
      have kG8 : pj_kpt kc_62_1_0x G0 G8 := pj_kpt_t hK (pj_kpt_s jG8 rfl)
      have q9 : (pj_fi G8 2 4).toInt = (pj_fi G 2 4).toInt := by rw [jG8.1 (2, 4) (by decide)]
      obtain ⟨y10, hy10⟩ : ∃ z : Int32, z = pj_fi G8 2 4 := ⟨_, rfl⟩
      have ey10 : (pj_fi G8 2 4).toInt = y10.toInt := by rw [hy10]
      have ry10 : (-1 : Int) ≤ y10.toInt ∧ y10.toInt ≤ 80 := by rw [hy10]; exact iG8.2.1 2 4 (-1, 80) rfl
      show pj_X _ _ G8 51 [(0, .ref 27), (1, .ref 2), (2, .int lv), (3, .int dp), (4, .int v4), (5, .int v5)] [.int y7] _
      refine pj_X_of (fun r h => pj_R_to (G8, 56, [(6, .int y7), (0, .ref 27), (1, .ref 2), (2, .int lv), (3, .int dp), (4, .int v4), (5, .int v5)], [.int (Int32.ofInt (-1)), .int y7], 0, 0) 56 4 (fun _ => rfl) h) ?_
      cases b11 : pj_c1 .ne y7 (Int32.ofInt (-1)) with
      | true =>
        rw [pj_cT]
        have ub11 := pj_u_neT b11
        refine pj_X_of (fun r h => pj_R_icT 60 rfl rfl b11 h) ?_
        refine pj_X_of (fun r h => pj_R_to (G8, 65, [(6, .int y7), (0, .ref 27), (1, .ref 2), (2, .int lv), (3, .int dp), (4, .int v4), (5, .int v5)], [.int (lv + (Int32.ofInt 1)), .ref 2, .ref 27], 0, 0) 65 6 (fun _ => rfl) h) ?_
        obtain ⟨z12, hz12⟩ : ∃ z : Int32, z = lv + (Int32.ofInt 1) := ⟨_, rfl⟩
        refine pj_X_eqi hz12.symm ?_
        rw [← hz12, pj_nm_e]
        have fz12_0 : z12.toInt = lv.toInt + (Int32.ofInt 1).toInt := by rw [hz12]; exact pj_addI (by have := pj_i32 lv; have := pj_i32 (Int32.ofInt 1); omega) (by have := pj_i32 lv; have := pj_i32 (Int32.ofInt 1); omega)
        refine pj_X_of (fun r h => pj_R_to (G8, 66, [(6, .int y7), (0, .ref 27), (1, .ref 2), (2, .int lv), (3, .int dp), (4, .int v4), (5, .int v5)], [.int dp, .int z12, .ref 2, .ref 27], 0, 0) 66 2 (fun _ => rfl) h) ?_
        have q13 : (pj_fi G8 2 4).toInt = y10.toInt := by rw [show pj_fi G8 2 4 = y10 from hy10.symm]
        refine pj_X_ca (vs := [.ref 27, .ref 2, .int z12, .int dp]) rfl (fun _ => rfl) ⟨Nat.le_of_ble_eq_true rfl, Nat.le_of_ble_eq_true rfl, pj_T_rcv iG8 rfl⟩ ⟨rfl, rfl⟩ (pj_Y_up (by decide) (ct_62_2_0x G8 iG8 z12 dp ⟨by omega, by omega⟩ ⟨by omega, by omega⟩)) ?_
        rintro _ G15 ⟨rfl, iG15, jG15, eG15, fy14⟩
        replace eG15 := eG15 _ rfl
        rw [← fy14, pj_nm_e]
        have kG15 : pj_kpt kc_62_1_0x G0 G15 := pj_kpt_t kG8 (pj_kpt_s jG15 rfl)
        obtain ⟨y16, hy16⟩ : ∃ z : Int32, z = pj_fi G15 2 4 := ⟨_, rfl⟩
        have ey16 : (pj_fi G15 2 4).toInt = y16.toInt := by rw [hy16]
        have ry16 : (-1 : Int) ≤ y16.toInt ∧ y16.toInt ≤ 80 := by rw [hy16]; exact iG15.2.1 2 4 (-1, 80) rfl
        show pj_X _ _ G15 69 [(6, .int y7), (0, .ref 27), (1, .ref 2), (2, .int lv), (3, .int dp), (4, .int v4), (5, .int v5)] [] _
        refine pj_X_of (fun r h => pj_R_to (G15, 76, [(6, .int y7), (0, .ref 27), (1, .ref 2), (2, .int lv), (3, .int dp), (4, .int v4), (5, .int v5)], [.int (((Int16.ofInt 3000).toInt32) + y7), .ref 27], 0, 0) 76 5 (fun _ => rfl) h) ?_
        obtain ⟨z17, hz17⟩ : ∃ z : Int32, z = ((Int16.ofInt 3000).toInt32) + y7 := ⟨_, rfl⟩
        refine pj_X_eqi hz17.symm ?_
        rw [← hz17, pj_nm_e]
        have fz17_0 : z17.toInt = ((Int16.ofInt 3000).toInt32).toInt + y7.toInt := by rw [hz17]; exact pj_addI (by have := pj_i32 ((Int16.ofInt 3000).toInt32); have := pj_i32 y7; omega) (by have := pj_i32 ((Int16.ofInt 3000).toInt32); have := pj_i32 y7; omega)
        have q18 : (pj_fi G15 2 4).toInt = y16.toInt := by rw [show pj_fi G15 2 4 = y16 from hy16.symm]
        refine pj_X_ca (vs := [.ref 27, .int z17]) rfl (fun _ => rfl) ⟨Nat.le_of_ble_eq_true rfl, Nat.le_of_ble_eq_true rfl, pj_T_rcv iG15 rfl⟩ ⟨rfl, rfl⟩ (pj_Y_up (by decide) (ct_60x G15 iG15 z17 (by omega))) ?_
        rintro _ G20 ⟨rfl, iG20, jG20, eG20, fy19⟩
        replace eG20 := eG20 _ rfl
        rw [← fy19, pj_nm_e]
        have kG20 : pj_kpt kc_62_1_0x G0 G20 := pj_kpt_t kG15 (pj_kpt_s jG20 rfl)
        have q21 : (pj_fi G20 2 4).toInt = (pj_fi G15 2 4).toInt := by rw [jG20.1 (2, 4) (by decide)]
        obtain ⟨y22, hy22⟩ : ∃ z : Int32, z = pj_fi G20 2 4 := ⟨_, rfl⟩
        have ey22 : (pj_fi G20 2 4).toInt = y22.toInt := by rw [hy22]
        have ry22 : (-1 : Int) ≤ y22.toInt ∧ y22.toInt ≤ 80 := by rw [hy22]; exact iG20.2.1 2 4 (-1, 80) rfl
        show pj_X _ _ G20 79 [(6, .int y7), (0, .ref 27), (1, .ref 2), (2, .int lv), (3, .int dp), (4, .int v4), (5, .int v5)] [] _
        refine pj_X_of (fun r h => pj_R_to (G20, 82, [(5, .int (v5 + Int32.ofInt 1)), (6, .int y7), (0, .ref 27), (1, .ref 2), (2, .int lv), (3, .int dp), (4, .int v4)], [], 0, 0) 82 2 (fun _ => rfl) h) ?_
        obtain ⟨z23, hz23⟩ : ∃ z : Int32, z = v5 + Int32.ofInt 1 := ⟨_, rfl⟩
        rw [← hz23]
        rw [pj_nm_e]
        have fz23_0 : z23.toInt = v5.toInt + (Int32.ofInt 1).toInt := by rw [hz23]; exact pj_addI (by have := pj_i32 v5; have := pj_i32 (Int32.ofInt 1); omega) (by have := pj_i32 v5; have := pj_i32 (Int32.ofInt 1); omega)
        refine pj_X_of (fun r h => pj_R_to (G20, 36, [(5, .int z23), (6, .int y7), (0, .ref 27), (1, .ref 2), (2, .int lv), (3, .int dp), (4, .int v4)], [], 0, 0) 36 2 (fun _ => rfl) h) ?_
        have q24 : (pj_fi G20 2 4).toInt = y22.toInt := by rw [show pj_fi G20 2 4 = y22 from hy22.symm]
        exact pj_X_sub [(0, .ref 27), (1, .ref 2), (2, .int lv), (3, .int dp), (4, .int v4), (5, .int z23)] (show List.Nodup [0, 1, 2, 3, 4, 5] by decide) ⟨rfl, rfl, rfl, rfl, rfl, rfl, trivial⟩ (ih G20 iG20 kG20 v4 z23 ⟨by omega, by omega⟩ ⟨by omega, by omega⟩ (by omega) (pr_kc_t (pr_kc_t (pr_kc_t x1_ (pr_kc_k jG8 rfl)) eG15.2) eG20) (by omega))
      | false =>
        rw [pj_cF]
        have ub11 := pj_u_neF b11
        refine pj_X_of (fun r h => pj_R_icF rfl b11 h) ?_
        have q25 : (pj_fi G8 2 4).toInt = y10.toInt := by rw [show pj_fi G8 2 4 = y10 from hy10.symm]
        exact pj_X_rt rfl rfl ⟨rfl, iG8, kG8, (fun H hH => by subst hH; exact (⟨by omega, (pr_kc_t x1_ (pr_kc_k jG8 rfl))⟩)), rfl⟩
theorem ct_62_1_0x (G0 : pj_G) (hI : pj_Inv G0) (lv : Int32) (dp : Int32) (rlv : (1 : Int) ≤ lv.toInt ∧ lv.toInt ≤ 1) (rdp : (0 : Int) ≤ dp.toInt ∧ dp.toInt ≤ 0) : pj_Y 45 62 [.ref 27, .ref 2, .int lv, .int dp] G0 (fun v' G' => v' = none ∧ pj_Inv G' ∧ pj_kpt kc_62_1_0x G0 G' ∧ (∀ H, G0 = H → (((¬ (pj_fi H 2 4).toInt = -1 → (pj_fi G' 2 4).toInt = (pj_fi H 2 4).toInt)) ∧ (pr_kc H G'))) ∧ (G' = F_62_1_0x G0 lv dp)) := by
  have c0_ : ((Int16.ofInt 3000).toInt32).toInt = 3000 := by decide
  have c1_ : ((Int8.ofInt 40).toInt32).toInt = 40 := by decide
  have c2_ : (Int32.ofInt (-1)).toInt = -1 := by decide
  have c3_ : (Int32.ofInt 0).toInt = 0 := by decide
  have c4_ : (Int32.ofInt 1).toInt = 1 := by decide
  have c5_ : (Int32.ofInt 2).toInt = 2 := by decide
  refine pj_Y_X (M := pj_m62) rfl rfl (Nat.le_of_ble_eq_true rfl) ?_
  have hK : pj_kpt kc_62_1_0x G0 G0 := pj_kpt_r _ _
  show pj_X _ _ G0 0 [(0, .ref 27), (1, .ref 2), (2, .int lv), (3, .int dp)] [] _
  rw [F_62_1_0x_e]
  obtain ⟨y26, hy26⟩ : ∃ z : Int32, z = pj_fi G0 2 4 := ⟨_, rfl⟩
  have ey26 : (pj_fi G0 2 4).toInt = y26.toInt := by rw [hy26]
  have ry26 : (-1 : Int) ≤ y26.toInt ∧ y26.toInt ≤ 80 := by rw [hy26]; exact hI.2.1 2 4 (-1, 80) rfl
  refine pj_X_of (fun r h => pj_R_to (G0, 2, [(0, .ref 27), (1, .ref 2), (2, .int lv), (3, .int dp)], [.int (Int32.ofInt 2), .int lv], 0, 0) 2 3 (fun _ => rfl) h) ?_
  refine pj_X_of (fun r h => pj_R_icT 12 rfl rfl (pj_b_leT (by omega)) h) ?_
  refine pj_X_of (fun r h => pj_R_to (G0, 17, [(0, .ref 27), (1, .ref 2), (2, .int lv), (3, .int dp)], [.int (lv + (Int32.ofInt 1)), .ref 2, .ref 27], 0, 0) 17 6 (fun _ => rfl) h) ?_
  obtain ⟨z27, hz27⟩ : ∃ z : Int32, z = lv + (Int32.ofInt 1) := ⟨_, rfl⟩
  refine pj_X_eqi hz27.symm ?_
  rw [← hz27, pj_nm_e]
  have fz27_0 : z27.toInt = lv.toInt + (Int32.ofInt 1).toInt := by rw [hz27]; exact pj_addI (by have := pj_i32 lv; have := pj_i32 (Int32.ofInt 1); omega) (by have := pj_i32 lv; have := pj_i32 (Int32.ofInt 1); omega)
  refine pj_X_of (fun r h => pj_R_to (G0, 18, [(0, .ref 27), (1, .ref 2), (2, .int lv), (3, .int dp)], [.int dp, .int z27, .ref 2, .ref 27], 0, 0) 18 2 (fun _ => rfl) h) ?_
  have q28 : (pj_fi G0 2 4).toInt = y26.toInt := by rw [show pj_fi G0 2 4 = y26 from hy26.symm]
  refine pj_X_ca (vs := [.ref 27, .ref 2, .int z27, .int dp]) rfl (fun _ => rfl) ⟨Nat.le_of_ble_eq_true rfl, Nat.le_of_ble_eq_true rfl, pj_T_rcv hI rfl⟩ ⟨rfl, rfl⟩ (pj_Y_up (by decide) (ct_62_2_0x G0 hI z27 dp ⟨by omega, by omega⟩ ⟨by omega, by omega⟩)) ?_
  rintro _ G30 ⟨rfl, iG30, jG30, eG30, fy29⟩
  replace eG30 := eG30 _ rfl
  rw [← fy29, pj_nm_e]
  have kG30 : pj_kpt kc_62_1_0x G0 G30 := pj_kpt_t hK (pj_kpt_s jG30 rfl)
  obtain ⟨y31, hy31⟩ : ∃ z : Int32, z = pj_fi G30 2 4 := ⟨_, rfl⟩
  have ey31 : (pj_fi G30 2 4).toInt = y31.toInt := by rw [hy31]
  have ry31 : (-1 : Int) ≤ y31.toInt ∧ y31.toInt ≤ 80 := by rw [hy31]; exact iG30.2.1 2 4 (-1, 80) rfl
  show pj_X _ _ G30 21 [(0, .ref 27), (1, .ref 2), (2, .int lv), (3, .int dp)] [] _
  refine pj_X_of (fun r h => pj_R_to (G30, 22, [(0, .ref 27), (1, .ref 2), (2, .int lv), (3, .int dp)], [.int lv], 0, 0) 22 2 (fun _ => rfl) h) ?_
  refine pj_X_of (fun r h => pj_R_ifT 29 rfl rfl (pj_b0_neT (by omega)) h) ?_
  refine pj_X_of (fun r h => pj_R_to (G30, 36, [(5, .int (Int32.ofInt 0)), (4, .int ((Int8.ofInt 40).toInt32)), (0, .ref 27), (1, .ref 2), (2, .int lv), (3, .int dp)], [], 0, 0) 36 5 (fun _ => rfl) h) ?_
  have q32 : (pj_fi G30 2 4).toInt = y31.toInt := by rw [show pj_fi G30 2 4 = y31 from hy31.symm]
  exact pj_X_sub [(0, .ref 27), (1, .ref 2), (2, .int lv), (3, .int dp), (4, .int ((Int8.ofInt 40).toInt32)), (5, .int (Int32.ofInt 0))] (show List.Nodup [0, 1, 2, 3, 4, 5] by decide) ⟨rfl, rfl, rfl, rfl, rfl, rfl, trivial⟩ ((lp_ct_62_1_0x G0 hI lv dp rlv rdp 41) G30 iG30 kG30 ((Int8.ofInt 40).toInt32) (Int32.ofInt 0) ⟨by omega, by omega⟩ ⟨by omega, by omega⟩ (by omega) eG30.2 (by omega))
theorem fr_62_1_0x (G0 : pj_G) (hI : pj_Inv G0) (lv : Int32) (dp : Int32) (rlv : (1 : Int) ≤ lv.toInt ∧ lv.toInt ≤ 1) (rdp : (0 : Int) ≤ dp.toInt ∧ dp.toInt ≤ 0) : pj_Inv (F_62_1_0x G0 lv dp) ∧ pj_kpt kc_62_1_0x G0 (F_62_1_0x G0 lv dp) ∧ (((¬ (pj_fi G0 2 4).toInt = -1 → (pj_fi (F_62_1_0x G0 lv dp) 2 4).toInt = (pj_fi G0 2 4).toInt)) ∧ (pr_kc G0 (F_62_1_0x G0 lv dp))) := by
  obtain ⟨v, G', -, -, i, j, x, e⟩ := ct_62_1_0x G0 hI lv dp rlv rdp
  rw [← e]
  exact ⟨i, j, x _ rfl⟩
def kc_62_0_0x : pj_KT := ([(2, 3), (2, 4), (27, 3)], [2, 27, 28, 29], [28, 29])
noncomputable def L_62_0_0x (G0 : pj_G) (lv : Int32) (dp : Int32) (fu : Nat) : Int32 → Int32 → pj_G → pj_G := Nat.rec (motive := fun _ => Int32 → Int32 → pj_G → pj_G) (fun _ _ G => G) (fun _ ih v4 v5 G => cond (pj_c1 .ge v5 v4) (G) (pj_bd (F_84_s5x G) (fun y7 G8 => cond (pj_c1 .ne y7 (Int32.ofInt (-1))) (pj_nm (lv + (Int32.ofInt 1)) (fun z12 => pj_nm (F_62_1_0x G8 z12 dp) (fun G15 => pj_nm (((Int16.ofInt 3000).toInt32) + y7) (fun z17 => pj_nm (F_60x G15 z17) (fun G20 => pj_nm (v5 + Int32.ofInt 1) (fun z23 => ih v4 z23 G20)))))) (G8)))) fu
theorem L_62_0_0x_s0 (G0 : pj_G) (lv : Int32) (dp : Int32) (fu : Nat) (v4 : Int32) (v5 : Int32) (G : pj_G) : L_62_0_0x G0 lv dp (fu + 1) v4 v5 G = cond (pj_c1 .ge v5 v4) (G) (pj_bd (F_84_s5x G) (fun y7 G8 => cond (pj_c1 .ne y7 (Int32.ofInt (-1))) (pj_nm (lv + (Int32.ofInt 1)) (fun z12 => pj_nm (F_62_1_0x G8 z12 dp) (fun G15 => pj_nm (((Int16.ofInt 3000).toInt32) + y7) (fun z17 => pj_nm (F_60x G15 z17) (fun G20 => pj_nm (v5 + Int32.ofInt 1) (fun z23 => L_62_0_0x G0 lv dp fu v4 z23 G20)))))) (G8))) := rfl
noncomputable def F_62_0_0x (G0 : pj_G) (lv : Int32) (dp : Int32) : pj_G := pj_nm (lv + (Int32.ofInt 1)) (fun z27 => pj_nm (F_62_1_0x G0 z27 dp) (fun G30 => L_62_0_0x G0 lv dp 41 (Int32.ofInt 1) (Int32.ofInt 0) G30))
theorem F_62_0_0x_e (G0 : pj_G) (lv : Int32) (dp : Int32) : F_62_0_0x G0 lv dp = pj_nm (lv + (Int32.ofInt 1)) (fun z27 => pj_nm (F_62_1_0x G0 z27 dp) (fun G30 => L_62_0_0x G0 lv dp 41 (Int32.ofInt 1) (Int32.ofInt 0) G30)) := rfl
theorem lp_ct_62_0_0x (G0 : pj_G) (hI0 : pj_Inv G0) (lv : Int32) (dp : Int32) (rlv : (0 : Int) ≤ lv.toInt ∧ lv.toInt ≤ 0) (rdp : (0 : Int) ≤ dp.toInt ∧ dp.toInt ≤ 0) : ∀ mn : Nat, (∀ (G : pj_G) (hI : pj_Inv G) (hK : pj_kpt kc_62_0_0x G0 G) (v4 : Int32) (v5 : Int32), ((1 : Int) ≤ v4.toInt ∧ v4.toInt ≤ 40) → ((0 : Int) ≤ v5.toInt ∧ v5.toInt ≤ 40) → (¬ (pj_fi G0 2 4).toInt = -1 → (pj_fi G 2 4).toInt = (pj_fi G0 2 4).toInt) → (pr_kc G0 G) → 40 - v5.toInt < (mn : Int) → pj_X 45 pj_m62 G 36 [(0, .ref 27), (1, .ref 2), (2, .int lv), (3, .int dp), (4, .int v4), (5, .int v5)] [] (fun v' G' => v' = none ∧ pj_Inv G' ∧ pj_kpt kc_62_0_0x G0 G' ∧ (∀ H, G0 = H → (((¬ (pj_fi H 2 4).toInt = -1 → (pj_fi G' 2 4).toInt = (pj_fi H 2 4).toInt)) ∧ (pr_kc H G'))) ∧ (G' = L_62_0_0x G0 lv dp mn v4 v5 G))) := by
  have c0_ : ((Int16.ofInt 3000).toInt32).toInt = 3000 := by decide
  have c1_ : (Int32.ofInt (-1)).toInt = -1 := by decide
  have c2_ : (Int32.ofInt 0).toInt = 0 := by decide
  have c3_ : (Int32.ofInt 1).toInt = 1 := by decide
  have c4_ : (Int32.ofInt 2).toInt = 2 := by decide
  intro mn
  induction mn with
  | zero =>
    intro G hI hK v4 v5 rv4 rv5 x0_ x1_ hm
    exfalso
    omega
  | succ mn ih =>
    intro G hI hK v4 v5 rv4 rv5 x0_ x1_ hm
    rw [L_62_0_0x_s0]
    obtain ⟨y1, hy1⟩ : ∃ z : Int32, z = pj_fi G 2 4 := ⟨_, rfl⟩
    have ey1 : (pj_fi G 2 4).toInt = y1.toInt := by rw [hy1]
    have ry1 : (-1 : Int) ≤ y1.toInt ∧ y1.toInt ≤ 80 := by rw [hy1]; exact hI.2.1 2 4 (-1, 80) rfl
    refine pj_X_of (fun r h => pj_R_to (G, 40, [(0, .ref 27), (1, .ref 2), (2, .int lv), (3, .int dp), (4, .int v4), (5, .int v5)], [.int v4, .int v5], 0, 0) 40 3 (fun _ => rfl) h) ?_
    cases b2 : pj_c1 .ge v5 v4 with
    | true =>
      rw [pj_cT]
      have ub2 := pj_u_geT b2
      refine pj_X_of (fun r h => pj_R_icT 85 rfl rfl b2 h) ?_
      have q3 : (pj_fi G 2 4).toInt = y1.toInt := by rw [show pj_fi G 2 4 = y1 from hy1.symm]
      exact pj_X_rt rfl rfl ⟨rfl, hI, hK, (fun H hH => by subst hH; exact (⟨by omega, x1_⟩)), rfl⟩
    | false =>
      rw [pj_cF]
      have ub2 := pj_u_geF b2
      refine pj_X_of (fun r h => pj_R_icF rfl b2 h) ?_
      refine pj_X_of (fun r h => pj_R_to (G, 45, [(0, .ref 27), (1, .ref 2), (2, .int lv), (3, .int dp), (4, .int v4), (5, .int v5)], [.int lv, .ref 2], 0, 0) 45 3 (fun _ => rfl) h) ?_
      have q4 : (pj_fi G 2 4).toInt = y1.toInt := by rw [show pj_fi G 2 4 = y1 from hy1.symm]
      refine pj_X_ca (vs := [.int lv]) rfl (fun _ => rfl) ⟨Nat.le_of_ble_eq_true rfl, Nat.le_of_ble_eq_true rfl, rfl⟩ ⟨rfl, rfl⟩ (pj_Y_up (by decide) (ct_61_0 G hI lv ⟨by omega, by omega⟩)) ?_
      rintro _ _ ⟨rfl, rfl⟩
      show pj_X _ _ G 48 [(0, .ref 27), (1, .ref 2), (2, .int lv), (3, .int dp), (4, .int v4), (5, .int v5)] [.retAddr 5, .ref 2] _
      have q6 : (pj_fi G 2 4).toInt = y1.toInt := by rw [show pj_fi G 2 4 = y1 from hy1.symm]
      refine pj_X_ca (vs := [.ref 2, .retAddr 5]) rfl (fun _ => rfl) ⟨Nat.le_of_ble_eq_true rfl, Nat.le_of_ble_eq_true rfl, pj_T_rcv hI rfl⟩ ⟨rfl, rfl⟩ (pj_Y_up (by decide) (ct_84_s5x G hI)) ?_
      rintro _ G8 ⟨y7, rfl, iG8, jG8, ry7, ey7, fy7⟩
      replace ey7 := ey7 _ rfl
      rw [← fy7, pj_bd_e]
      have kG8 : pj_kpt kc_62_0_0x G0 G8 := pj_kpt_t hK (pj_kpt_s jG8 rfl)
      have q9 : (pj_fi G8 2 4).toInt = (pj_fi G 2 4).toInt := by rw [jG8.1 (2, 4) (by decide)]
      obtain ⟨y10, hy10⟩ : ∃ z : Int32, z = pj_fi G8 2 4 := ⟨_, rfl⟩
      have ey10 : (pj_fi G8 2 4).toInt = y10.toInt := by rw [hy10]
      have ry10 : (-1 : Int) ≤ y10.toInt ∧ y10.toInt ≤ 80 := by rw [hy10]; exact iG8.2.1 2 4 (-1, 80) rfl
      show pj_X _ _ G8 51 [(0, .ref 27), (1, .ref 2), (2, .int lv), (3, .int dp), (4, .int v4), (5, .int v5)] [.int y7] _
      refine pj_X_of (fun r h => pj_R_to (G8, 56, [(6, .int y7), (0, .ref 27), (1, .ref 2), (2, .int lv), (3, .int dp), (4, .int v4), (5, .int v5)], [.int (Int32.ofInt (-1)), .int y7], 0, 0) 56 4 (fun _ => rfl) h) ?_
      cases b11 : pj_c1 .ne y7 (Int32.ofInt (-1)) with
      | true =>
        rw [pj_cT]
        have ub11 := pj_u_neT b11
        refine pj_X_of (fun r h => pj_R_icT 60 rfl rfl b11 h) ?_
        refine pj_X_of (fun r h => pj_R_to (G8, 65, [(6, .int y7), (0, .ref 27), (1, .ref 2), (2, .int lv), (3, .int dp), (4, .int v4), (5, .int v5)], [.int (lv + (Int32.ofInt 1)), .ref 2, .ref 27], 0, 0) 65 6 (fun _ => rfl) h) ?_
        obtain ⟨z12, hz12⟩ : ∃ z : Int32, z = lv + (Int32.ofInt 1) := ⟨_, rfl⟩
        refine pj_X_eqi hz12.symm ?_
        rw [← hz12, pj_nm_e]
        have fz12_0 : z12.toInt = lv.toInt + (Int32.ofInt 1).toInt := by rw [hz12]; exact pj_addI (by have := pj_i32 lv; have := pj_i32 (Int32.ofInt 1); omega) (by have := pj_i32 lv; have := pj_i32 (Int32.ofInt 1); omega)
        refine pj_X_of (fun r h => pj_R_to (G8, 66, [(6, .int y7), (0, .ref 27), (1, .ref 2), (2, .int lv), (3, .int dp), (4, .int v4), (5, .int v5)], [.int dp, .int z12, .ref 2, .ref 27], 0, 0) 66 2 (fun _ => rfl) h) ?_
        have q13 : (pj_fi G8 2 4).toInt = y10.toInt := by rw [show pj_fi G8 2 4 = y10 from hy10.symm]
        refine pj_X_ca (vs := [.ref 27, .ref 2, .int z12, .int dp]) rfl (fun _ => rfl) ⟨Nat.le_of_ble_eq_true rfl, Nat.le_of_ble_eq_true rfl, pj_T_rcv iG8 rfl⟩ ⟨rfl, rfl⟩ (pj_Y_up (by decide) (ct_62_1_0x G8 iG8 z12 dp ⟨by omega, by omega⟩ ⟨by omega, by omega⟩)) ?_
        rintro _ G15 ⟨rfl, iG15, jG15, eG15, fy14⟩
        replace eG15 := eG15 _ rfl
        rw [← fy14, pj_nm_e]
        have kG15 : pj_kpt kc_62_0_0x G0 G15 := pj_kpt_t kG8 (pj_kpt_s jG15 rfl)
        obtain ⟨y16, hy16⟩ : ∃ z : Int32, z = pj_fi G15 2 4 := ⟨_, rfl⟩
        have ey16 : (pj_fi G15 2 4).toInt = y16.toInt := by rw [hy16]
        have ry16 : (-1 : Int) ≤ y16.toInt ∧ y16.toInt ≤ 80 := by rw [hy16]; exact iG15.2.1 2 4 (-1, 80) rfl
        show pj_X _ _ G15 69 [(6, .int y7), (0, .ref 27), (1, .ref 2), (2, .int lv), (3, .int dp), (4, .int v4), (5, .int v5)] [] _
        refine pj_X_of (fun r h => pj_R_to (G15, 76, [(6, .int y7), (0, .ref 27), (1, .ref 2), (2, .int lv), (3, .int dp), (4, .int v4), (5, .int v5)], [.int (((Int16.ofInt 3000).toInt32) + y7), .ref 27], 0, 0) 76 5 (fun _ => rfl) h) ?_
        obtain ⟨z17, hz17⟩ : ∃ z : Int32, z = ((Int16.ofInt 3000).toInt32) + y7 := ⟨_, rfl⟩
        refine pj_X_eqi hz17.symm ?_
        rw [← hz17, pj_nm_e]
        have fz17_0 : z17.toInt = ((Int16.ofInt 3000).toInt32).toInt + y7.toInt := by rw [hz17]; exact pj_addI (by have := pj_i32 ((Int16.ofInt 3000).toInt32); have := pj_i32 y7; omega) (by have := pj_i32 ((Int16.ofInt 3000).toInt32); have := pj_i32 y7; omega)
        have q18 : (pj_fi G15 2 4).toInt = y16.toInt := by rw [show pj_fi G15 2 4 = y16 from hy16.symm]
        refine pj_X_ca (vs := [.ref 27, .int z17]) rfl (fun _ => rfl) ⟨Nat.le_of_ble_eq_true rfl, Nat.le_of_ble_eq_true rfl, pj_T_rcv iG15 rfl⟩ ⟨rfl, rfl⟩ (pj_Y_up (by decide) (ct_60x G15 iG15 z17 (by omega))) ?_
        rintro _ G20 ⟨rfl, iG20, jG20, eG20, fy19⟩
        replace eG20 := eG20 _ rfl
        rw [← fy19, pj_nm_e]
        have kG20 : pj_kpt kc_62_0_0x G0 G20 := pj_kpt_t kG15 (pj_kpt_s jG20 rfl)
        have q21 : (pj_fi G20 2 4).toInt = (pj_fi G15 2 4).toInt := by rw [jG20.1 (2, 4) (by decide)]
        obtain ⟨y22, hy22⟩ : ∃ z : Int32, z = pj_fi G20 2 4 := ⟨_, rfl⟩
        have ey22 : (pj_fi G20 2 4).toInt = y22.toInt := by rw [hy22]
        have ry22 : (-1 : Int) ≤ y22.toInt ∧ y22.toInt ≤ 80 := by rw [hy22]; exact iG20.2.1 2 4 (-1, 80) rfl
        show pj_X _ _ G20 79 [(6, .int y7), (0, .ref 27), (1, .ref 2), (2, .int lv), (3, .int dp), (4, .int v4), (5, .int v5)] [] _
        refine pj_X_of (fun r h => pj_R_to (G20, 82, [(5, .int (v5 + Int32.ofInt 1)), (6, .int y7), (0, .ref 27), (1, .ref 2), (2, .int lv), (3, .int dp), (4, .int v4)], [], 0, 0) 82 2 (fun _ => rfl) h) ?_
        obtain ⟨z23, hz23⟩ : ∃ z : Int32, z = v5 + Int32.ofInt 1 := ⟨_, rfl⟩
        rw [← hz23]
        rw [pj_nm_e]
        have fz23_0 : z23.toInt = v5.toInt + (Int32.ofInt 1).toInt := by rw [hz23]; exact pj_addI (by have := pj_i32 v5; have := pj_i32 (Int32.ofInt 1); omega) (by have := pj_i32 v5; have := pj_i32 (Int32.ofInt 1); omega)
        refine pj_X_of (fun r h => pj_R_to (G20, 36, [(5, .int z23), (6, .int y7), (0, .ref 27), (1, .ref 2), (2, .int lv), (3, .int dp), (4, .int v4)], [], 0, 0) 36 2 (fun _ => rfl) h) ?_
        have q24 : (pj_fi G20 2 4).toInt = y22.toInt := by rw [show pj_fi G20 2 4 = y22 from hy22.symm]
        exact pj_X_sub [(0, .ref 27), (1, .ref 2), (2, .int lv), (3, .int dp), (4, .int v4), (5, .int z23)] (show List.Nodup [0, 1, 2, 3, 4, 5] by decide) ⟨rfl, rfl, rfl, rfl, rfl, rfl, trivial⟩ (ih G20 iG20 kG20 v4 z23 ⟨by omega, by omega⟩ ⟨by omega, by omega⟩ (by omega) (pr_kc_t (pr_kc_t (pr_kc_t x1_ (pr_kc_k jG8 rfl)) eG15.2) eG20) (by omega))
      | false =>
        rw [pj_cF]
        have ub11 := pj_u_neF b11
        refine pj_X_of (fun r h => pj_R_icF rfl b11 h) ?_
        have q25 : (pj_fi G8 2 4).toInt = y10.toInt := by rw [show pj_fi G8 2 4 = y10 from hy10.symm]
        exact pj_X_rt rfl rfl ⟨rfl, iG8, kG8, (fun H hH => by subst hH; exact (⟨by omega, (pr_kc_t x1_ (pr_kc_k jG8 rfl))⟩)), rfl⟩
theorem ct_62_0_0x (G0 : pj_G) (hI : pj_Inv G0) (lv : Int32) (dp : Int32) (rlv : (0 : Int) ≤ lv.toInt ∧ lv.toInt ≤ 0) (rdp : (0 : Int) ≤ dp.toInt ∧ dp.toInt ≤ 0) : pj_Y 46 62 [.ref 27, .ref 2, .int lv, .int dp] G0 (fun v' G' => v' = none ∧ pj_Inv G' ∧ pj_kpt kc_62_0_0x G0 G' ∧ (∀ H, G0 = H → (((¬ (pj_fi H 2 4).toInt = -1 → (pj_fi G' 2 4).toInt = (pj_fi H 2 4).toInt)) ∧ (pr_kc H G'))) ∧ (G' = F_62_0_0x G0 lv dp)) := by
  have c0_ : ((Int16.ofInt 3000).toInt32).toInt = 3000 := by decide
  have c1_ : (Int32.ofInt (-1)).toInt = -1 := by decide
  have c2_ : (Int32.ofInt 0).toInt = 0 := by decide
  have c3_ : (Int32.ofInt 1).toInt = 1 := by decide
  have c4_ : (Int32.ofInt 2).toInt = 2 := by decide
  refine pj_Y_X (M := pj_m62) rfl rfl (Nat.le_of_ble_eq_true rfl) ?_
  have hK : pj_kpt kc_62_0_0x G0 G0 := pj_kpt_r _ _
  show pj_X _ _ G0 0 [(0, .ref 27), (1, .ref 2), (2, .int lv), (3, .int dp)] [] _
  rw [F_62_0_0x_e]
  obtain ⟨y26, hy26⟩ : ∃ z : Int32, z = pj_fi G0 2 4 := ⟨_, rfl⟩
  have ey26 : (pj_fi G0 2 4).toInt = y26.toInt := by rw [hy26]
  have ry26 : (-1 : Int) ≤ y26.toInt ∧ y26.toInt ≤ 80 := by rw [hy26]; exact hI.2.1 2 4 (-1, 80) rfl
  refine pj_X_of (fun r h => pj_R_to (G0, 2, [(0, .ref 27), (1, .ref 2), (2, .int lv), (3, .int dp)], [.int (Int32.ofInt 2), .int lv], 0, 0) 2 3 (fun _ => rfl) h) ?_
  refine pj_X_of (fun r h => pj_R_icT 12 rfl rfl (pj_b_leT (by omega)) h) ?_
  refine pj_X_of (fun r h => pj_R_to (G0, 17, [(0, .ref 27), (1, .ref 2), (2, .int lv), (3, .int dp)], [.int (lv + (Int32.ofInt 1)), .ref 2, .ref 27], 0, 0) 17 6 (fun _ => rfl) h) ?_
  obtain ⟨z27, hz27⟩ : ∃ z : Int32, z = lv + (Int32.ofInt 1) := ⟨_, rfl⟩
  refine pj_X_eqi hz27.symm ?_
  rw [← hz27, pj_nm_e]
  have fz27_0 : z27.toInt = lv.toInt + (Int32.ofInt 1).toInt := by rw [hz27]; exact pj_addI (by have := pj_i32 lv; have := pj_i32 (Int32.ofInt 1); omega) (by have := pj_i32 lv; have := pj_i32 (Int32.ofInt 1); omega)
  refine pj_X_of (fun r h => pj_R_to (G0, 18, [(0, .ref 27), (1, .ref 2), (2, .int lv), (3, .int dp)], [.int dp, .int z27, .ref 2, .ref 27], 0, 0) 18 2 (fun _ => rfl) h) ?_
  have q28 : (pj_fi G0 2 4).toInt = y26.toInt := by rw [show pj_fi G0 2 4 = y26 from hy26.symm]
  refine pj_X_ca (vs := [.ref 27, .ref 2, .int z27, .int dp]) rfl (fun _ => rfl) ⟨Nat.le_of_ble_eq_true rfl, Nat.le_of_ble_eq_true rfl, pj_T_rcv hI rfl⟩ ⟨rfl, rfl⟩ (pj_Y_up (by decide) (ct_62_1_0x G0 hI z27 dp ⟨by omega, by omega⟩ ⟨by omega, by omega⟩)) ?_
  rintro _ G30 ⟨rfl, iG30, jG30, eG30, fy29⟩
  replace eG30 := eG30 _ rfl
  rw [← fy29, pj_nm_e]
  have kG30 : pj_kpt kc_62_0_0x G0 G30 := pj_kpt_t hK (pj_kpt_s jG30 rfl)
  obtain ⟨y31, hy31⟩ : ∃ z : Int32, z = pj_fi G30 2 4 := ⟨_, rfl⟩
  have ey31 : (pj_fi G30 2 4).toInt = y31.toInt := by rw [hy31]
  have ry31 : (-1 : Int) ≤ y31.toInt ∧ y31.toInt ≤ 80 := by rw [hy31]; exact iG30.2.1 2 4 (-1, 80) rfl
  show pj_X _ _ G30 21 [(0, .ref 27), (1, .ref 2), (2, .int lv), (3, .int dp)] [] _
  refine pj_X_of (fun r h => pj_R_to (G30, 22, [(0, .ref 27), (1, .ref 2), (2, .int lv), (3, .int dp)], [.int lv], 0, 0) 22 2 (fun _ => rfl) h) ?_
  refine pj_X_of (fun r h => pj_R_ifF rfl (pj_b0_neF (by omega)) h) ?_
  refine pj_X_of (fun r h => pj_R_to (G30, 36, [(5, .int (Int32.ofInt 0)), (4, .int (Int32.ofInt 1)), (0, .ref 27), (1, .ref 2), (2, .int lv), (3, .int dp)], [], 0, 0) 36 6 (fun _ => rfl) h) ?_
  have q32 : (pj_fi G30 2 4).toInt = y31.toInt := by rw [show pj_fi G30 2 4 = y31 from hy31.symm]
  exact pj_X_sub [(0, .ref 27), (1, .ref 2), (2, .int lv), (3, .int dp), (4, .int (Int32.ofInt 1)), (5, .int (Int32.ofInt 0))] (show List.Nodup [0, 1, 2, 3, 4, 5] by decide) ⟨rfl, rfl, rfl, rfl, rfl, rfl, trivial⟩ ((lp_ct_62_0_0x G0 hI lv dp rlv rdp 41) G30 iG30 kG30 (Int32.ofInt 1) (Int32.ofInt 0) ⟨by omega, by omega⟩ ⟨by omega, by omega⟩ (by omega) eG30.2 (by omega))
theorem fr_62_0_0x (G0 : pj_G) (hI : pj_Inv G0) (lv : Int32) (dp : Int32) (rlv : (0 : Int) ≤ lv.toInt ∧ lv.toInt ≤ 0) (rdp : (0 : Int) ≤ dp.toInt ∧ dp.toInt ≤ 0) : pj_Inv (F_62_0_0x G0 lv dp) ∧ pj_kpt kc_62_0_0x G0 (F_62_0_0x G0 lv dp) ∧ (((¬ (pj_fi G0 2 4).toInt = -1 → (pj_fi (F_62_0_0x G0 lv dp) 2 4).toInt = (pj_fi G0 2 4).toInt)) ∧ (pr_kc G0 (F_62_0_0x G0 lv dp))) := by
  obtain ⟨v, G', -, -, i, j, x, e⟩ := ct_62_0_0x G0 hI lv dp rlv rdp
  rw [← e]
  exact ⟨i, j, x _ rfl⟩
def kc_58x : pj_KT := ([(2, 3), (2, 4), (27, 3)], [2, 27, 28, 29], [28, 29])
noncomputable def F_58x (G0 : pj_G) : pj_G := pj_nm (pj_wv G0 27 3 (.int (Int32.ofInt 0))) (fun G1 => pj_nm (F_80x G1) (fun y2 => cond (pj_c1 .eq y2 (Int32.ofInt (-1))) (G1) (pj_nm (F_62_0_0x G1 (Int32.ofInt 0) (Int32.ofInt 0)) (fun G5 => G5))))
theorem F_58x_e (G0 : pj_G) : F_58x G0 = pj_nm (pj_wv G0 27 3 (.int (Int32.ofInt 0))) (fun G1 => pj_nm (F_80x G1) (fun y2 => cond (pj_c1 .eq y2 (Int32.ofInt (-1))) (G1) (pj_nm (F_62_0_0x G1 (Int32.ofInt 0) (Int32.ofInt 0)) (fun G5 => G5)))) := rfl
theorem ct_58x (G0 : pj_G) (hI : pj_Inv G0) : pj_Y 47 58 [.ref 27, .ref 2] G0 (fun v' G' => v' = none ∧ pj_Inv G' ∧ pj_kpt kc_58x G0 G' ∧ (G' = F_58x G0)) := by
  have c0_ : (Int32.ofInt (-1)).toInt = -1 := by decide
  have c1_ : (Int32.ofInt 0).toInt = 0 := by decide
  refine pj_Y_X (M := pj_m58) rfl rfl (Nat.le_of_ble_eq_true rfl) ?_
  have hK : pj_kpt kc_58x G0 G0 := pj_kpt_r _ _
  show pj_X _ _ G0 0 [(0, .ref 27), (1, .ref 2)] [] _
  rw [F_58x_e]
  refine pj_X_of (fun r h => pj_R_to (G0, 2, [(0, .ref 27), (1, .ref 2)], [.int (Int32.ofInt 0), .ref 27], 0, 0) 2 3 (fun _ => rfl) h) ?_
  refine pj_X_of (fun r h => pj_T_pf hI rfl rfl rfl h) ?_
  show pj_X _ _ (pj_wv G0 27 3 (.int (Int32.ofInt 0))) 5 [(0, .ref 27), (1, .ref 2)] [] _
  obtain ⟨G1, hG1⟩ : ∃ H, H = pj_wv G0 27 3 (.int (Int32.ofInt 0)) := ⟨_, rfl⟩
  have iG1 : pj_Inv G1 := by rw [hG1]; exact pj_Inv_wi hI (ci := 7) rfl (fun q hq => by cases hq; exact ⟨by show (0 : Int) ≤ _; omega, by show _ ≤ (40 : Int); omega⟩)
  have kG1 : pj_kpt kc_58x G0 G1 := by rw [hG1]; exact pj_kpt_v hK rfl
  rw [← hG1]
  rw [pj_nm_e]
  refine pj_X_of (fun r h => pj_R_to (G1, 6, [(0, .ref 27), (1, .ref 2)], [.ref 2], 0, 0) 6 2 (fun _ => rfl) h) ?_
  refine pj_X_ca (vs := [.ref 2]) rfl (fun _ => rfl) ⟨Nat.le_of_ble_eq_true rfl, Nat.le_of_ble_eq_true rfl, pj_T_rcv iG1 rfl⟩ ⟨rfl, rfl⟩ (pj_Y_up (by decide) (ct_80x G1 iG1)) ?_
  rintro _ _ ⟨y2, rfl, rfl, ry2, ey2, fy2⟩
  replace ey2 := ey2 _ rfl
  rw [← fy2, pj_nm_e]
  show pj_X _ _ G1 9 [(0, .ref 27), (1, .ref 2)] [.int y2] _
  refine pj_X_of (fun r h => pj_R_to (G1, 10, [(0, .ref 27), (1, .ref 2)], [.int (Int32.ofInt (-1)), .int y2], 0, 0) 10 2 (fun _ => rfl) h) ?_
  cases b3 : pj_c1 .eq y2 (Int32.ofInt (-1)) with
  | true =>
    rw [pj_cT]
    have ub3 := pj_u_eqT b3
    refine pj_X_of (fun r h => pj_R_icT 20 rfl rfl b3 h) ?_
    exact pj_X_rt rfl rfl ⟨rfl, iG1, kG1, rfl⟩
  | false =>
    rw [pj_cF]
    have ub3 := pj_u_eqF b3
    refine pj_X_of (fun r h => pj_R_icF rfl b3 h) ?_
    refine pj_X_of (fun r h => pj_R_to (G1, 17, [(0, .ref 27), (1, .ref 2)], [.int (Int32.ofInt 0), .int (Int32.ofInt 0), .ref 2, .ref 27], 0, 0) 17 5 (fun _ => rfl) h) ?_
    refine pj_X_ca (vs := [.ref 27, .ref 2, .int (Int32.ofInt 0), .int (Int32.ofInt 0)]) rfl (fun _ => rfl) ⟨Nat.le_of_ble_eq_true rfl, Nat.le_of_ble_eq_true rfl, pj_T_rcv iG1 rfl⟩ ⟨rfl, rfl⟩ (pj_Y_up (by decide) (ct_62_0_0x G1 iG1 (Int32.ofInt 0) (Int32.ofInt 0) ⟨by omega, by omega⟩ ⟨by omega, by omega⟩)) ?_
    rintro _ G5 ⟨rfl, iG5, jG5, eG5, fy4⟩
    replace eG5 := eG5 _ rfl
    rw [← fy4, pj_nm_e]
    have kG5 : pj_kpt kc_58x G0 G5 := pj_kpt_t kG1 (pj_kpt_s jG5 rfl)
    show pj_X _ _ G5 20 [(0, .ref 27), (1, .ref 2)] [] _
    exact pj_X_rt rfl rfl ⟨rfl, iG5, kG5, rfl⟩
theorem fr_58x (G0 : pj_G) (hI : pj_Inv G0) : pj_Inv (F_58x G0) ∧ pj_kpt kc_58x G0 (F_58x G0) := by
  obtain ⟨v, G', -, -, i, j, e⟩ := ct_58x G0 hI 
  rw [← e]
  exact ⟨i, j⟩
