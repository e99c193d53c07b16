noncomputable def F_80x (G0 : pj_G) : Int32 := pj_nm (pj_fi G0 2 4) (fun y3 => cond (pj_c1 .ne y3 (Int32.ofInt (-1))) (Int32.ofInt (-1)) (pj_nm (pj_fi G0 2 3) (fun y2 => pj_nm (pj_fi G0 2 2) (fun y1 => cond (pj_c1 .ge y2 y1) (Int32.ofInt (-1)) (pj_nm (pj_ai G0 3 y2.toInt.toNat) (fun z12 => z12))))))
theorem F_80x_e (G0 : pj_G) : F_80x G0 = pj_nm (pj_fi G0 2 4) (fun y3 => cond (pj_c1 .ne y3 (Int32.ofInt (-1))) (Int32.ofInt (-1)) (pj_nm (pj_fi G0 2 3) (fun y2 => pj_nm (pj_fi G0 2 2) (fun y1 => cond (pj_c1 .ge y2 y1) (Int32.ofInt (-1)) (pj_nm (pj_ai G0 3 y2.toInt.toNat) (fun z12 => z12)))))) := rfl
theorem ct_80x (G0 : pj_G) (hI : pj_Inv G0) : pj_Y 1 80 [.ref 2] G0 (fun v' G' => ∃ y : Int32, v' = some (.int y) ∧ G0 = G' ∧ ((-1 : Int) ≤ y.toInt ∧ y.toInt ≤ 255) ∧ (∀ H, G0 = H → ((0 ≤ y.toInt → (pj_fi H 2 3).toInt < (pj_fi H 2 2).toInt ∧ (pj_fi H 2 3).toInt ≤ 79) ∧ ((((pj_fi H 2 4).toInt = -1 ∧ (pj_fi H 2 3).toInt < (pj_fi H 2 2).toInt) → y.toInt = (pj_ai H 3 (pj_fi H 2 3).toInt.toNat).toInt) ∧ (¬ ((pj_fi H 2 4).toInt = -1 ∧ (pj_fi H 2 3).toInt < (pj_fi H 2 2).toInt) → y.toInt = -1)))) ∧ (y = F_80x G0)) := by
  have c0_ : (Int32.ofInt (-1)).toInt = -1 := by decide
  refine pj_Y_X (M := pj_m80) rfl rfl (Nat.le_of_ble_eq_true rfl) ?_
  have hK : pj_kpt ([], [], []) G0 G0 := pj_kpt_r _ _
  show pj_X _ _ G0 0 [(0, .ref 2)] [] _
  rw [F_80x_e]
  obtain ⟨y1, hy1⟩ : ∃ z : Int32, z = pj_fi G0 2 2 := ⟨_, rfl⟩
  have ey1 : (pj_fi G0 2 2).toInt = y1.toInt := by rw [hy1]
  have ry1 : (0 : Int) ≤ y1.toInt ∧ y1.toInt ≤ 80 := by rw [hy1]; exact hI.2.1 2 2 (0, 80) rfl
  obtain ⟨y2, hy2⟩ : ∃ z : Int32, z = pj_fi G0 2 3 := ⟨_, rfl⟩
  have ey2 : (pj_fi G0 2 3).toInt = y2.toInt := by rw [hy2]
  have ry2 : (0 : Int) ≤ y2.toInt ∧ y2.toInt ≤ 80 := by rw [hy2]; exact hI.2.1 2 3 (0, 80) rfl
  obtain ⟨y3, hy3⟩ : ∃ z : Int32, z = pj_fi G0 2 4 := ⟨_, rfl⟩
  have ey3 : (pj_fi G0 2 4).toInt = y3.toInt := by rw [hy3]
  have ry3 : (-1 : Int) ≤ y3.toInt ∧ y3.toInt ≤ 80 := by rw [hy3]; exact hI.2.1 2 4 (-1, 80) rfl
  refine pj_X_of (fun r h => pj_R_to (G0, 1, [(0, .ref 2)], [.ref 2], 0, 0) 1 2 (fun _ => rfl) h) ?_
  refine pj_X_of (fun r h => pj_T_gi hI rfl rfl h) ?_
  show pj_X _ _ G0 4 [(0, .ref 2)] [.int (pj_fi G0 2 4)] _
  rw [← hy3, pj_nm_e]
  refine pj_X_of (fun r h => pj_R_to (G0, 5, [(0, .ref 2)], [.int (Int32.ofInt (-1)), .int y3], 0, 0) 5 2 (fun _ => rfl) h) ?_
  cases b4 : pj_c1 .ne y3 (Int32.ofInt (-1)) with
  | true =>
    rw [pj_cT]
    have ub4 := pj_u_neT b4
    refine pj_X_of (fun r h => pj_R_icT 31 rfl rfl b4 h) ?_
    refine pj_X_of (fun r h => pj_R_to (G0, 32, [(0, .ref 2)], [.int (Int32.ofInt (-1))], 0, 0) 32 2 (fun _ => rfl) h) ?_
    have q5 : (pj_fi G0 2 2).toInt = y1.toInt := by rw [show pj_fi G0 2 2 = y1 from hy1.symm]
    have q6 : (pj_fi G0 2 3).toInt = y2.toInt := by rw [show pj_fi G0 2 3 = y2 from hy2.symm]
    have q7 : (pj_fi G0 2 4).toInt = y3.toInt := by rw [show pj_fi G0 2 4 = y3 from hy3.symm]
    exact pj_X_rt rfl rfl ⟨_, rfl, rfl, ⟨by omega, by omega⟩, (fun H hH => by subst hH; exact (⟨by omega, by omega⟩)), rfl⟩
  | false =>
    rw [pj_cF]
    have ub4 := pj_u_neF b4
    refine pj_X_of (fun r h => pj_R_icF rfl b4 h) ?_
    refine pj_X_of (fun r h => pj_R_to (G0, 9, [(0, .ref 2)], [.ref 2], 0, 0) 9 2 (fun _ => rfl) h) ?_
    refine pj_X_of (fun r h => pj_T_gi hI rfl rfl h) ?_
    show pj_X _ _ G0 12 [(0, .ref 2)] [.int (pj_fi G0 2 3)] _
    rw [← hy2, pj_nm_e]
    refine pj_X_of (fun r h => pj_R_to (G0, 13, [(0, .ref 2)], [.ref 2, .int y2], 0, 0) 13 2 (fun _ => rfl) h) ?_
    refine pj_X_of (fun r h => pj_T_gi hI rfl rfl h) ?_
    show pj_X _ _ G0 16 [(0, .ref 2)] [.int (pj_fi G0 2 2), .int y2] _
    rw [← hy1, pj_nm_e]
    cases b8 : pj_c1 .ge y2 y1 with
    | true =>
      rw [pj_cT]
      have ub8 := pj_u_geT b8
      refine pj_X_of (fun r h => pj_R_icT 31 rfl rfl b8 h) ?_
      refine pj_X_of (fun r h => pj_R_to (G0, 32, [(0, .ref 2)], [.int (Int32.ofInt (-1))], 0, 0) 32 2 (fun _ => rfl) h) ?_
      have q9 : (pj_fi G0 2 2).toInt = y1.toInt := by rw [show pj_fi G0 2 2 = y1 from hy1.symm]
      have q10 : (pj_fi G0 2 3).toInt = y2.toInt := by rw [show pj_fi G0 2 3 = y2 from hy2.symm]
      have q11 : (pj_fi G0 2 4).toInt = y3.toInt := by rw [show pj_fi G0 2 4 = y3 from hy3.symm]
      exact pj_X_rt rfl rfl ⟨_, rfl, rfl, ⟨by omega, by omega⟩, (fun H hH => by subst hH; exact (⟨by omega, by omega⟩)), rfl⟩
    | false =>
      rw [pj_cF]
      have ub8 := pj_u_geF b8
      refine pj_X_of (fun r h => pj_R_icF rfl b8 h) ?_
      refine pj_X_of (fun r h => pj_R_to (G0, 20, [(0, .ref 2)], [.ref 2], 0, 0) 20 2 (fun _ => rfl) h) ?_
      refine pj_X_of (fun r h => pj_T_gr hI rfl rfl rfl h) ?_
      refine pj_X_of (fun r h => pj_R_to (G0, 24, [(0, .ref 2)], [.ref 2, .ref 3], 0, 0) 24 2 (fun _ => rfl) h) ?_
      refine pj_X_of (fun r h => pj_T_gi hI rfl rfl h) ?_
      show pj_X _ _ G0 27 [(0, .ref 2)] [.int (pj_fi G0 2 3), .ref 3] _
      refine pj_X_eqi (show pj_fi G0 2 3 = y2 from hy2.symm) ?_
      refine pj_X_of (fun r h => pj_T_il hI rfl rfl (by omega) (by omega) h) ?_
      show pj_X _ _ G0 28 [(0, .ref 2)] [.int (pj_ai G0 3 y2.toInt.toNat)] _
      obtain ⟨z12, hz12⟩ : ∃ z : Int32, z = pj_ai G0 3 y2.toInt.toNat := ⟨_, rfl⟩
      refine pj_X_eqi hz12.symm ?_
      rw [← hz12, pj_nm_e]
      have ez12 : (pj_ai G0 3 y2.toInt.toNat).toInt = z12.toInt := by rw [hz12]
      have fz12_0 : (0 : Int) ≤ z12.toInt ∧ z12.toInt ≤ 255 ∧ (z12.toInt ≤ 0 ∨ 0 ≤ z12.toInt) := by rw [hz12]; exact hI.2.2.1 3 (80, 0, 255, 0, 0) rfl _ (by show _ < 80; omega)
      have gz12 : (pj_ai G0 3 (pj_fi G0 2 3).toInt.toNat).toInt = z12.toInt := by rw [show pj_fi G0 2 3 = y2 from hy2.symm, hz12]
      refine pj_X_of (fun r h => pj_R_to (G0, 32, [(0, .ref 2)], [.int z12], 0, 0) 32 2 (fun _ => rfl) h) ?_
      have q13 : (pj_fi G0 2 2).toInt = y1.toInt := by rw [show pj_fi G0 2 2 = y1 from hy1.symm]
      have q14 : (pj_fi G0 2 3).toInt = y2.toInt := by rw [show pj_fi G0 2 3 = y2 from hy2.symm]
      have q15 : (pj_fi G0 2 4).toInt = y3.toInt := by rw [show pj_fi G0 2 4 = y3 from hy3.symm]
      exact pj_X_rt rfl rfl ⟨_, rfl, rfl, ⟨by omega, by omega⟩, (fun H hH => by subst hH; exact (⟨by omega, by omega⟩)), rfl⟩
theorem fr_80x (G0 : pj_G) (hI : pj_Inv G0) : ((-1 : Int) ≤ (F_80x G0).toInt ∧ (F_80x G0).toInt ≤ 255) ∧ ((0 ≤ (F_80x G0).toInt → (pj_fi G0 2 3).toInt < (pj_fi G0 2 2).toInt ∧ (pj_fi G0 2 3).toInt ≤ 79) ∧ ((((pj_fi G0 2 4).toInt = -1 ∧ (pj_fi G0 2 3).toInt < (pj_fi G0 2 2).toInt) → (F_80x G0).toInt = (pj_ai G0 3 (pj_fi G0 2 3).toInt.toNat).toInt) ∧ (¬ ((pj_fi G0 2 4).toInt = -1 ∧ (pj_fi G0 2 3).toInt < (pj_fi G0 2 2).toInt) → (F_80x G0).toInt = -1))) := by
  obtain ⟨v, G', -, y, -, rfl, r, x, e⟩ := ct_80x G0 hI 
  rw [← e]
  exact ⟨r, x _ rfl⟩
def kc_81x : pj_KT := ([(2, 4)], [2], [])
noncomputable def F_81x (G0 : pj_G) : pj_G := pj_nm (pj_fi G0 2 4) (fun y1 => cond (pj_c1 .ne y1 (Int32.ofInt (-1))) (G0) (pj_nm (pj_fi G0 2 3) (fun y3 => pj_nm (pj_wv G0 2 4 (.int y3)) (fun G8 => G8))))
theorem F_81x_e (G0 : pj_G) : F_81x G0 = pj_nm (pj_fi G0 2 4) (fun y1 => cond (pj_c1 .ne y1 (Int32.ofInt (-1))) (G0) (pj_nm (pj_fi G0 2 3) (fun y3 => pj_nm (pj_wv G0 2 4 (.int y3)) (fun G8 => G8)))) := rfl
theorem ct_81x (G0 : pj_G) (hI : pj_Inv G0) : pj_Y 1 81 [.ref 2] G0 (fun v' G' => v' = none ∧ pj_Inv G' ∧ pj_kpt kc_81x G0 G' ∧ (∀ H, G0 = H → (((pj_fi G' 2 4).toInt ≠ -1) ∧ (((pj_fi H 2 4).toInt = -1 → (pj_fi G' 2 4).toInt = (pj_fi H 2 3).toInt) ∧ (¬ (pj_fi H 2 4).toInt = -1 → (pj_fi G' 2 4).toInt = (pj_fi H 2 4).toInt)))) ∧ (G' = F_81x G0)) := by
  have c0_ : (Int32.ofInt (-1)).toInt = -1 := by decide
  refine pj_Y_X (M := pj_m81) rfl rfl (Nat.le_of_ble_eq_true rfl) ?_
  have hK : pj_kpt kc_81x G0 G0 := pj_kpt_r _ _
  show pj_X _ _ G0 0 [(0, .ref 2)] [] _
  rw [F_81x_e]
  obtain ⟨y1, hy1⟩ : ∃ z : Int32, z = pj_fi G0 2 4 := ⟨_, rfl⟩
  have ey1 : (pj_fi G0 2 4).toInt = y1.toInt := by rw [hy1]
  have ry1 : (-1 : Int) ≤ y1.toInt ∧ y1.toInt ≤ 80 := by rw [hy1]; exact hI.2.1 2 4 (-1, 80) rfl
  obtain ⟨y2, hy2⟩ : ∃ z : Int32, z = pj_fi G0 2 2 := ⟨_, rfl⟩
  have ey2 : (pj_fi G0 2 2).toInt = y2.toInt := by rw [hy2]
  have ry2 : (0 : Int) ≤ y2.toInt ∧ y2.toInt ≤ 80 := by rw [hy2]; exact hI.2.1 2 2 (0, 80) rfl
  obtain ⟨y3, hy3⟩ : ∃ z : Int32, z = pj_fi G0 2 3 := ⟨_, rfl⟩
  have ey3 : (pj_fi G0 2 3).toInt = y3.toInt := by rw [hy3]
  have ry3 : (0 : Int) ≤ y3.toInt ∧ y3.toInt ≤ 80 := by rw [hy3]; exact hI.2.1 2 3 (0, 80) rfl
  refine pj_X_of (fun r h => pj_R_to (G0, 1, [(0, .ref 2)], [.ref 2], 0, 0) 1 2 (fun _ => rfl) h) ?_
  refine pj_X_of (fun r h => pj_T_gi hI rfl rfl h) ?_
  show pj_X _ _ G0 4 [(0, .ref 2)] [.int (pj_fi G0 2 4)] _
  rw [← hy1, pj_nm_e]
  refine pj_X_of (fun r h => pj_R_to (G0, 5, [(0, .ref 2)], [.int (Int32.ofInt (-1)), .int y1], 0, 0) 5 2 (fun _ => rfl) h) ?_
  cases b4 : pj_c1 .ne y1 (Int32.ofInt (-1)) with
  | true =>
    rw [pj_cT]
    have ub4 := pj_u_neT b4
    refine pj_X_of (fun r h => pj_R_icT 16 rfl rfl b4 h) ?_
    have q5 : (pj_fi G0 2 4).toInt = y1.toInt := by rw [show pj_fi G0 2 4 = y1 from hy1.symm]
    have q6 : (pj_fi G0 2 2).toInt = y2.toInt := by rw [show pj_fi G0 2 2 = y2 from hy2.symm]
    have q7 : (pj_fi G0 2 3).toInt = y3.toInt := by rw [show pj_fi G0 2 3 = y3 from hy3.symm]
    exact pj_X_rt rfl rfl ⟨rfl, hI, hK, (fun H hH => by subst hH; exact (⟨by omega, by omega⟩)), rfl⟩
  | false =>
    rw [pj_cF]
    have ub4 := pj_u_neF b4
    refine pj_X_of (fun r h => pj_R_icF rfl b4 h) ?_
    refine pj_X_of (fun r h => pj_R_to (G0, 10, [(0, .ref 2)], [.ref 2, .ref 2], 0, 0) 10 3 (fun _ => rfl) h) ?_
    refine pj_X_of (fun r h => pj_T_gi hI rfl rfl h) ?_
    show pj_X _ _ G0 13 [(0, .ref 2)] [.int (pj_fi G0 2 3), .ref 2] _
    rw [← hy3, pj_nm_e]
    refine pj_X_of (fun r h => pj_T_pf hI rfl rfl rfl h) ?_
    show pj_X _ _ (pj_wv G0 2 4 (.int y3)) 16 [(0, .ref 2)] [] _
    obtain ⟨G8, hG8⟩ : ∃ H, H = pj_wv G0 2 4 (.int y3) := ⟨_, rfl⟩
    have iG8 : pj_Inv G8 := by rw [hG8]; exact pj_Inv_wi hI (ci := 9) rfl (fun q hq => by cases hq; exact ⟨by show (-1 : Int) ≤ _; omega, by show _ ≤ (80 : Int); omega⟩)
    have kG8 : pj_kpt kc_81x G0 G8 := by rw [hG8]; exact pj_kpt_v hK rfl
    rw [← hG8]
    rw [pj_nm_e]
    have q9 : (pj_fi G8 2 4).toInt = y3.toInt := by rw [show pj_fi G8 2 4 = y3 from by rw [hG8]; exact pj_fi_wi hI.1 (ci := 9) rfl _]
    have q10 : (pj_fi G8 2 2).toInt = y2.toInt := by rw [show pj_fi G8 2 2 = y2 from by rw [hG8, pj_fi_wv_ne _ _ _ _ _ _ (by decide)]; exact hy2.symm]
    have q11 : (pj_fi G8 2 3).toInt = y3.toInt := by rw [show pj_fi G8 2 3 = y3 from by rw [hG8, pj_fi_wv_ne _ _ _ _ _ _ (by decide)]; exact hy3.symm]
    exact pj_X_rt rfl rfl ⟨rfl, iG8, kG8, (fun H hH => by subst hH; exact (⟨by omega, by omega⟩)), rfl⟩
theorem fr_81x (G0 : pj_G) (hI : pj_Inv G0) : pj_Inv (F_81x G0) ∧ pj_kpt kc_81x G0 (F_81x G0) ∧ (((pj_fi (F_81x G0) 2 4).toInt ≠ -1) ∧ (((pj_fi G0 2 4).toInt = -1 → (pj_fi (F_81x G0) 2 4).toInt = (pj_fi G0 2 3).toInt) ∧ (¬ (pj_fi G0 2 4).toInt = -1 → (pj_fi (F_81x G0) 2 4).toInt = (pj_fi G0 2 4).toInt))) := by
  obtain ⟨v, G', -, -, i, j, x, e⟩ := ct_81x G0 hI 
  rw [← e]
  exact ⟨i, j, x _ rfl⟩
def kc_79x : pj_KT := ([(2, 2), (2, 3), (2, 4)], [2], [])
noncomputable def F_79x (G0 : pj_G) (n : Int32) : pj_G := pj_nm (pj_fi G0 2 1) (fun y4 => pj_nm ((if y4 < n then y4 else n)) (fun z5 => pj_nm (pj_wv G0 2 2 (.int z5)) (fun G6 => pj_nm (pj_wv G6 2 3 (.int (Int32.ofInt 0))) (fun G7 => pj_nm (pj_wv G7 2 4 (.int (Int32.ofInt (-1)))) (fun G8 => G8)))))
theorem F_79x_e (G0 : pj_G) (n : Int32) : F_79x G0 n = pj_nm (pj_fi G0 2 1) (fun y4 => pj_nm ((if y4 < n then y4 else n)) (fun z5 => pj_nm (pj_wv G0 2 2 (.int z5)) (fun G6 => pj_nm (pj_wv G6 2 3 (.int (Int32.ofInt 0))) (fun G7 => pj_nm (pj_wv G7 2 4 (.int (Int32.ofInt (-1)))) (fun G8 => G8))))) := rfl
theorem ct_79x (G0 : pj_G) (hI : pj_Inv G0) (n : Int32) (rn : (0 : Int) ≤ n.toInt ∧ n.toInt ≤ 80) : pj_Y 1 79 [.ref 2, .int n] G0 (fun v' G' => v' = none ∧ pj_Inv G' ∧ pj_kpt kc_79x G0 G' ∧ (∀ H, G0 = H → ((pj_fi G' 2 3).toInt = 0 ∧ (pj_fi G' 2 4).toInt = -1 ∧ ((pj_fi H 2 1).toInt ≤ n.toInt → (pj_fi G' 2 2).toInt = (pj_fi H 2 1).toInt) ∧ (n.toInt ≤ (pj_fi H 2 1).toInt → (pj_fi G' 2 2).toInt = n.toInt))) ∧ (G' = F_79x G0 n)) := by
  have c0_ : (Int32.ofInt (-1)).toInt = -1 := by decide
  have c1_ : (Int32.ofInt 0).toInt = 0 := by decide
  refine pj_Y_X (M := pj_m79) rfl rfl (Nat.le_of_ble_eq_true rfl) ?_
  have hK : pj_kpt kc_79x G0 G0 := pj_kpt_r _ _
  show pj_X _ _ G0 0 [(0, .ref 2), (1, .int n)] [] _
  rw [F_79x_e]
  obtain ⟨y1, hy1⟩ : ∃ z : Int32, z = pj_fi G0 2 2 := ⟨_, rfl⟩
  have ey1 : (pj_fi G0 2 2).toInt = y1.toInt := by rw [hy1]
  have ry1 : (0 : Int) ≤ y1.toInt ∧ y1.toInt ≤ 80 := by rw [hy1]; exact hI.2.1 2 2 (0, 80) rfl
  obtain ⟨y2, hy2⟩ : ∃ z : Int32, z = pj_fi G0 2 3 := ⟨_, rfl⟩
  have ey2 : (pj_fi G0 2 3).toInt = y2.toInt := by rw [hy2]
  have ry2 : (0 : Int) ≤ y2.toInt ∧ y2.toInt ≤ 80 := by rw [hy2]; exact hI.2.1 2 3 (0, 80) rfl
  obtain ⟨y3, hy3⟩ : ∃ z : Int32, z = pj_fi G0 2 4 := ⟨_, rfl⟩
  have ey3 : (pj_fi G0 2 4).toInt = y3.toInt := by rw [hy3]
  have ry3 : (-1 : Int) ≤ y3.toInt ∧ y3.toInt ≤ 80 := by rw [hy3]; exact hI.2.1 2 4 (-1, 80) rfl
  obtain ⟨y4, hy4⟩ : ∃ z : Int32, z = pj_fi G0 2 1 := ⟨_, rfl⟩
  have ey4 : (pj_fi G0 2 1).toInt = y4.toInt := by rw [hy4]
  have ry4 : (0 : Int) ≤ y4.toInt ∧ y4.toInt ≤ 80 := by rw [hy4]; exact hI.2.1 2 1 (0, 80) rfl
  refine pj_X_of (fun r h => pj_R_to (G0, 3, [(0, .ref 2), (1, .int n)], [.ref 2, .int n, .ref 2], 0, 0) 3 4 (fun _ => rfl) h) ?_
  refine pj_X_of (fun r h => pj_T_gi hI rfl rfl h) ?_
  show pj_X _ _ G0 6 [(0, .ref 2), (1, .int n)] [.int (pj_fi G0 2 1), .int n, .ref 2] _
  rw [← hy4, pj_nm_e]
  refine pj_X_of (fun r h => pj_R_mn (v := (if y4 < n then y4 else n)) rfl rfl rfl (Nat.le_of_ble_eq_true rfl) h) ?_
  show pj_X _ _ G0 9 [(0, .ref 2), (1, .int n)] [.int (if y4 < n then y4 else n), .ref 2] _
  obtain ⟨z5, hz5⟩ : ∃ z : Int32, z = (if y4 < n then y4 else n) := ⟨_, rfl⟩
  refine pj_X_eqi hz5.symm ?_
  rw [← hz5, pj_nm_e]
  have fz5_0 : z5.toInt ≤ n.toInt ∧ z5.toInt ≤ y4.toInt ∧ (z5.toInt = n.toInt ∨ z5.toInt = y4.toInt) := by rw [hz5]; exact pj_minI
  refine pj_X_of (fun r h => pj_T_pf hI rfl rfl rfl h) ?_
  show pj_X _ _ (pj_wv G0 2 2 (.int z5)) 12 [(0, .ref 2), (1, .int n)] [] _
  obtain ⟨G6, hG6⟩ : ∃ H, H = pj_wv G0 2 2 (.int z5) := ⟨_, rfl⟩
  have iG6 : pj_Inv G6 := by rw [hG6]; exact pj_Inv_wi hI (ci := 9) rfl (fun q hq => by cases hq; exact ⟨by show (0 : Int) ≤ _; omega, by show _ ≤ (80 : Int); omega⟩)
  have kG6 : pj_kpt kc_79x G0 G6 := by rw [hG6]; exact pj_kpt_v hK rfl
  rw [← hG6]
  rw [pj_nm_e]
  refine pj_X_of (fun r h => pj_R_to (G6, 14, [(0, .ref 2), (1, .int n)], [.int (Int32.ofInt 0), .ref 2], 0, 0) 14 3 (fun _ => rfl) h) ?_
  refine pj_X_of (fun r h => pj_T_pf iG6 rfl rfl rfl h) ?_
  show pj_X _ _ (pj_wv G6 2 3 (.int (Int32.ofInt 0))) 17 [(0, .ref 2), (1, .int n)] [] _
  obtain ⟨G7, hG7⟩ : ∃ H, H = pj_wv G6 2 3 (.int (Int32.ofInt 0)) := ⟨_, rfl⟩
  have iG7 : pj_Inv G7 := by rw [hG7]; exact pj_Inv_wi iG6 (ci := 9) rfl (fun q hq => by cases hq; exact ⟨by show (0 : Int) ≤ _; omega, by show _ ≤ (80 : Int); omega⟩)
  have kG7 : pj_kpt kc_79x G0 G7 := by rw [hG7]; exact pj_kpt_v kG6 rfl
  rw [← hG7]
  rw [pj_nm_e]
  refine pj_X_of (fun r h => pj_R_to (G7, 19, [(0, .ref 2), (1, .int n)], [.int (Int32.ofInt (-1)), .ref 2], 0, 0) 19 3 (fun _ => rfl) h) ?_
  refine pj_X_of (fun r h => pj_T_pf iG7 rfl rfl rfl h) ?_
  show pj_X _ _ (pj_wv G7 2 4 (.int (Int32.ofInt (-1)))) 22 [(0, .ref 2), (1, .int n)] [] _
  obtain ⟨G8, hG8⟩ : ∃ H, H = pj_wv G7 2 4 (.int (Int32.ofInt (-1))) := ⟨_, rfl⟩
  have iG8 : pj_Inv G8 := by rw [hG8]; exact pj_Inv_wi iG7 (ci := 9) rfl (fun q hq => by cases hq; exact ⟨by show (-1 : Int) ≤ _; omega, by show _ ≤ (80 : Int); omega⟩)
  have kG8 : pj_kpt kc_79x G0 G8 := by rw [hG8]; exact pj_kpt_v kG7 rfl
  rw [← hG8]
  rw [pj_nm_e]
  have q9 : (pj_fi G8 2 2).toInt = z5.toInt := by rw [show pj_fi G8 2 2 = z5 from by rw [hG8, pj_fi_wv_ne _ _ _ _ _ _ (by decide)]; exact (by rw [hG7, pj_fi_wv_ne _ _ _ _ _ _ (by decide)]; exact (by rw [hG6]; exact pj_fi_wi hI.1 (ci := 9) rfl _))]
  have q10 : (pj_fi G8 2 3).toInt = (Int32.ofInt 0).toInt := by rw [show pj_fi G8 2 3 = Int32.ofInt 0 from by rw [hG8, pj_fi_wv_ne _ _ _ _ _ _ (by decide)]; exact (by rw [hG7]; exact pj_fi_wi iG6.1 (ci := 9) rfl _)]
  have q11 : (pj_fi G8 2 4).toInt = (Int32.ofInt (-1)).toInt := by rw [show pj_fi G8 2 4 = Int32.ofInt (-1) from by rw [hG8]; exact pj_fi_wi iG7.1 (ci := 9) rfl _]
  have q12 : (pj_fi G8 2 1).toInt = y4.toInt := by rw [show pj_fi G8 2 1 = y4 from by rw [hG8, pj_fi_wv_ne _ _ _ _ _ _ (by decide)]; exact (by rw [hG7, pj_fi_wv_ne _ _ _ _ _ _ (by decide)]; exact (by rw [hG6, pj_fi_wv_ne _ _ _ _ _ _ (by decide)]; exact hy4.symm))]
  exact pj_X_rt rfl rfl ⟨rfl, iG8, kG8, (fun H hH => by subst hH; exact (by omega)), rfl⟩
theorem fr_79x (G0 : pj_G) (hI : pj_Inv G0) (n : Int32) (rn : (0 : Int) ≤ n.toInt ∧ n.toInt ≤ 80) : pj_Inv (F_79x G0 n) ∧ pj_kpt kc_79x G0 (F_79x G0 n) ∧ ((pj_fi (F_79x G0 n) 2 3).toInt = 0 ∧ (pj_fi (F_79x G0 n) 2 4).toInt = -1 ∧ ((pj_fi G0 2 1).toInt ≤ n.toInt → (pj_fi (F_79x G0 n) 2 2).toInt = (pj_fi G0 2 1).toInt) ∧ (n.toInt ≤ (pj_fi G0 2 1).toInt → (pj_fi (F_79x G0 n) 2 2).toInt = n.toInt)) := by
  obtain ⟨v, G', -, -, i, j, x, e⟩ := ct_79x G0 hI n rn
  rw [← e]
  exact ⟨i, j, x _ rfl⟩
def kc_82x : pj_KT := ([(2, 3)], [2], [])
noncomputable def F_82x (G0 : pj_G) (g : Int32) : Int32 × pj_G := pj_nm (F_80x G0) (fun y7 => cond (pj_c1 .eq y7 g) (pj_nm (pj_fi G0 2 3) (fun y2 => pj_nm (y2 + (Int32.ofInt 1)) (fun z9 => pj_nm (pj_wv G0 2 3 (.int z9)) (fun G10 => (Int32.ofInt 1, G10))))) ((Int32.ofInt 0, G0)))
theorem F_82x_e (G0 : pj_G) (g : Int32) : F_82x G0 g = pj_nm (F_80x G0) (fun y7 => cond (pj_c1 .eq y7 g) (pj_nm (pj_fi G0 2 3) (fun y2 => pj_nm (y2 + (Int32.ofInt 1)) (fun z9 => pj_nm (pj_wv G0 2 3 (.int z9)) (fun G10 => (Int32.ofInt 1, G10))))) ((Int32.ofInt 0, G0))) := rfl
theorem ct_82x (G0 : pj_G) (hI : pj_Inv G0) (g : Int32) (rg : (0 : Int) ≤ g.toInt ∧ g.toInt ≤ 255) : pj_Y 2 82 [.ref 2, .int g] G0 (fun v' G' => ∃ y : Int32, v' = some (.int y) ∧ pj_Inv G' ∧ pj_kpt kc_82x G0 G' ∧ ((0 : Int) ≤ y.toInt ∧ y.toInt ≤ 1) ∧ (∀ H, G0 = H → ((((pj_fi H 2 4).toInt = -1 ∧ (pj_fi H 2 3).toInt < (pj_fi H 2 2).toInt ∧ (pj_ai H 3 (pj_fi H 2 3).toInt.toNat).toInt = g.toInt) → y.toInt = 1 ∧ (pj_fi G' 2 3).toInt = (pj_fi H 2 3).toInt + 1) ∧ (¬ ((pj_fi H 2 4).toInt = -1 ∧ (pj_fi H 2 3).toInt < (pj_fi H 2 2).toInt ∧ (pj_ai H 3 (pj_fi H 2 3).toInt.toNat).toInt = g.toInt) → y.toInt = 0 ∧ (pj_fi G' 2 3).toInt = (pj_fi H 2 3).toInt) ∧ (pj_fi G' 2 4).toInt = (pj_fi H 2 4).toInt)) ∧ ((y, G') = F_82x G0 g)) := by
  have c0_ : (Int32.ofInt 0).toInt = 0 := by decide
  have c1_ : (Int32.ofInt 1).toInt = 1 := by decide
  refine pj_Y_X (M := pj_m82) rfl rfl (Nat.le_of_ble_eq_true rfl) ?_
  have hK : pj_kpt kc_82x G0 G0 := pj_kpt_r _ _
  show pj_X _ _ G0 0 [(0, .ref 2), (1, .int g)] [] _
  rw [F_82x_e]
  obtain ⟨y1, hy1⟩ : ∃ z : Int32, z = pj_fi G0 2 2 := ⟨_, rfl⟩
  have ey1 : (pj_fi G0 2 2).toInt = y1.toInt := by rw [hy1]
  have ry1 : (0 : Int) ≤ y1.toInt ∧ y1.toInt ≤ 80 := by rw [hy1]; exact hI.2.1 2 2 (0, 80) rfl
  obtain ⟨y2, hy2⟩ : ∃ z : Int32, z = pj_fi G0 2 3 := ⟨_, rfl⟩
  have ey2 : (pj_fi G0 2 3).toInt = y2.toInt := by rw [hy2]
  have ry2 : (0 : Int) ≤ y2.toInt ∧ y2.toInt ≤ 80 := by rw [hy2]; exact hI.2.1 2 3 (0, 80) rfl
  obtain ⟨y3, hy3⟩ : ∃ z : Int32, z = pj_fi G0 2 4 := ⟨_, rfl⟩
  have ey3 : (pj_fi G0 2 4).toInt = y3.toInt := by rw [hy3]
  have ry3 : (-1 : Int) ≤ y3.toInt ∧ y3.toInt ≤ 80 := by rw [hy3]; exact hI.2.1 2 4 (-1, 80) rfl
  refine pj_X_of (fun r h => pj_R_to (G0, 1, [(0, .ref 2), (1, .int g)], [.ref 2], 0, 0) 1 2 (fun _ => rfl) h) ?_
  have q4 : (pj_fi G0 2 2).toInt = y1.toInt := by rw [show pj_fi G0 2 2 = y1 from hy1.symm]
  have q5 : (pj_fi G0 2 3).toInt = y2.toInt := by rw [show pj_fi G0 2 3 = y2 from hy2.symm]
  have q6 : (pj_fi G0 2 4).toInt = y3.toInt := by rw [show pj_fi G0 2 4 = y3 from hy3.symm]
  refine pj_X_ca (vs := [.ref 2]) rfl (fun _ => rfl) ⟨Nat.le_of_ble_eq_true rfl, Nat.le_of_ble_eq_true rfl, pj_T_rcv hI rfl⟩ ⟨rfl, rfl⟩ (pj_Y_up (by decide) (ct_80x G0 hI)) ?_
  rintro _ _ ⟨y7, rfl, rfl, ry7, ey7, fy7⟩
  replace ey7 := ey7 _ rfl
  rw [← fy7, pj_nm_e]
  show pj_X _ _ G0 4 [(0, .ref 2), (1, .int g)] [.int y7] _
  refine pj_X_of (fun r h => pj_R_to (G0, 5, [(0, .ref 2), (1, .int g)], [.int g, .int y7], 0, 0) 5 2 (fun _ => rfl) h) ?_
  cases b8 : pj_c1 .eq y7 g with
  | true =>
    rw [pj_cT]
    have ub8 := pj_u_eqT b8
    refine pj_X_of (fun r h => pj_R_icT 10 rfl rfl b8 h) ?_
    refine pj_X_of (fun r h => pj_R_to (G0, 12, [(0, .ref 2), (1, .int g)], [.ref 2, .ref 2], 0, 0) 12 3 (fun _ => rfl) h) ?_
    refine pj_X_of (fun r h => pj_T_gi hI rfl rfl h) ?_
    show pj_X _ _ G0 15 [(0, .ref 2), (1, .int g)] [.int (pj_fi G0 2 3), .ref 2] _
    rw [← hy2, pj_nm_e]
    refine pj_X_of (fun r h => pj_R_to (G0, 17, [(0, .ref 2), (1, .int g)], [.int (y2 + (Int32.ofInt 1)), .ref 2], 0, 0) 17 3 (fun _ => rfl) h) ?_
    obtain ⟨z9, hz9⟩ : ∃ z : Int32, z = y2 + (Int32.ofInt 1) := ⟨_, rfl⟩
    refine pj_X_eqi hz9.symm ?_
    rw [← hz9, pj_nm_e]
    have fz9_0 : z9.toInt = y2.toInt + (Int32.ofInt 1).toInt := by rw [hz9]; exact pj_addI (by have := pj_i32 y2; have := pj_i32 (Int32.ofInt 1); omega) (by have := pj_i32 y2; have := pj_i32 (Int32.ofInt 1); omega)
    refine pj_X_of (fun r h => pj_T_pf hI rfl rfl rfl h) ?_
    show pj_X _ _ (pj_wv G0 2 3 (.int z9)) 20 [(0, .ref 2), (1, .int g)] [] _
    obtain ⟨G10, hG10⟩ : ∃ H, H = pj_wv G0 2 3 (.int z9) := ⟨_, rfl⟩
    have iG10 : pj_Inv G10 := by rw [hG10]; exact pj_Inv_wi hI (ci := 9) rfl (fun q hq => by cases hq; exact ⟨by show (0 : Int) ≤ _; omega, by show _ ≤ (80 : Int); omega⟩)
    have kG10 : pj_kpt kc_82x G0 G10 := by rw [hG10]; exact pj_kpt_v hK rfl
    rw [← hG10]
    rw [pj_nm_e]
    refine pj_X_of (fun r h => pj_R_to (G10, 21, [(0, .ref 2), (1, .int g)], [.int (Int32.ofInt 1)], 0, 0) 21 2 (fun _ => rfl) h) ?_
    have q11 : (pj_fi G10 2 2).toInt = y1.toInt := by rw [show pj_fi G10 2 2 = y1 from by rw [hG10, pj_fi_wv_ne _ _ _ _ _ _ (by decide)]; exact hy1.symm]
    have q12 : (pj_fi G10 2 3).toInt = z9.toInt := by rw [show pj_fi G10 2 3 = z9 from by rw [hG10]; exact pj_fi_wi hI.1 (ci := 9) rfl _]
    have q13 : (pj_fi G10 2 4).toInt = y3.toInt := by rw [show pj_fi G10 2 4 = y3 from by rw [hG10, pj_fi_wv_ne _ _ _ _ _ _ (by decide)]; exact hy3.symm]
    exact pj_X_rt rfl rfl ⟨_, rfl, iG10, kG10, ⟨by omega, by omega⟩, (fun H hH => by subst hH; exact (by omega)), rfl⟩
  | false =>
    rw [pj_cF]
    have ub8 := pj_u_eqF b8
    refine pj_X_of (fun r h => pj_R_icF rfl b8 h) ?_
    refine pj_X_of (fun r h => pj_R_to (G0, 9, [(0, .ref 2), (1, .int g)], [.int (Int32.ofInt 0)], 0, 0) 9 2 (fun _ => rfl) h) ?_
    have q14 : (pj_fi G0 2 2).toInt = y1.toInt := by rw [show pj_fi G0 2 2 = y1 from hy1.symm]
    have q15 : (pj_fi G0 2 3).toInt = y2.toInt := by rw [show pj_fi G0 2 3 = y2 from hy2.symm]
    have q16 : (pj_fi G0 2 4).toInt = y3.toInt := by rw [show pj_fi G0 2 4 = y3 from hy3.symm]
    exact pj_X_rt rfl rfl ⟨_, rfl, hI, hK, ⟨by omega, by omega⟩, (fun H hH => by subst hH; exact (by omega)), rfl⟩
theorem fr_82x (G0 : pj_G) (hI : pj_Inv G0) (g : Int32) (rg : (0 : Int) ≤ g.toInt ∧ g.toInt ≤ 255) : pj_Inv (F_82x G0 g).2 ∧ pj_kpt kc_82x G0 (F_82x G0 g).2 ∧ ((0 : Int) ≤ (F_82x G0 g).1.toInt ∧ (F_82x G0 g).1.toInt ≤ 1) ∧ ((((pj_fi G0 2 4).toInt = -1 ∧ (pj_fi G0 2 3).toInt < (pj_fi G0 2 2).toInt ∧ (pj_ai G0 3 (pj_fi G0 2 3).toInt.toNat).toInt = g.toInt) → (F_82x G0 g).1.toInt = 1 ∧ (pj_fi (F_82x G0 g).2 2 3).toInt = (pj_fi G0 2 3).toInt + 1) ∧ (¬ ((pj_fi G0 2 4).toInt = -1 ∧ (pj_fi G0 2 3).toInt < (pj_fi G0 2 2).toInt ∧ (pj_ai G0 3 (pj_fi G0 2 3).toInt.toNat).toInt = g.toInt) → (F_82x G0 g).1.toInt = 0 ∧ (pj_fi (F_82x G0 g).2 2 3).toInt = (pj_fi G0 2 3).toInt) ∧ (pj_fi (F_82x G0 g).2 2 4).toInt = (pj_fi G0 2 4).toInt) := by
  obtain ⟨v, G', -, y, -, i, j, r, x, e⟩ := ct_82x G0 hI g rg
  rw [← e]
  exact ⟨i, j, r, x _ rfl⟩
def kc_83x : pj_KT := ([(2, 3), (2, 4)], [2], [])
noncomputable def F_83x (G0 : pj_G) (lo : Int32) (hi : Int32) : Int32 × pj_G := pj_nm (F_80x G0) (fun y7 => cond (pj_c1 .lt y7 lo) (pj_nm (F_81x G0) (fun G13 => (Int32.ofInt 0, G13))) (cond (pj_c1 .le y7 hi) (pj_nm (pj_fi G0 2 3) (fun y3 => pj_nm (y3 + (Int32.ofInt 1)) (fun z23 => pj_nm (pj_wv G0 2 3 (.int z23)) (fun G24 => pj_nm (y7 - lo) (fun z25 => (z25, G24)))))) (pj_nm (F_81x G0) (fun G33 => (Int32.ofInt 0, G33)))))
theorem F_83x_e (G0 : pj_G) (lo : Int32) (hi : Int32) : F_83x G0 lo hi = pj_nm (F_80x G0) (fun y7 => cond (pj_c1 .lt y7 lo) (pj_nm (F_81x G0) (fun G13 => (Int32.ofInt 0, G13))) (cond (pj_c1 .le y7 hi) (pj_nm (pj_fi G0 2 3) (fun y3 => pj_nm (y3 + (Int32.ofInt 1)) (fun z23 => pj_nm (pj_wv G0 2 3 (.int z23)) (fun G24 => pj_nm (y7 - lo) (fun z25 => (z25, G24)))))) (pj_nm (F_81x G0) (fun G33 => (Int32.ofInt 0, G33))))) := rfl
theorem ct_83x (G0 : pj_G) (hI : pj_Inv G0) (lo : Int32) (hi : Int32) (rlo : (0 : Int) ≤ lo.toInt ∧ lo.toInt ≤ 255) (rhi : (-1 : Int) ≤ hi.toInt ∧ hi.toInt ≤ 255) : pj_Y 2 83 [.ref 2, .int lo, .int hi] G0 (fun v' G' => ∃ y : Int32, v' = some (.int y) ∧ pj_Inv G' ∧ pj_kpt kc_83x G0 G' ∧ ((0 : Int) ≤ y.toInt ∧ y.toInt ≤ 255) ∧ (∀ H, G0 = H → (((y.toInt = 0 ∨ y.toInt ≤ hi.toInt - lo.toInt) ∧ ((pj_fi H 2 4).toInt ≠ -1 → (pj_fi G' 2 4).toInt ≠ -1)) ∧ ((((pj_fi H 2 4).toInt = -1 ∧ (pj_fi H 2 3).toInt < (pj_fi H 2 2).toInt ∧ lo.toInt ≤ (pj_ai H 3 (pj_fi H 2 3).toInt.toNat).toInt ∧ (pj_ai H 3 (pj_fi H 2 3).toInt.toNat).toInt ≤ hi.toInt) → y.toInt = (pj_ai H 3 (pj_fi H 2 3).toInt.toNat).toInt - lo.toInt ∧ (pj_fi G' 2 3).toInt = (pj_fi H 2 3).toInt + 1 ∧ (pj_fi G' 2 4).toInt = -1) ∧ (¬ ((pj_fi H 2 4).toInt = -1 ∧ (pj_fi H 2 3).toInt < (pj_fi H 2 2).toInt ∧ lo.toInt ≤ (pj_ai H 3 (pj_fi H 2 3).toInt.toNat).toInt ∧ (pj_ai H 3 (pj_fi H 2 3).toInt.toNat).toInt ≤ hi.toInt) → y.toInt = 0 ∧ (pj_fi G' 2 3).toInt = (pj_fi H 2 3).toInt ∧ ((pj_fi H 2 4).toInt = -1 → (pj_fi G' 2 4).toInt = (pj_fi H 2 3).toInt) ∧ (¬ (pj_fi H 2 4).toInt = -1 → (pj_fi G' 2 4).toInt = (pj_fi H 2 4).toInt))))) ∧ ((y, G') = F_83x G0 lo hi)) := by
  have c0_ : (Int32.ofInt 0).toInt = 0 := by decide
  have c1_ : (Int32.ofInt 1).toInt = 1 := by decide
  refine pj_Y_X (M := pj_m83) rfl rfl (Nat.le_of_ble_eq_true rfl) ?_
  have hK : pj_kpt kc_83x G0 G0 := pj_kpt_r _ _
  show pj_X _ _ G0 0 [(0, .ref 2), (1, .int lo), (2, .int hi)] [] _
  rw [F_83x_e]
  obtain ⟨y1, hy1⟩ : ∃ z : Int32, z = pj_fi G0 2 4 := ⟨_, rfl⟩
  have ey1 : (pj_fi G0 2 4).toInt = y1.toInt := by rw [hy1]
  have ry1 : (-1 : Int) ≤ y1.toInt ∧ y1.toInt ≤ 80 := by rw [hy1]; exact hI.2.1 2 4 (-1, 80) rfl
  obtain ⟨y2, hy2⟩ : ∃ z : Int32, z = pj_fi G0 2 2 := ⟨_, rfl⟩
  have ey2 : (pj_fi G0 2 2).toInt = y2.toInt := by rw [hy2]
  have ry2 : (0 : Int) ≤ y2.toInt ∧ y2.toInt ≤ 80 := by rw [hy2]; exact hI.2.1 2 2 (0, 80) rfl
  obtain ⟨y3, hy3⟩ : ∃ z : Int32, z = pj_fi G0 2 3 := ⟨_, rfl⟩
  have ey3 : (pj_fi G0 2 3).toInt = y3.toInt := by rw [hy3]
  have ry3 : (0 : Int) ≤ y3.toInt ∧ y3.toInt ≤ 80 := by rw [hy3]; exact hI.2.1 2 3 (0, 80) rfl
  refine pj_X_of (fun r h => pj_R_to (G0, 1, [(0, .ref 2), (1, .int lo), (2, .int hi)], [.ref 2], 0, 0) 1 2 (fun _ => rfl) h) ?_
  have q4 : (pj_fi G0 2 4).toInt = y1.toInt := by rw [show pj_fi G0 2 4 = y1 from hy1.symm]
  have q5 : (pj_fi G0 2 2).toInt = y2.toInt := by rw [show pj_fi G0 2 2 = y2 from hy2.symm]
  have q6 : (pj_fi G0 2 3).toInt = y3.toInt := by rw [show pj_fi G0 2 3 = y3 from hy3.symm]
  refine pj_X_ca (vs := [.ref 2]) rfl (fun _ => rfl) ⟨Nat.le_of_ble_eq_true rfl, Nat.le_of_ble_eq_true rfl, pj_T_rcv hI rfl⟩ ⟨rfl, rfl⟩ (pj_Y_up (by decide) (ct_80x G0 hI)) ?_
  rintro _ _ ⟨y7, rfl, rfl, ry7, ey7, fy7⟩
  replace ey7 := ey7 _ rfl
  rw [← fy7, pj_nm_e]
  show pj_X _ _ G0 4 [(0, .ref 2), (1, .int lo), (2, .int hi)] [.int y7] _
  refine pj_X_of (fun r h => pj_R_to (G0, 7, [(3, .int y7), (0, .ref 2), (1, .int lo), (2, .int hi)], [.int lo, .int y7], 0, 0) 7 4 (fun _ => rfl) h) ?_
  cases b8 : pj_c1 .lt y7 lo with
  | true =>
    rw [pj_cT]
    have ub8 := pj_u_ltT b8
    refine pj_X_of (fun r h => pj_R_icT 15 rfl rfl b8 h) ?_
    refine pj_X_of (fun r h => pj_R_to (G0, 16, [(3, .int y7), (0, .ref 2), (1, .int lo), (2, .int hi)], [.ref 2], 0, 0) 16 2 (fun _ => rfl) h) ?_
    have q9 : (pj_fi G0 2 4).toInt = y1.toInt := by rw [show pj_fi G0 2 4 = y1 from hy1.symm]
    have q10 : (pj_fi G0 2 2).toInt = y2.toInt := by rw [show pj_fi G0 2 2 = y2 from hy2.symm]
    have q11 : (pj_fi G0 2 3).toInt = y3.toInt := by rw [show pj_fi G0 2 3 = y3 from hy3.symm]
    refine pj_X_ca (vs := [.ref 2]) rfl (fun _ => rfl) ⟨Nat.le_of_ble_eq_true rfl, Nat.le_of_ble_eq_true rfl, pj_T_rcv hI rfl⟩ ⟨rfl, rfl⟩ (pj_Y_up (by decide) (ct_81x G0 hI)) ?_
    rintro _ G13 ⟨rfl, iG13, jG13, eG13, fy12⟩
    replace eG13 := eG13 _ rfl
    rw [← fy12, pj_nm_e]
    have kG13 : pj_kpt kc_83x G0 G13 := pj_kpt_t hK (pj_kpt_s jG13 rfl)
    have q14 : (pj_fi G13 2 2).toInt = (pj_fi G0 2 2).toInt := by rw [jG13.1 (2, 2) (by decide)]
    have q15 : (pj_fi G13 2 3).toInt = (pj_fi G0 2 3).toInt := by rw [jG13.1 (2, 3) (by decide)]
    obtain ⟨y16, hy16⟩ : ∃ z : Int32, z = pj_fi G13 2 4 := ⟨_, rfl⟩
    have ey16 : (pj_fi G13 2 4).toInt = y16.toInt := by rw [hy16]
    have ry16 : (-1 : Int) ≤ y16.toInt ∧ y16.toInt ≤ 80 := by rw [hy16]; exact iG13.2.1 2 4 (-1, 80) rfl
    obtain ⟨y17, hy17⟩ : ∃ z : Int32, z = pj_fi G13 2 2 := ⟨_, rfl⟩
    have ey17 : (pj_fi G13 2 2).toInt = y17.toInt := by rw [hy17]
    have ry17 : (0 : Int) ≤ y17.toInt ∧ y17.toInt ≤ 80 := by rw [hy17]; exact iG13.2.1 2 2 (0, 80) rfl
    obtain ⟨y18, hy18⟩ : ∃ z : Int32, z = pj_fi G13 2 3 := ⟨_, rfl⟩
    have ey18 : (pj_fi G13 2 3).toInt = y18.toInt := by rw [hy18]
    have ry18 : (0 : Int) ≤ y18.toInt ∧ y18.toInt ≤ 80 := by rw [hy18]; exact iG13.2.1 2 3 (0, 80) rfl
    show pj_X _ _ G13 19 [(3, .int y7), (0, .ref 2), (1, .int lo), (2, .int hi)] [] _
    refine pj_X_of (fun r h => pj_R_to (G13, 20, [(3, .int y7), (0, .ref 2), (1, .int lo), (2, .int hi)], [.int (Int32.ofInt 0)], 0, 0) 20 2 (fun _ => rfl) h) ?_
    have q19 : (pj_fi G13 2 4).toInt = y16.toInt := by rw [show pj_fi G13 2 4 = y16 from hy16.symm]
    have q20 : (pj_fi G13 2 2).toInt = y17.toInt := by rw [show pj_fi G13 2 2 = y17 from hy17.symm]
    have q21 : (pj_fi G13 2 3).toInt = y18.toInt := by rw [show pj_fi G13 2 3 = y18 from hy18.symm]
    exact pj_X_rt rfl rfl ⟨_, rfl, iG13, kG13, ⟨by omega, by omega⟩, (fun H hH => by subst hH; exact (⟨⟨by omega, by omega⟩, by omega⟩)), rfl⟩
  | false =>
    rw [pj_cF]
    have ub8 := pj_u_ltF b8
    refine pj_X_of (fun r h => pj_R_icF rfl b8 h) ?_
    refine pj_X_of (fun r h => pj_R_to (G0, 12, [(3, .int y7), (0, .ref 2), (1, .int lo), (2, .int hi)], [.int hi, .int y7], 0, 0) 12 3 (fun _ => rfl) h) ?_
    cases b22 : pj_c1 .le y7 hi with
    | true =>
      rw [pj_cT]
      have ub22 := pj_u_leT b22
      refine pj_X_of (fun r h => pj_R_icT 21 rfl rfl b22 h) ?_
      refine pj_X_of (fun r h => pj_R_to (G0, 23, [(3, .int y7), (0, .ref 2), (1, .int lo), (2, .int hi)], [.ref 2, .ref 2], 0, 0) 23 3 (fun _ => rfl) h) ?_
      refine pj_X_of (fun r h => pj_T_gi hI rfl rfl h) ?_
      show pj_X _ _ G0 26 [(3, .int y7), (0, .ref 2), (1, .int lo), (2, .int hi)] [.int (pj_fi G0 2 3), .ref 2] _
      rw [← hy3, pj_nm_e]
      refine pj_X_of (fun r h => pj_R_to (G0, 28, [(3, .int y7), (0, .ref 2), (1, .int lo), (2, .int hi)], [.int (y3 + (Int32.ofInt 1)), .ref 2], 0, 0) 28 3 (fun _ => rfl) h) ?_
      obtain ⟨z23, hz23⟩ : ∃ z : Int32, z = y3 + (Int32.ofInt 1) := ⟨_, rfl⟩
      refine pj_X_eqi hz23.symm ?_
      rw [← hz23, pj_nm_e]
      have fz23_0 : z23.toInt = y3.toInt + (Int32.ofInt 1).toInt := by rw [hz23]; exact pj_addI (by have := pj_i32 y3; have := pj_i32 (Int32.ofInt 1); omega) (by have := pj_i32 y3; have := pj_i32 (Int32.ofInt 1); omega)
      refine pj_X_of (fun r h => pj_T_pf hI rfl rfl rfl h) ?_
      show pj_X _ _ (pj_wv G0 2 3 (.int z23)) 31 [(3, .int y7), (0, .ref 2), (1, .int lo), (2, .int hi)] [] _
      obtain ⟨G24, hG24⟩ : ∃ H, H = pj_wv G0 2 3 (.int z23) := ⟨_, rfl⟩
      have iG24 : pj_Inv G24 := by rw [hG24]; exact pj_Inv_wi hI (ci := 9) rfl (fun q hq => by cases hq; exact ⟨by show (0 : Int) ≤ _; omega, by show _ ≤ (80 : Int); omega⟩)
      have kG24 : pj_kpt kc_83x G0 G24 := by rw [hG24]; exact pj_kpt_v hK rfl
      rw [← hG24]
      rw [pj_nm_e]
      refine pj_X_of (fun r h => pj_R_to (G24, 34, [(3, .int y7), (0, .ref 2), (1, .int lo), (2, .int hi)], [.int (y7 - lo)], 0, 0) 34 4 (fun _ => rfl) h) ?_
      obtain ⟨z25, hz25⟩ : ∃ z : Int32, z = y7 - lo := ⟨_, rfl⟩
      refine pj_X_eqi hz25.symm ?_
      rw [← hz25, pj_nm_e]
      have fz25_0 : z25.toInt = y7.toInt - lo.toInt := by rw [hz25]; exact pj_subI (by have := pj_i32 y7; have := pj_i32 lo; omega) (by have := pj_i32 y7; have := pj_i32 lo; omega)
      have q26 : (pj_fi G24 2 4).toInt = y1.toInt := by rw [show pj_fi G24 2 4 = y1 from by rw [hG24, pj_fi_wv_ne _ _ _ _ _ _ (by decide)]; exact hy1.symm]
      have q27 : (pj_fi G24 2 2).toInt = y2.toInt := by rw [show pj_fi G24 2 2 = y2 from by rw [hG24, pj_fi_wv_ne _ _ _ _ _ _ (by decide)]; exact hy2.symm]
      have q28 : (pj_fi G24 2 3).toInt = z23.toInt := by rw [show pj_fi G24 2 3 = z23 from by rw [hG24]; exact pj_fi_wi hI.1 (ci := 9) rfl _]
      exact pj_X_rt rfl rfl ⟨_, rfl, iG24, kG24, ⟨by omega, by omega⟩, (fun H hH => by subst hH; exact (⟨⟨by omega, by omega⟩, by omega⟩)), rfl⟩
    | false =>
      rw [pj_cF]
      have ub22 := pj_u_leF b22
      refine pj_X_of (fun r h => pj_R_icF rfl b22 h) ?_
      refine pj_X_of (fun r h => pj_R_to (G0, 16, [(3, .int y7), (0, .ref 2), (1, .int lo), (2, .int hi)], [.ref 2], 0, 0) 16 2 (fun _ => rfl) h) ?_
      have q29 : (pj_fi G0 2 4).toInt = y1.toInt := by rw [show pj_fi G0 2 4 = y1 from hy1.symm]
      have q30 : (pj_fi G0 2 2).toInt = y2.toInt := by rw [show pj_fi G0 2 2 = y2 from hy2.symm]
      have q31 : (pj_fi G0 2 3).toInt = y3.toInt := by rw [show pj_fi G0 2 3 = y3 from hy3.symm]
      refine pj_X_ca (vs := [.ref 2]) rfl (fun _ => rfl) ⟨Nat.le_of_ble_eq_true rfl, Nat.le_of_ble_eq_true rfl, pj_T_rcv hI rfl⟩ ⟨rfl, rfl⟩ (pj_Y_up (by decide) (ct_81x G0 hI)) ?_
      rintro _ G33 ⟨rfl, iG33, jG33, eG33, fy32⟩
      replace eG33 := eG33 _ rfl
      rw [← fy32, pj_nm_e]
      have kG33 : pj_kpt kc_83x G0 G33 := pj_kpt_t hK (pj_kpt_s jG33 rfl)
      have q34 : (pj_fi G33 2 2).toInt = (pj_fi G0 2 2).toInt := by rw [jG33.1 (2, 2) (by decide)]
      have q35 : (pj_fi G33 2 3).toInt = (pj_fi G0 2 3).toInt := by rw [jG33.1 (2, 3) (by decide)]
      obtain ⟨y36, hy36⟩ : ∃ z : Int32, z = pj_fi G33 2 4 := ⟨_, rfl⟩
      have ey36 : (pj_fi G33 2 4).toInt = y36.toInt := by rw [hy36]
      have ry36 : (-1 : Int) ≤ y36.toInt ∧ y36.toInt ≤ 80 := by rw [hy36]; exact iG33.2.1 2 4 (-1, 80) rfl
      obtain ⟨y37, hy37⟩ : ∃ z : Int32, z = pj_fi G33 2 2 := ⟨_, rfl⟩
      have ey37 : (pj_fi G33 2 2).toInt = y37.toInt := by rw [hy37]
      have ry37 : (0 : Int) ≤ y37.toInt ∧ y37.toInt ≤ 80 := by rw [hy37]; exact iG33.2.1 2 2 (0, 80) rfl
      obtain ⟨y38, hy38⟩ : ∃ z : Int32, z = pj_fi G33 2 3 := ⟨_, rfl⟩
      have ey38 : (pj_fi G33 2 3).toInt = y38.toInt := by rw [hy38]
      have ry38 : (0 : Int) ≤ y38.toInt ∧ y38.toInt ≤ 80 := by rw [hy38]; exact iG33.2.1 2 3 (0, 80) rfl
      show pj_X _ _ G33 19 [(3, .int y7), (0, .ref 2), (1, .int lo), (2, .int hi)] [] _
      refine pj_X_of (fun r h => pj_R_to (G33, 20, [(3, .int y7), (0, .ref 2), (1, .int lo), (2, .int hi)], [.int (Int32.ofInt 0)], 0, 0) 20 2 (fun _ => rfl) h) ?_
      have q39 : (pj_fi G33 2 4).toInt = y36.toInt := by rw [show pj_fi G33 2 4 = y36 from hy36.symm]
      have q40 : (pj_fi G33 2 2).toInt = y37.toInt := by rw [show pj_fi G33 2 2 = y37 from hy37.symm]
      have q41 : (pj_fi G33 2 3).toInt = y38.toInt := by rw [show pj_fi G33 2 3 = y38 from hy38.symm]
      exact pj_X_rt rfl rfl ⟨_, rfl, iG33, kG33, ⟨by omega, by omega⟩, (fun H hH => by subst hH; exact (⟨⟨by omega, by omega⟩, by omega⟩)), rfl⟩
theorem fr_83x (G0 : pj_G) (hI : pj_Inv G0) (lo : Int32) (hi : Int32) (rlo : (0 : Int) ≤ lo.toInt ∧ lo.toInt ≤ 255) (rhi : (-1 : Int) ≤ hi.toInt ∧ hi.toInt ≤ 255) : pj_Inv (F_83x G0 lo hi).2 ∧ pj_kpt kc_83x G0 (F_83x G0 lo hi).2 ∧ ((0 : Int) ≤ (F_83x G0 lo hi).1.toInt ∧ (F_83x G0 lo hi).1.toInt ≤ 255) ∧ ((((F_83x G0 lo hi).1.toInt = 0 ∨ (F_83x G0 lo hi).1.toInt ≤ hi.toInt - lo.toInt) ∧ ((pj_fi G0 2 4).toInt ≠ -1 → (pj_fi (F_83x G0 lo hi).2 2 4).toInt ≠ -1)) ∧ ((((pj_fi G0 2 4).toInt = -1 ∧ (pj_fi G0 2 3).toInt < (pj_fi G0 2 2).toInt ∧ lo.toInt ≤ (pj_ai G0 3 (pj_fi G0 2 3).toInt.toNat).toInt ∧ (pj_ai G0 3 (pj_fi G0 2 3).toInt.toNat).toInt ≤ hi.toInt) → (F_83x G0 lo hi).1.toInt = (pj_ai G0 3 (pj_fi G0 2 3).toInt.toNat).toInt - lo.toInt ∧ (pj_fi (F_83x G0 lo hi).2 2 3).toInt = (pj_fi G0 2 3).toInt + 1 ∧ (pj_fi (F_83x G0 lo hi).2 2 4).toInt = -1) ∧ (¬ ((pj_fi G0 2 4).toInt = -1 ∧ (pj_fi G0 2 3).toInt < (pj_fi G0 2 2).toInt ∧ lo.toInt ≤ (pj_ai G0 3 (pj_fi G0 2 3).toInt.toNat).toInt ∧ (pj_ai G0 3 (pj_fi G0 2 3).toInt.toNat).toInt ≤ hi.toInt) → (F_83x G0 lo hi).1.toInt = 0 ∧ (pj_fi (F_83x G0 lo hi).2 2 3).toInt = (pj_fi G0 2 3).toInt ∧ ((pj_fi G0 2 4).toInt = -1 → (pj_fi (F_83x G0 lo hi).2 2 4).toInt = (pj_fi G0 2 3).toInt) ∧ (¬ (pj_fi G0 2 4).toInt = -1 → (pj_fi (F_83x G0 lo hi).2 2 4).toInt = (pj_fi G0 2 4).toInt)))) := by
  obtain ⟨v, G', -, y, -, i, j, r, x, e⟩ := ct_83x G0 hI lo hi rlo rhi
  rw [← e]
  exact ⟨i, j, r, x _ rfl⟩
noncomputable def F_85x (G0 : pj_G) : Int32 := pj_nm (F_80x G0) (fun y7 => cond (pj_c1 .lt y7 ((Int8.ofInt 48).toInt32)) (Int32.ofInt 0) (cond (pj_c1 .gt y7 ((Int8.ofInt 57).toInt32)) (Int32.ofInt 0) (Int32.ofInt 1)))
theorem F_85x_e (G0 : pj_G) : F_85x G0 = pj_nm (F_80x G0) (fun y7 => cond (pj_c1 .lt y7 ((Int8.ofInt 48).toInt32)) (Int32.ofInt 0) (cond (pj_c1 .gt y7 ((Int8.ofInt 57).toInt32)) (Int32.ofInt 0) (Int32.ofInt 1))) := rfl
theorem ct_85x (G0 : pj_G) (hI : pj_Inv G0) : pj_Y 2 85 [.ref 2] G0 (fun v' G' => ∃ y : Int32, v' = some (.int y) ∧ G0 = G' ∧ ((0 : Int) ≤ y.toInt ∧ y.toInt ≤ 1) ∧ (∀ H, G0 = H → ((((pj_fi H 2 4).toInt = -1 ∧ (pj_fi H 2 3).toInt < (pj_fi H 2 2).toInt ∧ 48 ≤ (pj_ai H 3 (pj_fi H 2 3).toInt.toNat).toInt ∧ (pj_ai H 3 (pj_fi H 2 3).toInt.toNat).toInt ≤ 57) → y.toInt = 1) ∧ (¬ ((pj_fi H 2 4).toInt = -1 ∧ (pj_fi H 2 3).toInt < (pj_fi H 2 2).toInt ∧ 48 ≤ (pj_ai H 3 (pj_fi H 2 3).toInt.toNat).toInt ∧ (pj_ai H 3 (pj_fi H 2 3).toInt.toNat).toInt ≤ 57) → y.toInt = 0))) ∧ (y = F_85x G0)) := by
  have c0_ : ((Int8.ofInt 48).toInt32).toInt = 48 := by decide
  have c1_ : ((Int8.ofInt 57).toInt32).toInt = 57 := by decide
  have c2_ : (Int32.ofInt 0).toInt = 0 := by decide
  have c3_ : (Int32.ofInt 1).toInt = 1 := by decide
  refine pj_Y_X (M := pj_m85) rfl rfl (Nat.le_of_ble_eq_true rfl) ?_
  have hK : pj_kpt ([], [], []) G0 G0 := pj_kpt_r _ _
  show pj_X _ _ G0 0 [(0, .ref 2)] [] _
  rw [F_85x_e]
  obtain ⟨y1, hy1⟩ : ∃ z : Int32, z = pj_fi G0 2 2 := ⟨_, rfl⟩
  have ey1 : (pj_fi G0 2 2).toInt = y1.toInt := by rw [hy1]
  have ry1 : (0 : Int) ≤ y1.toInt ∧ y1.toInt ≤ 80 := by rw [hy1]; exact hI.2.1 2 2 (0, 80) rfl
  obtain ⟨y2, hy2⟩ : ∃ z : Int32, z = pj_fi G0 2 3 := ⟨_, rfl⟩
  have ey2 : (pj_fi G0 2 3).toInt = y2.toInt := by rw [hy2]
  have ry2 : (0 : Int) ≤ y2.toInt ∧ y2.toInt ≤ 80 := by rw [hy2]; exact hI.2.1 2 3 (0, 80) rfl
  obtain ⟨y3, hy3⟩ : ∃ z : Int32, z = pj_fi G0 2 4 := ⟨_, rfl⟩
  have ey3 : (pj_fi G0 2 4).toInt = y3.toInt := by rw [hy3]
  have ry3 : (-1 : Int) ≤ y3.toInt ∧ y3.toInt ≤ 80 := by rw [hy3]; exact hI.2.1 2 4 (-1, 80) rfl
  refine pj_X_of (fun r h => pj_R_to (G0, 1, [(0, .ref 2)], [.ref 2], 0, 0) 1 2 (fun _ => rfl) h) ?_
  have q4 : (pj_fi G0 2 2).toInt = y1.toInt := by rw [show pj_fi G0 2 2 = y1 from hy1.symm]
  have q5 : (pj_fi G0 2 3).toInt = y2.toInt := by rw [show pj_fi G0 2 3 = y2 from hy2.symm]
  have q6 : (pj_fi G0 2 4).toInt = y3.toInt := by rw [show pj_fi G0 2 4 = y3 from hy3.symm]
  refine pj_X_ca (vs := [.ref 2]) rfl (fun _ => rfl) ⟨Nat.le_of_ble_eq_true rfl, Nat.le_of_ble_eq_true rfl, pj_T_rcv hI rfl⟩ ⟨rfl, rfl⟩ (pj_Y_up (by decide) (ct_80x G0 hI)) ?_
  rintro _ _ ⟨y7, rfl, rfl, ry7, ey7, fy7⟩
  replace ey7 := ey7 _ rfl
  rw [← fy7, pj_nm_e]
  show pj_X _ _ G0 4 [(0, .ref 2)] [.int y7] _
  refine pj_X_of (fun r h => pj_R_to (G0, 6, [(0, .ref 2)], [.int ((Int8.ofInt 48).toInt32), .int y7], 0, 0) 6 2 (fun _ => rfl) h) ?_
  cases b8 : pj_c1 .lt y7 ((Int8.ofInt 48).toInt32) with
  | true =>
    rw [pj_cT]
    have ub8 := pj_u_ltT b8
    refine pj_X_of (fun r h => pj_R_icT 22 rfl rfl b8 h) ?_
    refine pj_X_of (fun r h => pj_R_to (G0, 23, [(0, .ref 2)], [.int (Int32.ofInt 0)], 0, 0) 23 2 (fun _ => rfl) h) ?_
    have q9 : (pj_fi G0 2 2).toInt = y1.toInt := by rw [show pj_fi G0 2 2 = y1 from hy1.symm]
    have q10 : (pj_fi G0 2 3).toInt = y2.toInt := by rw [show pj_fi G0 2 3 = y2 from hy2.symm]
    have q11 : (pj_fi G0 2 4).toInt = y3.toInt := by rw [show pj_fi G0 2 4 = y3 from hy3.symm]
    exact pj_X_rt rfl rfl ⟨_, rfl, rfl, ⟨by omega, by omega⟩, (fun H hH => by subst hH; exact (by omega)), rfl⟩
  | false =>
    rw [pj_cF]
    have ub8 := pj_u_ltF b8
    refine pj_X_of (fun r h => pj_R_icF rfl b8 h) ?_
    refine pj_X_of (fun r h => pj_R_to (G0, 10, [(0, .ref 2)], [.ref 2], 0, 0) 10 2 (fun _ => rfl) h) ?_
    have q12 : (pj_fi G0 2 2).toInt = y1.toInt := by rw [show pj_fi G0 2 2 = y1 from hy1.symm]
    have q13 : (pj_fi G0 2 3).toInt = y2.toInt := by rw [show pj_fi G0 2 3 = y2 from hy2.symm]
    have q14 : (pj_fi G0 2 4).toInt = y3.toInt := by rw [show pj_fi G0 2 4 = y3 from hy3.symm]
    refine pj_X_ca (vs := [.ref 2]) rfl (fun _ => rfl) ⟨Nat.le_of_ble_eq_true rfl, Nat.le_of_ble_eq_true rfl, pj_T_rcv hI rfl⟩ ⟨rfl, rfl⟩ (pj_Y_up (by decide) (ct_80x G0 hI)) ?_
    rintro _ _ ⟨y15, rfl, rfl, ry15, ey15, fy15⟩
    replace ey15 := ey15 _ rfl
    have q16 : y7 = y15 := fy7.trans fy15.symm
    subst q16
    show pj_X _ _ G0 13 [(0, .ref 2)] [.int y7] _
    refine pj_X_of (fun r h => pj_R_to (G0, 15, [(0, .ref 2)], [.int ((Int8.ofInt 57).toInt32), .int y7], 0, 0) 15 2 (fun _ => rfl) h) ?_
    cases b17 : pj_c1 .gt y7 ((Int8.ofInt 57).toInt32) with
    | true =>
      rw [pj_cT]
      have ub17 := pj_u_gtT b17
      refine pj_X_of (fun r h => pj_R_icT 22 rfl rfl b17 h) ?_
      refine pj_X_of (fun r h => pj_R_to (G0, 23, [(0, .ref 2)], [.int (Int32.ofInt 0)], 0, 0) 23 2 (fun _ => rfl) h) ?_
      have q18 : (pj_fi G0 2 2).toInt = y1.toInt := by rw [show pj_fi G0 2 2 = y1 from hy1.symm]
      have q19 : (pj_fi G0 2 3).toInt = y2.toInt := by rw [show pj_fi G0 2 3 = y2 from hy2.symm]
      have q20 : (pj_fi G0 2 4).toInt = y3.toInt := by rw [show pj_fi G0 2 4 = y3 from hy3.symm]
      exact pj_X_rt rfl rfl ⟨_, rfl, rfl, ⟨by omega, by omega⟩, (fun H hH => by subst hH; exact (by omega)), rfl⟩
    | false =>
      rw [pj_cF]
      have ub17 := pj_u_gtF b17
      refine pj_X_of (fun r h => pj_R_icF rfl b17 h) ?_
      refine pj_X_of (fun r h => pj_R_to (G0, 23, [(0, .ref 2)], [.int (Int32.ofInt 1)], 0, 0) 23 3 (fun _ => rfl) h) ?_
      have q21 : (pj_fi G0 2 2).toInt = y1.toInt := by rw [show pj_fi G0 2 2 = y1 from hy1.symm]
      have q22 : (pj_fi G0 2 3).toInt = y2.toInt := by rw [show pj_fi G0 2 3 = y2 from hy2.symm]
      have q23 : (pj_fi G0 2 4).toInt = y3.toInt := by rw [show pj_fi G0 2 4 = y3 from hy3.symm]
      exact pj_X_rt rfl rfl ⟨_, rfl, rfl, ⟨by omega, by omega⟩, (fun H hH => by subst hH; exact (by omega)), rfl⟩
theorem fr_85x (G0 : pj_G) (hI : pj_Inv G0) : ((0 : Int) ≤ (F_85x G0).toInt ∧ (F_85x G0).toInt ≤ 1) ∧ ((((pj_fi G0 2 4).toInt = -1 ∧ (pj_fi G0 2 3).toInt < (pj_fi G0 2 2).toInt ∧ 48 ≤ (pj_ai G0 3 (pj_fi G0 2 3).toInt.toNat).toInt ∧ (pj_ai G0 3 (pj_fi G0 2 3).toInt.toNat).toInt ≤ 57) → (F_85x G0).toInt = 1) ∧ (¬ ((pj_fi G0 2 4).toInt = -1 ∧ (pj_fi G0 2 3).toInt < (pj_fi G0 2 2).toInt ∧ 48 ≤ (pj_ai G0 3 (pj_fi G0 2 3).toInt.toNat).toInt ∧ (pj_ai G0 3 (pj_fi G0 2 3).toInt.toNat).toInt ≤ 57) → (F_85x G0).toInt = 0)) := by
  obtain ⟨v, G', -, y, -, rfl, r, x, e⟩ := ct_85x G0 hI 
  rw [← e]
  exact ⟨r, x _ rfl⟩
def kc_88tx : pj_KT := ([(2, 1), (2, 4)], [2], [])
noncomputable def F_88tx (G0 : pj_G) : Int32 × pj_G := pj_nm (pj_fi G0 2 3) (fun y4 => pj_nm (pj_fi G0 2 1) (fun y2 => cond (pj_c1 .ge y4 y2) (pj_nm (pj_wv G0 2 1 (.int (Int32.ofInt 0))) (fun G6 => pj_nm (pj_fi G0 2 4) (fun y1 => (y1, G6)))) (pj_nm (F_81x G0) (fun G16 => pj_nm (pj_wv G16 2 1 (.int (Int32.ofInt 0))) (fun G24 => pj_nm (pj_fi G16 2 4) (fun y20 => (y20, G24)))))))
theorem F_88tx_e (G0 : pj_G) : F_88tx G0 = pj_nm (pj_fi G0 2 3) (fun y4 => pj_nm (pj_fi G0 2 1) (fun y2 => cond (pj_c1 .ge y4 y2) (pj_nm (pj_wv G0 2 1 (.int (Int32.ofInt 0))) (fun G6 => pj_nm (pj_fi G0 2 4) (fun y1 => (y1, G6)))) (pj_nm (F_81x G0) (fun G16 => pj_nm (pj_wv G16 2 1 (.int (Int32.ofInt 0))) (fun G24 => pj_nm (pj_fi G16 2 4) (fun y20 => (y20, G24))))))) := rfl
theorem ct_88tx (G0 : pj_G) (hI : pj_Inv G0) : pj_Y 2 88 [.ref 2] G0 (fun v' G' => ∃ y : Int32, v' = some (.int y) ∧ pj_Inv G' ∧ pj_kpt kc_88tx G0 G' ∧ ((-1 : Int) ≤ y.toInt ∧ y.toInt ≤ 80) ∧ (∀ H, G0 = H → (((y.toInt = -1 → (pj_fi H 2 4).toInt = -1) ∧ (pj_fi G' 2 1).toInt = 0) ∧ ((¬ (pj_fi H 2 4).toInt = -1 → y.toInt = (pj_fi H 2 4).toInt) ∧ ((pj_fi H 2 4).toInt = -1 ∧ (pj_fi H 2 3).toInt < (pj_fi H 2 1).toInt → y.toInt = (pj_fi H 2 3).toInt) ∧ ((pj_fi H 2 4).toInt = -1 ∧ (pj_fi H 2 1).toInt ≤ (pj_fi H 2 3).toInt → y.toInt = -1) ∧ (pj_fi G' 2 1).toInt = 0))) ∧ ((y, G') = F_88tx G0)) := by
  have c0_ : (Int32.ofInt 0).toInt = 0 := by decide
  refine pj_Y_X (M := pj_m88) rfl rfl (Nat.le_of_ble_eq_true rfl) ?_
  have hK : pj_kpt kc_88tx G0 G0 := pj_kpt_r _ _
  show pj_X _ _ G0 0 [(0, .ref 2)] [] _
  rw [F_88tx_e]
  obtain ⟨y1, hy1⟩ : ∃ z : Int32, z = pj_fi G0 2 4 := ⟨_, rfl⟩
  have ey1 : (pj_fi G0 2 4).toInt = y1.toInt := by rw [hy1]
  have ry1 : (-1 : Int) ≤ y1.toInt ∧ y1.toInt ≤ 80 := by rw [hy1]; exact hI.2.1 2 4 (-1, 80) rfl
  obtain ⟨y2, hy2⟩ : ∃ z : Int32, z = pj_fi G0 2 1 := ⟨_, rfl⟩
  have ey2 : (pj_fi G0 2 1).toInt = y2.toInt := by rw [hy2]
  have ry2 : (0 : Int) ≤ y2.toInt ∧ y2.toInt ≤ 80 := by rw [hy2]; exact hI.2.1 2 1 (0, 80) rfl
  obtain ⟨y3, hy3⟩ : ∃ z : Int32, z = pj_fi G0 2 2 := ⟨_, rfl⟩
  have ey3 : (pj_fi G0 2 2).toInt = y3.toInt := by rw [hy3]
  have ry3 : (0 : Int) ≤ y3.toInt ∧ y3.toInt ≤ 80 := by rw [hy3]; exact hI.2.1 2 2 (0, 80) rfl
  obtain ⟨y4, hy4⟩ : ∃ z : Int32, z = pj_fi G0 2 3 := ⟨_, rfl⟩
  have ey4 : (pj_fi G0 2 3).toInt = y4.toInt := by rw [hy4]
  have ry4 : (0 : Int) ≤ y4.toInt ∧ y4.toInt ≤ 80 := by rw [hy4]; exact hI.2.1 2 3 (0, 80) rfl
  refine pj_X_of (fun r h => pj_R_to (G0, 1, [(0, .ref 2)], [.ref 2], 0, 0) 1 2 (fun _ => rfl) h) ?_
  refine pj_X_of (fun r h => pj_T_gi hI rfl rfl h) ?_
  show pj_X _ _ G0 4 [(0, .ref 2)] [.int (pj_fi G0 2 3)] _
  rw [← hy4, pj_nm_e]
  refine pj_X_of (fun r h => pj_R_to (G0, 5, [(0, .ref 2)], [.ref 2, .int y4], 0, 0) 5 2 (fun _ => rfl) h) ?_
  refine pj_X_of (fun r h => pj_T_gi hI rfl rfl h) ?_
  show pj_X _ _ G0 8 [(0, .ref 2)] [.int (pj_fi G0 2 1), .int y4] _
  rw [← hy2, pj_nm_e]
  cases b5 : pj_c1 .ge y4 y2 with
  | true =>
    rw [pj_cT]
    have ub5 := pj_u_geT b5
    refine pj_X_of (fun r h => pj_R_icT 15 rfl rfl b5 h) ?_
    refine pj_X_of (fun r h => pj_R_to (G0, 17, [(0, .ref 2)], [.int (Int32.ofInt 0), .ref 2], 0, 0) 17 3 (fun _ => rfl) h) ?_
    refine pj_X_of (fun r h => pj_T_pf hI rfl rfl rfl h) ?_
    show pj_X _ _ (pj_wv G0 2 1 (.int (Int32.ofInt 0))) 20 [(0, .ref 2)] [] _
    obtain ⟨G6, hG6⟩ : ∃ H, H = pj_wv G0 2 1 (.int (Int32.ofInt 0)) := ⟨_, rfl⟩
    have iG6 : pj_Inv G6 := by rw [hG6]; exact pj_Inv_wi hI (ci := 9) rfl (fun q hq => by cases hq; exact ⟨by show (0 : Int) ≤ _; omega, by show _ ≤ (80 : Int); omega⟩)
    have kG6 : pj_kpt kc_88tx G0 G6 := by rw [hG6]; exact pj_kpt_v hK rfl
    rw [← hG6]
    rw [pj_nm_e]
    refine pj_X_of (fun r h => pj_R_to (G6, 21, [(0, .ref 2)], [.ref 2], 0, 0) 21 2 (fun _ => rfl) h) ?_
    refine pj_X_of (fun r h => pj_T_gi iG6 rfl rfl h) ?_
    show pj_X _ _ G6 24 [(0, .ref 2)] [.int (pj_fi G6 2 4)] _
    rw [← hy1, pj_nm_e]
    refine pj_X_eqi (show pj_fi G6 2 4 = y1 from by rw [hG6, pj_fi_wv_ne _ _ _ _ _ _ (by decide)]; exact hy1.symm) ?_
    have q7 : (pj_fi G6 2 4).toInt = y1.toInt := by rw [show pj_fi G6 2 4 = y1 from by rw [hG6, pj_fi_wv_ne _ _ _ _ _ _ (by decide)]; exact hy1.symm]
    have q8 : (pj_fi G6 2 1).toInt = (Int32.ofInt 0).toInt := by rw [show pj_fi G6 2 1 = Int32.ofInt 0 from by rw [hG6]; exact pj_fi_wi hI.1 (ci := 9) rfl _]
    have q9 : (pj_fi G6 2 2).toInt = y3.toInt := by rw [show pj_fi G6 2 2 = y3 from by rw [hG6, pj_fi_wv_ne _ _ _ _ _ _ (by decide)]; exact hy3.symm]
    have q10 : (pj_fi G6 2 3).toInt = y4.toInt := by rw [show pj_fi G6 2 3 = y4 from by rw [hG6, pj_fi_wv_ne _ _ _ _ _ _ (by decide)]; exact hy4.symm]
    exact pj_X_rt rfl rfl ⟨_, rfl, iG6, kG6, ⟨by omega, by omega⟩, (fun H hH => by subst hH; exact (⟨by omega, by omega⟩)), rfl⟩
  | false =>
    rw [pj_cF]
    have ub5 := pj_u_geF b5
    refine pj_X_of (fun r h => pj_R_icF rfl b5 h) ?_
    refine pj_X_of (fun r h => pj_R_to (G0, 12, [(0, .ref 2)], [.ref 2], 0, 0) 12 2 (fun _ => rfl) h) ?_
    have q11 : (pj_fi G0 2 4).toInt = y1.toInt := by rw [show pj_fi G0 2 4 = y1 from hy1.symm]
    have q12 : (pj_fi G0 2 1).toInt = y2.toInt := by rw [show pj_fi G0 2 1 = y2 from hy2.symm]
    have q13 : (pj_fi G0 2 2).toInt = y3.toInt := by rw [show pj_fi G0 2 2 = y3 from hy3.symm]
    have q14 : (pj_fi G0 2 3).toInt = y4.toInt := by rw [show pj_fi G0 2 3 = y4 from hy4.symm]
    refine pj_X_ca (vs := [.ref 2]) rfl (fun _ => rfl) ⟨Nat.le_of_ble_eq_true rfl, Nat.le_of_ble_eq_true rfl, pj_T_rcv hI rfl⟩ ⟨rfl, rfl⟩ (pj_Y_up (by decide) (ct_81x G0 hI)) ?_
    rintro _ G16 ⟨rfl, iG16, jG16, eG16, fy15⟩
    replace eG16 := eG16 _ rfl
    rw [← fy15, pj_nm_e]
    have kG16 : pj_kpt kc_88tx G0 G16 := pj_kpt_t hK (pj_kpt_s jG16 rfl)
    have q17 : (pj_fi G16 2 1).toInt = (pj_fi G0 2 1).toInt := by rw [jG16.1 (2, 1) (by decide)]
    have q18 : (pj_fi G16 2 2).toInt = (pj_fi G0 2 2).toInt := by rw [jG16.1 (2, 2) (by decide)]
    have q19 : (pj_fi G16 2 3).toInt = (pj_fi G0 2 3).toInt := by rw [jG16.1 (2, 3) (by decide)]
    obtain ⟨y20, hy20⟩ : ∃ z : Int32, z = pj_fi G16 2 4 := ⟨_, rfl⟩
    have ey20 : (pj_fi G16 2 4).toInt = y20.toInt := by rw [hy20]
    have ry20 : (-1 : Int) ≤ y20.toInt ∧ y20.toInt ≤ 80 := by rw [hy20]; exact iG16.2.1 2 4 (-1, 80) rfl
    obtain ⟨y21, hy21⟩ : ∃ z : Int32, z = pj_fi G16 2 1 := ⟨_, rfl⟩
    have ey21 : (pj_fi G16 2 1).toInt = y21.toInt := by rw [hy21]
    have ry21 : (0 : Int) ≤ y21.toInt ∧ y21.toInt ≤ 80 := by rw [hy21]; exact iG16.2.1 2 1 (0, 80) rfl
    obtain ⟨y22, hy22⟩ : ∃ z : Int32, z = pj_fi G16 2 2 := ⟨_, rfl⟩
    have ey22 : (pj_fi G16 2 2).toInt = y22.toInt := by rw [hy22]
    have ry22 : (0 : Int) ≤ y22.toInt ∧ y22.toInt ≤ 80 := by rw [hy22]; exact iG16.2.1 2 2 (0, 80) rfl
    obtain ⟨y23, hy23⟩ : ∃ z : Int32, z = pj_fi G16 2 3 := ⟨_, rfl⟩
    have ey23 : (pj_fi G16 2 3).toInt = y23.toInt := by rw [hy23]
    have ry23 : (0 : Int) ≤ y23.toInt ∧ y23.toInt ≤ 80 := by rw [hy23]; exact iG16.2.1 2 3 (0, 80) rfl
    show pj_X _ _ G16 15 [(0, .ref 2)] [] _
    refine pj_X_of (fun r h => pj_R_to (G16, 17, [(0, .ref 2)], [.int (Int32.ofInt 0), .ref 2], 0, 0) 17 3 (fun _ => rfl) h) ?_
    refine pj_X_of (fun r h => pj_T_pf iG16 rfl rfl rfl h) ?_
    show pj_X _ _ (pj_wv G16 2 1 (.int (Int32.ofInt 0))) 20 [(0, .ref 2)] [] _
    obtain ⟨G24, hG24⟩ : ∃ H, H = pj_wv G16 2 1 (.int (Int32.ofInt 0)) := ⟨_, rfl⟩
    have iG24 : pj_Inv G24 := by rw [hG24]; exact pj_Inv_wi iG16 (ci := 9) rfl (fun q hq => by cases hq; exact ⟨by show (0 : Int) ≤ _; omega, by show _ ≤ (80 : Int); omega⟩)
    have kG24 : pj_kpt kc_88tx G0 G24 := by rw [hG24]; exact pj_kpt_v kG16 rfl
    rw [← hG24]
    rw [pj_nm_e]
    refine pj_X_of (fun r h => pj_R_to (G24, 21, [(0, .ref 2)], [.ref 2], 0, 0) 21 2 (fun _ => rfl) h) ?_
    refine pj_X_of (fun r h => pj_T_gi iG24 rfl rfl h) ?_
    show pj_X _ _ G24 24 [(0, .ref 2)] [.int (pj_fi G24 2 4)] _
    rw [← hy20, pj_nm_e]
    refine pj_X_eqi (show pj_fi G24 2 4 = y20 from by rw [hG24, pj_fi_wv_ne _ _ _ _ _ _ (by decide)]; exact hy20.symm) ?_
    have q25 : (pj_fi G24 2 4).toInt = y20.toInt := by rw [show pj_fi G24 2 4 = y20 from by rw [hG24, pj_fi_wv_ne _ _ _ _ _ _ (by decide)]; exact hy20.symm]
    have q26 : (pj_fi G24 2 1).toInt = (Int32.ofInt 0).toInt := by rw [show pj_fi G24 2 1 = Int32.ofInt 0 from by rw [hG24]; exact pj_fi_wi iG16.1 (ci := 9) rfl _]
    have q27 : (pj_fi G24 2 2).toInt = y22.toInt := by rw [show pj_fi G24 2 2 = y22 from by rw [hG24, pj_fi_wv_ne _ _ _ _ _ _ (by decide)]; exact hy22.symm]
    have q28 : (pj_fi G24 2 3).toInt = y23.toInt := by rw [show pj_fi G24 2 3 = y23 from by rw [hG24, pj_fi_wv_ne _ _ _ _ _ _ (by decide)]; exact hy23.symm]
    exact pj_X_rt rfl rfl ⟨_, rfl, iG24, kG24, ⟨by omega, by omega⟩, (fun H hH => by subst hH; exact (⟨by omega, by omega⟩)), rfl⟩
theorem fr_88tx (G0 : pj_G) (hI : pj_Inv G0) : pj_Inv (F_88tx G0).2 ∧ pj_kpt kc_88tx G0 (F_88tx G0).2 ∧ ((-1 : Int) ≤ (F_88tx G0).1.toInt ∧ (F_88tx G0).1.toInt ≤ 80) ∧ ((((F_88tx G0).1.toInt = -1 → (pj_fi G0 2 4).toInt = -1) ∧ (pj_fi (F_88tx G0).2 2 1).toInt = 0) ∧ ((¬ (pj_fi G0 2 4).toInt = -1 → (F_88tx G0).1.toInt = (pj_fi G0 2 4).toInt) ∧ ((pj_fi G0 2 4).toInt = -1 ∧ (pj_fi G0 2 3).toInt < (pj_fi G0 2 1).toInt → (F_88tx G0).1.toInt = (pj_fi G0 2 3).toInt) ∧ ((pj_fi G0 2 4).toInt = -1 ∧ (pj_fi G0 2 1).toInt ≤ (pj_fi G0 2 3).toInt → (F_88tx G0).1.toInt = -1) ∧ (pj_fi (F_88tx G0).2 2 1).toInt = 0)) := by
  obtain ⟨v, G', -, y, -, i, j, r, x, e⟩ := ct_88tx G0 hI 
  rw [← e]
  exact ⟨i, j, r, x _ rfl⟩
def kc_86x : pj_KT := ([(2, 3), (2, 4)], [2], [])
noncomputable def L_86x (G0 : pj_G) (n : Int32) (fu : Nat) : Int32 → Int32 → pj_G → Int32 × pj_G := Nat.rec (motive := fun _ => Int32 → Int32 → pj_G → Int32 × pj_G) (fun _ _ G => (0, G)) (fun _ ih i v G => cond (pj_c1 .ge i n) ((v, G)) (pj_nm (F_85x G) (fun y2 => cond (pj_c1 .eq y2 0) ((v, G)) (pj_nm (v * ((Int8.ofInt 10).toInt32)) (fun z4 => pj_bd (F_83x G ((Int8.ofInt 48).toInt32) ((Int8.ofInt 57).toInt32)) (fun y5 G6 => pj_nm (z4 + y5) (fun z7 => pj_nm (i + Int32.ofInt 1) (fun z8 => ih z8 z7 G6)))))))) fu
theorem L_86x_s0 (G0 : pj_G) (n : Int32) (fu : Nat) (i : Int32) (v : Int32) (G : pj_G) : L_86x G0 n (fu + 1) i v G = cond (pj_c1 .ge i n) ((v, G)) (pj_nm (F_85x G) (fun y2 => cond (pj_c1 .eq y2 0) ((v, G)) (pj_nm (v * ((Int8.ofInt 10).toInt32)) (fun z4 => pj_bd (F_83x G ((Int8.ofInt 48).toInt32) ((Int8.ofInt 57).toInt32)) (fun y5 G6 => pj_nm (z4 + y5) (fun z7 => pj_nm (i + Int32.ofInt 1) (fun z8 => L_86x G0 n fu z8 z7 G6))))))) := rfl
noncomputable def F_86x (G0 : pj_G) (n : Int32) : Int32 × pj_G := pj_bd (F_83x G0 ((Int8.ofInt 48).toInt32) ((Int8.ofInt 57).toInt32)) (fun y9 G10 => L_86x G0 n 4 (Int32.ofInt 1) y9 G10)
theorem F_86x_e (G0 : pj_G) (n : Int32) : F_86x G0 n = pj_bd (F_83x G0 ((Int8.ofInt 48).toInt32) ((Int8.ofInt 57).toInt32)) (fun y9 G10 => L_86x G0 n 4 (Int32.ofInt 1) y9 G10) := rfl
theorem lp_ct_86x (G0 : pj_G) (hI0 : pj_Inv G0) (n : Int32) (rn : (1 : Int) ≤ n.toInt ∧ n.toInt ≤ 3) : ∀ mn : Nat, (∀ (G : pj_G) (hI : pj_Inv G) (hK : pj_kpt kc_86x G0 G) (i : Int32) (v : Int32), ((1 : Int) ≤ i.toInt ∧ i.toInt ≤ 3) → ((0 : Int) ≤ v.toInt ∧ v.toInt ≤ 999) → (i.toInt = 1 → v.toInt ≤ 9) → (i.toInt = 2 → v.toInt ≤ 99) → 3 - i.toInt < (mn : Int) → pj_X 2 pj_m86 G 11 [(3, .int i), (0, .ref 2), (1, .int n), (2, .int v)] [] (fun v' G' => ∃ y : Int32, v' = some (.int y) ∧ pj_Inv G' ∧ pj_kpt kc_86x G0 G' ∧ ((0 : Int) ≤ y.toInt ∧ y.toInt ≤ 999) ∧ ((y, G') = L_86x G0 n mn i v G))) := by
  have c0_ : ((Int8.ofInt 10).toInt32).toInt = 10 := by decide
  have c1_ : ((Int8.ofInt 48).toInt32).toInt = 48 := by decide
  have c2_ : ((Int8.ofInt 57).toInt32).toInt = 57 := by decide
  have c3_ : (Int32.ofInt 1).toInt = 1 := by decide
  intro mn
  induction mn with
  | zero =>
    intro G hI hK i v ri rv x0_ x1_ hm
    exfalso
    omega
  | succ mn ih =>
    intro G hI hK i v ri rv x0_ x1_ hm
    rw [L_86x_s0]
    refine pj_X_of (fun r h => pj_R_to (G, 13, [(3, .int i), (0, .ref 2), (1, .int n), (2, .int v)], [.int n, .int i], 0, 0) 13 3 (fun _ => rfl) h) ?_
    cases b1 : pj_c1 .ge i n with
    | true =>
      rw [pj_cT]
      have ub1 := pj_u_geT b1
      refine pj_X_of (fun r h => pj_R_icT 43 rfl rfl b1 h) ?_
      refine pj_X_of (fun r h => pj_R_to (G, 44, [(3, .int i), (0, .ref 2), (1, .int n), (2, .int v)], [.int v], 0, 0) 44 2 (fun _ => rfl) h) ?_
      exact pj_X_rt rfl rfl ⟨_, rfl, hI, hK, ⟨by omega, by omega⟩, rfl⟩
    | false =>
      rw [pj_cF]
      have ub1 := pj_u_geF b1
      refine pj_X_of (fun r h => pj_R_icF rfl b1 h) ?_
      refine pj_X_of (fun r h => pj_R_to (G, 17, [(3, .int i), (0, .ref 2), (1, .int n), (2, .int v)], [.ref 2], 0, 0) 17 2 (fun _ => rfl) h) ?_
      refine pj_X_ca (vs := [.ref 2]) rfl (fun _ => rfl) ⟨Nat.le_of_ble_eq_true rfl, Nat.le_of_ble_eq_true rfl, pj_T_rcv hI rfl⟩ ⟨rfl, rfl⟩ (pj_Y_up (by decide) (ct_85x G hI)) ?_
      rintro _ _ ⟨y2, rfl, rfl, ry2, ey2, fy2⟩
      replace ey2 := ey2 _ rfl
      rw [← fy2, pj_nm_e]
      show pj_X _ _ G 20 [(3, .int i), (0, .ref 2), (1, .int n), (2, .int v)] [.int y2] _
      cases b3 : pj_c1 .eq y2 0 with
      | true =>
        rw [pj_cT]
        have ub3 := pj_u0_eqT b3
        refine pj_X_of (fun r h => pj_R_ifT 43 rfl rfl b3 h) ?_
        refine pj_X_of (fun r h => pj_R_to (G, 44, [(3, .int i), (0, .ref 2), (1, .int n), (2, .int v)], [.int v], 0, 0) 44 2 (fun _ => rfl) h) ?_
        exact pj_X_rt rfl rfl ⟨_, rfl, hI, hK, ⟨by omega, by omega⟩, rfl⟩
      | false =>
        rw [pj_cF]
        have ub3 := pj_u0_eqF b3
        refine pj_X_of (fun r h => pj_R_ifF rfl b3 h) ?_
        refine pj_X_of (fun r h => pj_R_to (G, 27, [(3, .int i), (0, .ref 2), (1, .int n), (2, .int v)], [.int (v * ((Int8.ofInt 10).toInt32))], 0, 0) 27 4 (fun _ => rfl) h) ?_
        obtain ⟨z4, hz4⟩ : ∃ z : Int32, z = v * ((Int8.ofInt 10).toInt32) := ⟨_, rfl⟩
        refine pj_X_eqi hz4.symm ?_
        rw [← hz4, pj_nm_e]
        have fz4_0 : z4.toInt = 10 * v.toInt := by rw [hz4]; exact pj_mulR (by decide) (by omega) (by omega)
        refine pj_X_of (fun r h => pj_R_to (G, 32, [(3, .int i), (0, .ref 2), (1, .int n), (2, .int v)], [.int ((Int8.ofInt 57).toInt32), .int ((Int8.ofInt 48).toInt32), .ref 2, .int z4], 0, 0) 32 4 (fun _ => rfl) h) ?_
        refine pj_X_ca (vs := [.ref 2, .int ((Int8.ofInt 48).toInt32), .int ((Int8.ofInt 57).toInt32)]) rfl (fun _ => rfl) ⟨Nat.le_of_ble_eq_true rfl, Nat.le_of_ble_eq_true rfl, pj_T_rcv hI rfl⟩ ⟨rfl, rfl⟩ (pj_Y_up (by decide) (ct_83x G hI ((Int8.ofInt 48).toInt32) ((Int8.ofInt 57).toInt32) ⟨by omega, by omega⟩ ⟨by omega, by omega⟩)) ?_
        rintro _ G6 ⟨y5, rfl, iG6, jG6, ry5, ey5, fy5⟩
        replace ey5 := ey5 _ rfl
        rw [← fy5, pj_bd_e]
        have kG6 : pj_kpt kc_86x G0 G6 := pj_kpt_t hK (pj_kpt_s jG6 rfl)
        show pj_X _ _ G6 35 [(3, .int i), (0, .ref 2), (1, .int n), (2, .int v)] [.int y5, .int z4] _
        refine pj_X_of (fun r h => pj_R_to (G6, 36, [(3, .int i), (0, .ref 2), (1, .int n), (2, .int v)], [.int (z4 + y5)], 0, 0) 36 2 (fun _ => rfl) h) ?_
        obtain ⟨z7, hz7⟩ : ∃ z : Int32, z = z4 + y5 := ⟨_, rfl⟩
        refine pj_X_eqi hz7.symm ?_
        rw [← hz7, pj_nm_e]
        have fz7_0 : z7.toInt = z4.toInt + y5.toInt := by rw [hz7]; exact pj_addI (by have := pj_i32 z4; have := pj_i32 y5; omega) (by have := pj_i32 z4; have := pj_i32 y5; omega)
        refine pj_X_of (fun r h => pj_R_to (G6, 40, [(3, .int (i + Int32.ofInt 1)), (2, .int z7), (0, .ref 2), (1, .int n)], [], 0, 0) 40 3 (fun _ => rfl) h) ?_
        obtain ⟨z8, hz8⟩ : ∃ z : Int32, z = i + Int32.ofInt 1 := ⟨_, rfl⟩
        rw [← hz8]
        rw [pj_nm_e]
        have fz8_0 : z8.toInt = i.toInt + (Int32.ofInt 1).toInt := by rw [hz8]; exact pj_addI (by have := pj_i32 i; have := pj_i32 (Int32.ofInt 1); omega) (by have := pj_i32 i; have := pj_i32 (Int32.ofInt 1); omega)
        refine pj_X_of (fun r h => pj_R_to (G6, 11, [(3, .int z8), (2, .int z7), (0, .ref 2), (1, .int n)], [], 0, 0) 11 2 (fun _ => rfl) h) ?_
        exact pj_X_sub [(3, .int z8), (0, .ref 2), (1, .int n), (2, .int z7)] (show List.Nodup [3, 0, 1, 2] by decide) ⟨rfl, rfl, rfl, rfl, trivial⟩ (ih G6 iG6 kG6 z8 z7 ⟨by omega, by omega⟩ ⟨by omega, by omega⟩ (by omega) (by omega) (by omega))
theorem ct_86x (G0 : pj_G) (hI : pj_Inv G0) (n : Int32) (rn : (1 : Int) ≤ n.toInt ∧ n.toInt ≤ 3) : pj_Y 3 86 [.ref 2, .int n] G0 (fun v' G' => ∃ y : Int32, v' = some (.int y) ∧ pj_Inv G' ∧ pj_kpt kc_86x G0 G' ∧ ((0 : Int) ≤ y.toInt ∧ y.toInt ≤ 999) ∧ ((y, G') = F_86x G0 n)) := by
  have c0_ : ((Int8.ofInt 10).toInt32).toInt = 10 := by decide
  have c1_ : ((Int8.ofInt 48).toInt32).toInt = 48 := by decide
  have c2_ : ((Int8.ofInt 57).toInt32).toInt = 57 := by decide
  have c3_ : (Int32.ofInt 1).toInt = 1 := by decide
  refine pj_Y_X (M := pj_m86) rfl rfl (Nat.le_of_ble_eq_true rfl) ?_
  have hK : pj_kpt kc_86x G0 G0 := pj_kpt_r _ _
  show pj_X _ _ G0 0 [(0, .ref 2), (1, .int n)] [] _
  rw [F_86x_e]
  refine pj_X_of (fun r h => pj_R_to (G0, 5, [(0, .ref 2), (1, .int n)], [.int ((Int8.ofInt 57).toInt32), .int ((Int8.ofInt 48).toInt32), .ref 2], 0, 0) 5 4 (fun _ => rfl) h) ?_
  refine pj_X_ca (vs := [.ref 2, .int ((Int8.ofInt 48).toInt32), .int ((Int8.ofInt 57).toInt32)]) rfl (fun _ => rfl) ⟨Nat.le_of_ble_eq_true rfl, Nat.le_of_ble_eq_true rfl, pj_T_rcv hI rfl⟩ ⟨rfl, rfl⟩ (pj_Y_up (by decide) (ct_83x G0 hI ((Int8.ofInt 48).toInt32) ((Int8.ofInt 57).toInt32) ⟨by omega, by omega⟩ ⟨by omega, by omega⟩)) ?_
  rintro _ G10 ⟨y9, rfl, iG10, jG10, ry9, ey9, fy9⟩
  replace ey9 := ey9 _ rfl
  rw [← fy9, pj_bd_e]
  have kG10 : pj_kpt kc_86x G0 G10 := pj_kpt_t hK (pj_kpt_s jG10 rfl)
  show pj_X _ _ G10 8 [(0, .ref 2), (1, .int n)] [.int y9] _
  refine pj_X_of (fun r h => pj_R_to (G10, 11, [(3, .int (Int32.ofInt 1)), (2, .int y9), (0, .ref 2), (1, .int n)], [], 0, 0) 11 4 (fun _ => rfl) h) ?_
  exact pj_X_sub [(3, .int (Int32.ofInt 1)), (0, .ref 2), (1, .int n), (2, .int y9)] (show List.Nodup [3, 0, 1, 2] by decide) ⟨rfl, rfl, rfl, rfl, trivial⟩ ((lp_ct_86x G0 hI n rn 4) G10 iG10 kG10 (Int32.ofInt 1) y9 ⟨by omega, by omega⟩ ⟨by omega, by omega⟩ (by omega) (by omega) (by omega))
theorem fr_86x (G0 : pj_G) (hI : pj_Inv G0) (n : Int32) (rn : (1 : Int) ≤ n.toInt ∧ n.toInt ≤ 3) : pj_Inv (F_86x G0 n).2 ∧ pj_kpt kc_86x G0 (F_86x G0 n).2 ∧ ((0 : Int) ≤ (F_86x G0 n).1.toInt ∧ (F_86x G0 n).1.toInt ≤ 999) := by
  obtain ⟨v, G', -, y, -, i, j, r, e⟩ := ct_86x G0 hI n rn
  rw [← e]
  exact ⟨i, j, r⟩
def kc_87x : pj_KT := ([(2, 3), (2, 4)], [2], [])
noncomputable def F_87x (G0 : pj_G) (ul : Int32) (bk : Int32) : Int32 × pj_G := cond (pj_c1 .eq ul (Int32.ofInt (-1))) (pj_nm (((Int8.ofInt 97).toInt32) + bk) (fun z3 => pj_nm (z3 - (Int32.ofInt 1)) (fun z4 => pj_bd (F_83x G0 ((Int8.ofInt 97).toInt32) z4) (fun y6 G7 => (y6, G7))))) (pj_nm (F_80x G0) (fun y11 => pj_nm (((Int8.ofInt 97).toInt32) + ul) (fun z12 => cond (pj_c1 .ne y11 z12) (pj_nm (((Int8.ofInt 97).toInt32) + bk) (fun z14 => pj_nm (z14 - (Int32.ofInt 1)) (fun z15 => pj_bd (F_83x G0 ((Int8.ofInt 97).toInt32) z15) (fun y17 G18 => (y17, G18))))) (pj_nm (F_81x G0) (fun G23 => pj_nm (((Int8.ofInt 97).toInt32) + bk) (fun z25 => pj_nm (z25 - (Int32.ofInt 1)) (fun z26 => pj_bd (F_83x G23 ((Int8.ofInt 97).toInt32) z26) (fun y28 G29 => (y28, G29)))))))))
theorem F_87x_e (G0 : pj_G) (ul : Int32) (bk : Int32) : F_87x G0 ul bk = cond (pj_c1 .eq ul (Int32.ofInt (-1))) (pj_nm (((Int8.ofInt 97).toInt32) + bk) (fun z3 => pj_nm (z3 - (Int32.ofInt 1)) (fun z4 => pj_bd (F_83x G0 ((Int8.ofInt 97).toInt32) z4) (fun y6 G7 => (y6, G7))))) (pj_nm (F_80x G0) (fun y11 => pj_nm (((Int8.ofInt 97).toInt32) + ul) (fun z12 => cond (pj_c1 .ne y11 z12) (pj_nm (((Int8.ofInt 97).toInt32) + bk) (fun z14 => pj_nm (z14 - (Int32.ofInt 1)) (fun z15 => pj_bd (F_83x G0 ((Int8.ofInt 97).toInt32) z15) (fun y17 G18 => (y17, G18))))) (pj_nm (F_81x G0) (fun G23 => pj_nm (((Int8.ofInt 97).toInt32) + bk) (fun z25 => pj_nm (z25 - (Int32.ofInt 1)) (fun z26 => pj_bd (F_83x G23 ((Int8.ofInt 97).toInt32) z26) (fun y28 G29 => (y28, G29))))))))) := rfl
theorem ct_87x (G0 : pj_G) (hI : pj_Inv G0) (ul : Int32) (bk : Int32) (rul : (-1 : Int) ≤ ul.toInt ∧ ul.toInt ≤ 7) (rbk : (0 : Int) ≤ bk.toInt ∧ bk.toInt ≤ 8) : pj_Y 3 87 [.ref 2, .int ul, .int bk] G0 (fun v' G' => ∃ y : Int32, v' = some (.int y) ∧ pj_Inv G' ∧ pj_kpt kc_87x G0 G' ∧ ((0 : Int) ≤ y.toInt ∧ y.toInt ≤ 7) ∧ (∀ H, G0 = H → ((pj_fi H 2 4).toInt ≠ -1 → (pj_fi G' 2 4).toInt ≠ -1)) ∧ ((y, G') = F_87x G0 ul bk)) := by
  have c0_ : ((Int8.ofInt 97).toInt32).toInt = 97 := by decide
  have c1_ : (Int32.ofInt (-1)).toInt = -1 := by decide
  have c2_ : (Int32.ofInt 1).toInt = 1 := by decide
  refine pj_Y_X (M := pj_m87) rfl rfl (Nat.le_of_ble_eq_true rfl) ?_
  have hK : pj_kpt kc_87x G0 G0 := pj_kpt_r _ _
  show pj_X _ _ G0 0 [(0, .ref 2), (1, .int ul), (2, .int bk)] [] _
  rw [F_87x_e]
  obtain ⟨y1, hy1⟩ : ∃ z : Int32, z = pj_fi G0 2 4 := ⟨_, rfl⟩
  have ey1 : (pj_fi G0 2 4).toInt = y1.toInt := by rw [hy1]
  have ry1 : (-1 : Int) ≤ y1.toInt ∧ y1.toInt ≤ 80 := by rw [hy1]; exact hI.2.1 2 4 (-1, 80) rfl
  refine pj_X_of (fun r h => pj_R_to (G0, 2, [(0, .ref 2), (1, .int ul), (2, .int bk)], [.int (Int32.ofInt (-1)), .int ul], 0, 0) 2 3 (fun _ => rfl) h) ?_
  cases b2 : pj_c1 .eq ul (Int32.ofInt (-1)) with
  | true =>
    rw [pj_cT]
    have ub2 := pj_u_eqT b2
    refine pj_X_of (fun r h => pj_R_icT 20 rfl rfl b2 h) ?_
    refine pj_X_of (fun r h => pj_R_to (G0, 27, [(0, .ref 2), (1, .int ul), (2, .int bk)], [.int (((Int8.ofInt 97).toInt32) + bk), .int ((Int8.ofInt 97).toInt32), .ref 2], 0, 0) 27 6 (fun _ => rfl) h) ?_
    obtain ⟨z3, hz3⟩ : ∃ z : Int32, z = ((Int8.ofInt 97).toInt32) + bk := ⟨_, rfl⟩
    refine pj_X_eqi hz3.symm ?_
    rw [← hz3, pj_nm_e]
    have fz3_0 : z3.toInt = ((Int8.ofInt 97).toInt32).toInt + bk.toInt := by rw [hz3]; exact pj_addI (by have := pj_i32 ((Int8.ofInt 97).toInt32); have := pj_i32 bk; omega) (by have := pj_i32 ((Int8.ofInt 97).toInt32); have := pj_i32 bk; omega)
    refine pj_X_of (fun r h => pj_R_to (G0, 29, [(0, .ref 2), (1, .int ul), (2, .int bk)], [.int (z3 - (Int32.ofInt 1)), .int ((Int8.ofInt 97).toInt32), .ref 2], 0, 0) 29 3 (fun _ => rfl) h) ?_
    obtain ⟨z4, hz4⟩ : ∃ z : Int32, z = z3 - (Int32.ofInt 1) := ⟨_, rfl⟩
    refine pj_X_eqi hz4.symm ?_
    rw [← hz4, pj_nm_e]
    have fz4_0 : z4.toInt = z3.toInt - (Int32.ofInt 1).toInt := by rw [hz4]; exact pj_subI (by have := pj_i32 z3; have := pj_i32 (Int32.ofInt 1); omega) (by have := pj_i32 z3; have := pj_i32 (Int32.ofInt 1); omega)
    have q5 : (pj_fi G0 2 4).toInt = y1.toInt := by rw [show pj_fi G0 2 4 = y1 from hy1.symm]
    refine pj_X_ca (vs := [.ref 2, .int ((Int8.ofInt 97).toInt32), .int z4]) rfl (fun _ => rfl) ⟨Nat.le_of_ble_eq_true rfl, Nat.le_of_ble_eq_true rfl, pj_T_rcv hI rfl⟩ ⟨rfl, rfl⟩ (pj_Y_up (by decide) (ct_83x G0 hI ((Int8.ofInt 97).toInt32) z4 ⟨by omega, by omega⟩ ⟨by omega, by omega⟩)) ?_
    rintro _ G7 ⟨y6, rfl, iG7, jG7, ry6, ey6, fy6⟩
    replace ey6 := ey6 _ rfl
    rw [← fy6, pj_bd_e]
    have kG7 : pj_kpt kc_87x G0 G7 := pj_kpt_t hK (pj_kpt_s jG7 rfl)
    obtain ⟨y8, hy8⟩ : ∃ z : Int32, z = pj_fi G7 2 4 := ⟨_, rfl⟩
    have ey8 : (pj_fi G7 2 4).toInt = y8.toInt := by rw [hy8]
    have ry8 : (-1 : Int) ≤ y8.toInt ∧ y8.toInt ≤ 80 := by rw [hy8]; exact iG7.2.1 2 4 (-1, 80) rfl
    show pj_X _ _ G7 32 [(0, .ref 2), (1, .int ul), (2, .int bk)] [.int y6] _
    have q9 : (pj_fi G7 2 4).toInt = y8.toInt := by rw [show pj_fi G7 2 4 = y8 from hy8.symm]
    exact pj_X_rt rfl rfl ⟨_, rfl, iG7, kG7, ⟨by omega, by omega⟩, (fun H hH => by subst hH; exact (by omega)), rfl⟩
  | false =>
    rw [pj_cF]
    have ub2 := pj_u_eqF b2
    refine pj_X_of (fun r h => pj_R_icF rfl b2 h) ?_
    refine pj_X_of (fun r h => pj_R_to (G0, 6, [(0, .ref 2), (1, .int ul), (2, .int bk)], [.ref 2], 0, 0) 6 2 (fun _ => rfl) h) ?_
    have q10 : (pj_fi G0 2 4).toInt = y1.toInt := by rw [show pj_fi G0 2 4 = y1 from hy1.symm]
    refine pj_X_ca (vs := [.ref 2]) rfl (fun _ => rfl) ⟨Nat.le_of_ble_eq_true rfl, Nat.le_of_ble_eq_true rfl, pj_T_rcv hI rfl⟩ ⟨rfl, rfl⟩ (pj_Y_up (by decide) (ct_80x G0 hI)) ?_
    rintro _ _ ⟨y11, rfl, rfl, ry11, ey11, fy11⟩
    replace ey11 := ey11 _ rfl
    rw [← fy11, pj_nm_e]
    show pj_X _ _ G0 9 [(0, .ref 2), (1, .int ul), (2, .int bk)] [.int y11] _
    refine pj_X_of (fun r h => pj_R_to (G0, 13, [(0, .ref 2), (1, .int ul), (2, .int bk)], [.int (((Int8.ofInt 97).toInt32) + ul), .int y11], 0, 0) 13 4 (fun _ => rfl) h) ?_
    obtain ⟨z12, hz12⟩ : ∃ z : Int32, z = ((Int8.ofInt 97).toInt32) + ul := ⟨_, rfl⟩
    refine pj_X_eqi hz12.symm ?_
    rw [← hz12, pj_nm_e]
    have fz12_0 : z12.toInt = ((Int8.ofInt 97).toInt32).toInt + ul.toInt := by rw [hz12]; exact pj_addI (by have := pj_i32 ((Int8.ofInt 97).toInt32); have := pj_i32 ul; omega) (by have := pj_i32 ((Int8.ofInt 97).toInt32); have := pj_i32 ul; omega)
    cases b13 : pj_c1 .ne y11 z12 with
    | true =>
      rw [pj_cT]
      have ub13 := pj_u_neT b13
      refine pj_X_of (fun r h => pj_R_icT 20 rfl rfl b13 h) ?_
      refine pj_X_of (fun r h => pj_R_to (G0, 27, [(0, .ref 2), (1, .int ul), (2, .int bk)], [.int (((Int8.ofInt 97).toInt32) + bk), .int ((Int8.ofInt 97).toInt32), .ref 2], 0, 0) 27 6 (fun _ => rfl) h) ?_
      obtain ⟨z14, hz14⟩ : ∃ z : Int32, z = ((Int8.ofInt 97).toInt32) + bk := ⟨_, rfl⟩
      refine pj_X_eqi hz14.symm ?_
      rw [← hz14, pj_nm_e]
      have fz14_0 : z14.toInt = ((Int8.ofInt 97).toInt32).toInt + bk.toInt := by rw [hz14]; exact pj_addI (by have := pj_i32 ((Int8.ofInt 97).toInt32); have := pj_i32 bk; omega) (by have := pj_i32 ((Int8.ofInt 97).toInt32); have := pj_i32 bk; omega)
      refine pj_X_of (fun r h => pj_R_to (G0, 29, [(0, .ref 2), (1, .int ul), (2, .int bk)], [.int (z14 - (Int32.ofInt 1)), .int ((Int8.ofInt 97).toInt32), .ref 2], 0, 0) 29 3 (fun _ => rfl) h) ?_
      obtain ⟨z15, hz15⟩ : ∃ z : Int32, z = z14 - (Int32.ofInt 1) := ⟨_, rfl⟩
      refine pj_X_eqi hz15.symm ?_
      rw [← hz15, pj_nm_e]
      have fz15_0 : z15.toInt = z14.toInt - (Int32.ofInt 1).toInt := by rw [hz15]; exact pj_subI (by have := pj_i32 z14; have := pj_i32 (Int32.ofInt 1); omega) (by have := pj_i32 z14; have := pj_i32 (Int32.ofInt 1); omega)
      have q16 : (pj_fi G0 2 4).toInt = y1.toInt := by rw [show pj_fi G0 2 4 = y1 from hy1.symm]
      refine pj_X_ca (vs := [.ref 2, .int ((Int8.ofInt 97).toInt32), .int z15]) rfl (fun _ => rfl) ⟨Nat.le_of_ble_eq_true rfl, Nat.le_of_ble_eq_true rfl, pj_T_rcv hI rfl⟩ ⟨rfl, rfl⟩ (pj_Y_up (by decide) (ct_83x G0 hI ((Int8.ofInt 97).toInt32) z15 ⟨by omega, by omega⟩ ⟨by omega, by omega⟩)) ?_
      rintro _ G18 ⟨y17, rfl, iG18, jG18, ry17, ey17, fy17⟩
      replace ey17 := ey17 _ rfl
      rw [← fy17, pj_bd_e]
      have kG18 : pj_kpt kc_87x G0 G18 := pj_kpt_t hK (pj_kpt_s jG18 rfl)
      obtain ⟨y19, hy19⟩ : ∃ z : Int32, z = pj_fi G18 2 4 := ⟨_, rfl⟩
      have ey19 : (pj_fi G18 2 4).toInt = y19.toInt := by rw [hy19]
      have ry19 : (-1 : Int) ≤ y19.toInt ∧ y19.toInt ≤ 80 := by rw [hy19]; exact iG18.2.1 2 4 (-1, 80) rfl
      show pj_X _ _ G18 32 [(0, .ref 2), (1, .int ul), (2, .int bk)] [.int y17] _
      have q20 : (pj_fi G18 2 4).toInt = y19.toInt := by rw [show pj_fi G18 2 4 = y19 from hy19.symm]
      exact pj_X_rt rfl rfl ⟨_, rfl, iG18, kG18, ⟨by omega, by omega⟩, (fun H hH => by subst hH; exact (by omega)), rfl⟩
    | false =>
      rw [pj_cF]
      have ub13 := pj_u_neF b13
      refine pj_X_of (fun r h => pj_R_icF rfl b13 h) ?_
      refine pj_X_of (fun r h => pj_R_to (G0, 17, [(0, .ref 2), (1, .int ul), (2, .int bk)], [.ref 2], 0, 0) 17 2 (fun _ => rfl) h) ?_
      have q21 : (pj_fi G0 2 4).toInt = y1.toInt := by rw [show pj_fi G0 2 4 = y1 from hy1.symm]
      refine pj_X_ca (vs := [.ref 2]) rfl (fun _ => rfl) ⟨Nat.le_of_ble_eq_true rfl, Nat.le_of_ble_eq_true rfl, pj_T_rcv hI rfl⟩ ⟨rfl, rfl⟩ (pj_Y_up (by decide) (ct_81x G0 hI)) ?_
      rintro _ G23 ⟨rfl, iG23, jG23, eG23, fy22⟩
      replace eG23 := eG23 _ rfl
      rw [← fy22, pj_nm_e]
      have kG23 : pj_kpt kc_87x G0 G23 := pj_kpt_t hK (pj_kpt_s jG23 rfl)
      obtain ⟨y24, hy24⟩ : ∃ z : Int32, z = pj_fi G23 2 4 := ⟨_, rfl⟩
      have ey24 : (pj_fi G23 2 4).toInt = y24.toInt := by rw [hy24]
      have ry24 : (-1 : Int) ≤ y24.toInt ∧ y24.toInt ≤ 80 := by rw [hy24]; exact iG23.2.1 2 4 (-1, 80) rfl
      show pj_X _ _ G23 20 [(0, .ref 2), (1, .int ul), (2, .int bk)] [] _
      refine pj_X_of (fun r h => pj_R_to (G23, 27, [(0, .ref 2), (1, .int ul), (2, .int bk)], [.int (((Int8.ofInt 97).toInt32) + bk), .int ((Int8.ofInt 97).toInt32), .ref 2], 0, 0) 27 6 (fun _ => rfl) h) ?_
      obtain ⟨z25, hz25⟩ : ∃ z : Int32, z = ((Int8.ofInt 97).toInt32) + bk := ⟨_, rfl⟩
      refine pj_X_eqi hz25.symm ?_
      rw [← hz25, pj_nm_e]
      have fz25_0 : z25.toInt = ((Int8.ofInt 97).toInt32).toInt + bk.toInt := by rw [hz25]; exact pj_addI (by have := pj_i32 ((Int8.ofInt 97).toInt32); have := pj_i32 bk; omega) (by have := pj_i32 ((Int8.ofInt 97).toInt32); have := pj_i32 bk; omega)
      refine pj_X_of (fun r h => pj_R_to (G23, 29, [(0, .ref 2), (1, .int ul), (2, .int bk)], [.int (z25 - (Int32.ofInt 1)), .int ((Int8.ofInt 97).toInt32), .ref 2], 0, 0) 29 3 (fun _ => rfl) h) ?_
      obtain ⟨z26, hz26⟩ : ∃ z : Int32, z = z25 - (Int32.ofInt 1) := ⟨_, rfl⟩
      refine pj_X_eqi hz26.symm ?_
      rw [← hz26, pj_nm_e]
      have fz26_0 : z26.toInt = z25.toInt - (Int32.ofInt 1).toInt := by rw [hz26]; exact pj_subI (by have := pj_i32 z25; have := pj_i32 (Int32.ofInt 1); omega) (by have := pj_i32 z25; have := pj_i32 (Int32.ofInt 1); omega)
      have q27 : (pj_fi G23 2 4).toInt = y24.toInt := by rw [show pj_fi G23 2 4 = y24 from hy24.symm]
      refine pj_X_ca (vs := [.ref 2, .int ((Int8.ofInt 97).toInt32), .int z26]) rfl (fun _ => rfl) ⟨Nat.le_of_ble_eq_true rfl, Nat.le_of_ble_eq_true rfl, pj_T_rcv iG23 rfl⟩ ⟨rfl, rfl⟩ (pj_Y_up (by decide) (ct_83x G23 iG23 ((Int8.ofInt 97).toInt32) z26 ⟨by omega, by omega⟩ ⟨by omega, by omega⟩)) ?_
      rintro _ G29 ⟨y28, rfl, iG29, jG29, ry28, ey28, fy28⟩
      replace ey28 := ey28 _ rfl
      rw [← fy28, pj_bd_e]
      have kG29 : pj_kpt kc_87x G0 G29 := pj_kpt_t kG23 (pj_kpt_s jG29 rfl)
      obtain ⟨y30, hy30⟩ : ∃ z : Int32, z = pj_fi G29 2 4 := ⟨_, rfl⟩
      have ey30 : (pj_fi G29 2 4).toInt = y30.toInt := by rw [hy30]
      have ry30 : (-1 : Int) ≤ y30.toInt ∧ y30.toInt ≤ 80 := by rw [hy30]; exact iG29.2.1 2 4 (-1, 80) rfl
      show pj_X _ _ G29 32 [(0, .ref 2), (1, .int ul), (2, .int bk)] [.int y28] _
      have q31 : (pj_fi G29 2 4).toInt = y30.toInt := by rw [show pj_fi G29 2 4 = y30 from hy30.symm]
      exact pj_X_rt rfl rfl ⟨_, rfl, iG29, kG29, ⟨by omega, by omega⟩, (fun H hH => by subst hH; exact (by omega)), rfl⟩
theorem fr_87x (G0 : pj_G) (hI : pj_Inv G0) (ul : Int32) (bk : Int32) (rul : (-1 : Int) ≤ ul.toInt ∧ ul.toInt ≤ 7) (rbk : (0 : Int) ≤ bk.toInt ∧ bk.toInt ≤ 8) : pj_Inv (F_87x G0 ul bk).2 ∧ pj_kpt kc_87x G0 (F_87x G0 ul bk).2 ∧ ((0 : Int) ≤ (F_87x G0 ul bk).1.toInt ∧ (F_87x G0 ul bk).1.toInt ≤ 7) ∧ ((pj_fi G0 2 4).toInt ≠ -1 → (pj_fi (F_87x G0 ul bk).2 2 4).toInt ≠ -1) := by
  obtain ⟨v, G', -, y, -, i, j, r, x, e⟩ := ct_87x G0 hI ul bk rul rbk
  rw [← e]
  exact ⟨i, j, r, x _ rfl⟩
