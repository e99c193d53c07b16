def kc_36nx : pj_KT := ([(53, 2)], [53], [])
noncomputable def F_36nx (G0 : pj_G) : pj_G := pj_nm (pj_wv G0 53 2 (.int (Int32.ofInt 0))) (fun G2 => G2)
theorem F_36nx_e (G0 : pj_G) : F_36nx G0 = pj_nm (pj_wv G0 53 2 (.int (Int32.ofInt 0))) (fun G2 => G2) := rfl
theorem ct_36nx (G0 : pj_G) (hI : pj_Inv G0) : pj_Y 1 36 [.ref 53] G0 (fun v' G' => v' = none ∧ pj_Inv G' ∧ pj_kpt kc_36nx G0 G' ∧ ((pj_fi G' 53 2).toInt = 0) ∧ (G' = F_36nx G0)) := by
  have c0_ : (Int32.ofInt 0).toInt = 0 := by decide
  refine pj_Y_X (M := pj_m36) rfl rfl (Nat.le_of_ble_eq_true rfl) ?_
  have hK : pj_kpt kc_36nx G0 G0 := pj_kpt_r _ _
  show pj_X _ _ G0 0 [(0, .ref 53)] [] _
  rw [F_36nx_e]
  obtain ⟨y1, hy1⟩ : ∃ z : Int32, z = pj_fi G0 53 2 := ⟨_, rfl⟩
  have ey1 : (pj_fi G0 53 2).toInt = y1.toInt := by rw [hy1]
  have ry1 : (0 : Int) ≤ y1.toInt ∧ y1.toInt ≤ 15 := by rw [hy1]; exact hI.2.1 53 2 (0, 15) rfl
  refine pj_X_of (fun r h => pj_R_to (G0, 2, [(0, .ref 53)], [.int (Int32.ofInt 0), .ref 53], 0, 0) 2 3 (fun _ => rfl) h) ?_
  refine pj_X_of (fun r h => pj_T_pf hI rfl rfl rfl h) ?_
  show pj_X _ _ (pj_wv G0 53 2 (.int (Int32.ofInt 0))) 5 [(0, .ref 53)] [] _
  obtain ⟨G2, hG2⟩ : ∃ H, H = pj_wv G0 53 2 (.int (Int32.ofInt 0)) := ⟨_, rfl⟩
  have iG2 : pj_Inv G2 := by rw [hG2]; exact pj_Inv_wi hI (ci := 4) rfl (fun q hq => by cases hq; exact ⟨by show (0 : Int) ≤ _; omega, by show _ ≤ (15 : Int); omega⟩)
  have kG2 : pj_kpt kc_36nx G0 G2 := by rw [hG2]; exact pj_kpt_v hK rfl
  rw [← hG2]
  rw [pj_nm_e]
  have q3 : (pj_fi G2 53 2).toInt = (Int32.ofInt 0).toInt := by rw [show pj_fi G2 53 2 = Int32.ofInt 0 from by rw [hG2]; exact pj_fi_wi hI.1 (ci := 4) rfl _]
  exact pj_X_rt rfl rfl ⟨rfl, iG2, kG2, by omega, rfl⟩
theorem fr_36nx (G0 : pj_G) (hI : pj_Inv G0) : pj_Inv (F_36nx G0) ∧ pj_kpt kc_36nx G0 (F_36nx G0) ∧ ((pj_fi (F_36nx G0) 53 2).toInt = 0) := by
  obtain ⟨v, G', -, -, i, j, x, e⟩ := ct_36nx G0 hI 
  rw [← e]
  exact ⟨i, j, x⟩
noncomputable def F_39nkx (G0 : pj_G) (i : Int32) : Int32 := cond (pj_c1 .lt i 0) (Int32.ofInt 0) (cond (pj_c1 .ge i (Int32.ofInt 3)) (Int32.ofInt 0) (pj_nm (pj_ai G0 56 i.toInt.toNat) (fun z27 => cond (pj_c1 .eq z27 0) (Int32.ofInt 0) (if i.toInt = 0 then (pj_nm (pj_fi G0 153 0) (fun y3 => pj_nm (pj_fi G0 21 0) (fun y1 => cond (pj_c1 .ne y3 y1) (Int32.ofInt 0) (pj_nm (pj_fi G0 153 5) (fun y4 => pj_nm (pj_fi G0 21 5) (fun y2 => cond (pj_c1 .ne y4 y2) (Int32.ofInt 0) (Int32.ofInt 1))))))) else (if i.toInt = 1 then (pj_nm (pj_fi G0 159 0) (fun y5 => pj_nm (pj_fi G0 21 0) (fun y1 => cond (pj_c1 .ne y5 y1) (Int32.ofInt 0) (pj_nm (pj_fi G0 159 5) (fun y6 => pj_nm (pj_fi G0 21 5) (fun y2 => cond (pj_c1 .ne y6 y2) (Int32.ofInt 0) (Int32.ofInt 1))))))) else (pj_nm (pj_fi G0 165 0) (fun y7 => pj_nm (pj_fi G0 21 0) (fun y1 => cond (pj_c1 .ne y7 y1) (Int32.ofInt 0) (pj_nm (pj_fi G0 165 5) (fun y8 => pj_nm (pj_fi G0 21 5) (fun y2 => cond (pj_c1 .ne y8 y2) (Int32.ofInt 0) (Int32.ofInt 1))))))))))))
theorem F_39nkx_e (G0 : pj_G) (i : Int32) : F_39nkx G0 i = cond (pj_c1 .lt i 0) (Int32.ofInt 0) (cond (pj_c1 .ge i (Int32.ofInt 3)) (Int32.ofInt 0) (pj_nm (pj_ai G0 56 i.toInt.toNat) (fun z27 => cond (pj_c1 .eq z27 0) (Int32.ofInt 0) (if i.toInt = 0 then (pj_nm (pj_fi G0 153 0) (fun y3 => pj_nm (pj_fi G0 21 0) (fun y1 => cond (pj_c1 .ne y3 y1) (Int32.ofInt 0) (pj_nm (pj_fi G0 153 5) (fun y4 => pj_nm (pj_fi G0 21 5) (fun y2 => cond (pj_c1 .ne y4 y2) (Int32.ofInt 0) (Int32.ofInt 1))))))) else (if i.toInt = 1 then (pj_nm (pj_fi G0 159 0) (fun y5 => pj_nm (pj_fi G0 21 0) (fun y1 => cond (pj_c1 .ne y5 y1) (Int32.ofInt 0) (pj_nm (pj_fi G0 159 5) (fun y6 => pj_nm (pj_fi G0 21 5) (fun y2 => cond (pj_c1 .ne y6 y2) (Int32.ofInt 0) (Int32.ofInt 1))))))) else (pj_nm (pj_fi G0 165 0) (fun y7 => pj_nm (pj_fi G0 21 0) (fun y1 => cond (pj_c1 .ne y7 y1) (Int32.ofInt 0) (pj_nm (pj_fi G0 165 5) (fun y8 => pj_nm (pj_fi G0 21 5) (fun y2 => cond (pj_c1 .ne y8 y2) (Int32.ofInt 0) (Int32.ofInt 1)))))))))))) := rfl
theorem ct_39nkx (G0 : pj_G) (hI : pj_Inv G0) (i : Int32) : pj_Y 1 39 [.ref 53, .int i, .ref 21] G0 (fun v' G' => ∃ y : Int32, v' = some (.int y) ∧ G0 = G' ∧ ((0 : Int) ≤ y.toInt ∧ y.toInt ≤ 1) ∧ (∀ H, G0 = H → ((1 ≤ y.toInt → 0 ≤ i.toInt ∧ i.toInt ≤ 2 ∧ (i.toInt = 0 → (pj_fi H 153 0).toInt = (pj_fi H 21 0).toInt ∧ (pj_fi H 153 5).toInt = (pj_fi H 21 5).toInt) ∧ (i.toInt = 1 → (pj_fi H 159 0).toInt = (pj_fi H 21 0).toInt ∧ (pj_fi H 159 5).toInt = (pj_fi H 21 5).toInt) ∧ (i.toInt = 2 → (pj_fi H 165 0).toInt = (pj_fi H 21 0).toInt ∧ (pj_fi H 165 5).toInt = (pj_fi H 21 5).toInt)) ∧ ((1 ≤ y.toInt → (0 ≤ i.toInt ∧ i.toInt ≤ 2 ∧ ¬ (pj_ai H 56 i.toInt.toNat).toInt = 0 ∧ ((i.toInt = 0 → (pj_fi H 153 0).toInt = (pj_fi H 21 0).toInt ∧ (pj_fi H 153 5).toInt = (pj_fi H 21 5).toInt) ∧ (i.toInt = 1 → (pj_fi H 159 0).toInt = (pj_fi H 21 0).toInt ∧ (pj_fi H 159 5).toInt = (pj_fi H 21 5).toInt) ∧ (i.toInt = 2 → (pj_fi H 165 0).toInt = (pj_fi H 21 0).toInt ∧ (pj_fi H 165 5).toInt = (pj_fi H 21 5).toInt)))) ∧ (y.toInt = 0 → ¬ (0 ≤ i.toInt ∧ i.toInt ≤ 2 ∧ ¬ (pj_ai H 56 i.toInt.toNat).toInt = 0 ∧ ((i.toInt = 0 → (pj_fi H 153 0).toInt = (pj_fi H 21 0).toInt ∧ (pj_fi H 153 5).toInt = (pj_fi H 21 5).toInt) ∧ (i.toInt = 1 → (pj_fi H 159 0).toInt = (pj_fi H 21 0).toInt ∧ (pj_fi H 159 5).toInt = (pj_fi H 21 5).toInt) ∧ (i.toInt = 2 → (pj_fi H 165 0).toInt = (pj_fi H 21 0).toInt ∧ (pj_fi H 165 5).toInt = (pj_fi H 21 5).toInt))))))) ∧ (y = F_39nkx G0 i)) := by
  have c0_ : (Int32.ofInt 0).toInt = 0 := by decide
  have c1_ : (Int32.ofInt 1).toInt = 1 := by decide
  have c2_ : (Int32.ofInt 3).toInt = 3 := by decide
  refine pj_Y_X (M := pj_m39) rfl rfl (Nat.le_of_ble_eq_true rfl) ?_
  have hK : pj_kpt ([], [], []) G0 G0 := pj_kpt_r _ _
  show pj_X _ _ G0 0 [(0, .ref 53), (1, .int i), (2, .ref 21)] [] _
  rw [F_39nkx_e]
  obtain ⟨y1, hy1⟩ : ∃ z : Int32, z = pj_fi G0 21 0 := ⟨_, rfl⟩
  have ey1 : (pj_fi G0 21 0).toInt = y1.toInt := by rw [hy1]
  have ry1 : (0 : Int) ≤ y1.toInt ∧ y1.toInt ≤ 6 := by rw [hy1]; exact hI.2.1 21 0 (0, 6) rfl
  obtain ⟨y2, hy2⟩ : ∃ z : Int32, z = pj_fi G0 21 5 := ⟨_, rfl⟩
  have ey2 : (pj_fi G0 21 5).toInt = y2.toInt := by rw [hy2]
  have ry2 : (0 : Int) ≤ y2.toInt ∧ y2.toInt ≤ 6 := by rw [hy2]; exact hI.2.1 21 5 (0, 6) rfl
  obtain ⟨y3, hy3⟩ : ∃ z : Int32, z = pj_fi G0 153 0 := ⟨_, rfl⟩
  have ey3 : (pj_fi G0 153 0).toInt = y3.toInt := by rw [hy3]
  have ry3 : (0 : Int) ≤ y3.toInt ∧ y3.toInt ≤ 6 := by rw [hy3]; exact hI.2.1 153 0 (0, 6) rfl
  obtain ⟨y4, hy4⟩ : ∃ z : Int32, z = pj_fi G0 153 5 := ⟨_, rfl⟩
  have ey4 : (pj_fi G0 153 5).toInt = y4.toInt := by rw [hy4]
  have ry4 : (0 : Int) ≤ y4.toInt ∧ y4.toInt ≤ 6 := by rw [hy4]; exact hI.2.1 153 5 (0, 6) rfl
  obtain ⟨y5, hy5⟩ : ∃ z : Int32, z = pj_fi G0 159 0 := ⟨_, rfl⟩
  have ey5 : (pj_fi G0 159 0).toInt = y5.toInt := by rw [hy5]
  have ry5 : (0 : Int) ≤ y5.toInt ∧ y5.toInt ≤ 6 := by rw [hy5]; exact hI.2.1 159 0 (0, 6) rfl
  obtain ⟨y6, hy6⟩ : ∃ z : Int32, z = pj_fi G0 159 5 := ⟨_, rfl⟩
  have ey6 : (pj_fi G0 159 5).toInt = y6.toInt := by rw [hy6]
  have ry6 : (0 : Int) ≤ y6.toInt ∧ y6.toInt ≤ 6 := by rw [hy6]; exact hI.2.1 159 5 (0, 6) rfl
  obtain ⟨y7, hy7⟩ : ∃ z : Int32, z = pj_fi G0 165 0 := ⟨_, rfl⟩
  have ey7 : (pj_fi G0 165 0).toInt = y7.toInt := by rw [hy7]
  have ry7 : (0 : Int) ≤ y7.toInt ∧ y7.toInt ≤ 6 := by rw [hy7]; exact hI.2.1 165 0 (0, 6) rfl
  obtain ⟨y8, hy8⟩ : ∃ z : Int32, z = pj_fi G0 165 5 := ⟨_, rfl⟩
  have ey8 : (pj_fi G0 165 5).toInt = y8.toInt := by rw [hy8]
  have ry8 : (0 : Int) ≤ y8.toInt ∧ y8.toInt ≤ 6 := by rw [hy8]; exact hI.2.1 165 5 (0, 6) rfl
  refine pj_X_of (fun r h => pj_R_to (G0, 1, [(0, .ref 53), (1, .int i), (2, .ref 21)], [.int i], 0, 0) 1 2 (fun _ => rfl) h) ?_
  cases b9 : pj_c1 .lt i 0 with
  | true =>
    rw [pj_cT]
    have ub9 := pj_u0_ltT b9
    refine pj_X_of (fun r h => pj_R_ifT 54 rfl rfl b9 h) ?_
    refine pj_X_of (fun r h => pj_R_to (G0, 55, [(0, .ref 53), (1, .int i), (2, .ref 21)], [.int (Int32.ofInt 0)], 0, 0) 55 2 (fun _ => rfl) h) ?_
    have q10 : (pj_fi G0 21 0).toInt = y1.toInt := by rw [show pj_fi G0 21 0 = y1 from hy1.symm]
    have q11 : (pj_fi G0 21 5).toInt = y2.toInt := by rw [show pj_fi G0 21 5 = y2 from hy2.symm]
    have q12 : (pj_fi G0 153 0).toInt = y3.toInt := by rw [show pj_fi G0 153 0 = y3 from hy3.symm]
    have q13 : (pj_fi G0 153 5).toInt = y4.toInt := by rw [show pj_fi G0 153 5 = y4 from hy4.symm]
    have q14 : (pj_fi G0 159 0).toInt = y5.toInt := by rw [show pj_fi G0 159 0 = y5 from hy5.symm]
    have q15 : (pj_fi G0 159 5).toInt = y6.toInt := by rw [show pj_fi G0 159 5 = y6 from hy6.symm]
    have q16 : (pj_fi G0 165 0).toInt = y7.toInt := by rw [show pj_fi G0 165 0 = y7 from hy7.symm]
    have q17 : (pj_fi G0 165 5).toInt = y8.toInt := by rw [show pj_fi G0 165 5 = y8 from hy8.symm]
    exact pj_X_rt rfl rfl ⟨_, rfl, rfl, ⟨by omega, by omega⟩, (fun H hH => by subst hH; exact (⟨by omega, ⟨by omega, by omega⟩⟩)), rfl⟩
  | false =>
    rw [pj_cF]
    have ub9 := pj_u0_ltF b9
    refine pj_X_of (fun r h => pj_R_ifF rfl b9 h) ?_
    refine pj_X_of (fun r h => pj_R_to (G0, 6, [(0, .ref 53), (1, .int i), (2, .ref 21)], [.int (Int32.ofInt 3), .int i], 0, 0) 6 3 (fun _ => rfl) h) ?_
    cases b18 : pj_c1 .ge i (Int32.ofInt 3) with
    | true =>
      rw [pj_cT]
      have ub18 := pj_u_geT b18
      refine pj_X_of (fun r h => pj_R_icT 54 rfl rfl b18 h) ?_
      refine pj_X_of (fun r h => pj_R_to (G0, 55, [(0, .ref 53), (1, .int i), (2, .ref 21)], [.int (Int32.ofInt 0)], 0, 0) 55 2 (fun _ => rfl) h) ?_
      have q19 : (pj_fi G0 21 0).toInt = y1.toInt := by rw [show pj_fi G0 21 0 = y1 from hy1.symm]
      have q20 : (pj_fi G0 21 5).toInt = y2.toInt := by rw [show pj_fi G0 21 5 = y2 from hy2.symm]
      have q21 : (pj_fi G0 153 0).toInt = y3.toInt := by rw [show pj_fi G0 153 0 = y3 from hy3.symm]
      have q22 : (pj_fi G0 153 5).toInt = y4.toInt := by rw [show pj_fi G0 153 5 = y4 from hy4.symm]
      have q23 : (pj_fi G0 159 0).toInt = y5.toInt := by rw [show pj_fi G0 159 0 = y5 from hy5.symm]
      have q24 : (pj_fi G0 159 5).toInt = y6.toInt := by rw [show pj_fi G0 159 5 = y6 from hy6.symm]
      have q25 : (pj_fi G0 165 0).toInt = y7.toInt := by rw [show pj_fi G0 165 0 = y7 from hy7.symm]
      have q26 : (pj_fi G0 165 5).toInt = y8.toInt := by rw [show pj_fi G0 165 5 = y8 from hy8.symm]
      exact pj_X_rt rfl rfl ⟨_, rfl, rfl, ⟨by omega, by omega⟩, (fun H hH => by subst hH; exact (⟨by omega, ⟨by omega, by omega⟩⟩)), rfl⟩
    | false =>
      rw [pj_cF]
      have ub18 := pj_u_geF b18
      refine pj_X_of (fun r h => pj_R_icF rfl b18 h) ?_
      refine pj_X_of (fun r h => pj_R_to (G0, 10, [(0, .ref 53), (1, .int i), (2, .ref 21)], [.ref 53], 0, 0) 10 2 (fun _ => rfl) h) ?_
      refine pj_X_of (fun r h => pj_T_gr hI rfl rfl rfl h) ?_
      refine pj_X_of (fun r h => pj_R_to (G0, 14, [(0, .ref 53), (1, .int i), (2, .ref 21)], [.int i, .ref 56], 0, 0) 14 2 (fun _ => rfl) h) ?_
      refine pj_X_of (fun r h => pj_T_bl hI rfl rfl (by omega) (by omega) h) ?_
      show pj_X _ _ G0 15 [(0, .ref 53), (1, .int i), (2, .ref 21)] [.int (pj_ai G0 56 i.toInt.toNat)] _
      obtain ⟨z27, hz27⟩ : ∃ z : Int32, z = pj_ai G0 56 i.toInt.toNat := ⟨_, rfl⟩
      refine pj_X_eqi hz27.symm ?_
      rw [← hz27, pj_nm_e]
      have ez27 : (pj_ai G0 56 i.toInt.toNat).toInt = z27.toInt := by rw [hz27]
      cases b28 : pj_c1 .eq z27 0 with
      | true =>
        rw [pj_cT]
        have ub28 := pj_u0_eqT b28
        refine pj_X_of (fun r h => pj_R_ifT 54 rfl rfl b28 h) ?_
        refine pj_X_of (fun r h => pj_R_to (G0, 55, [(0, .ref 53), (1, .int i), (2, .ref 21)], [.int (Int32.ofInt 0)], 0, 0) 55 2 (fun _ => rfl) h) ?_
        have q29 : (pj_fi G0 21 0).toInt = y1.toInt := by rw [show pj_fi G0 21 0 = y1 from hy1.symm]
        have q30 : (pj_fi G0 21 5).toInt = y2.toInt := by rw [show pj_fi G0 21 5 = y2 from hy2.symm]
        have q31 : (pj_fi G0 153 0).toInt = y3.toInt := by rw [show pj_fi G0 153 0 = y3 from hy3.symm]
        have q32 : (pj_fi G0 153 5).toInt = y4.toInt := by rw [show pj_fi G0 153 5 = y4 from hy4.symm]
        have q33 : (pj_fi G0 159 0).toInt = y5.toInt := by rw [show pj_fi G0 159 0 = y5 from hy5.symm]
        have q34 : (pj_fi G0 159 5).toInt = y6.toInt := by rw [show pj_fi G0 159 5 = y6 from hy6.symm]
        have q35 : (pj_fi G0 165 0).toInt = y7.toInt := by rw [show pj_fi G0 165 0 = y7 from hy7.symm]
        have q36 : (pj_fi G0 165 5).toInt = y8.toInt := by rw [show pj_fi G0 165 5 = y8 from hy8.symm]
        exact pj_X_rt rfl rfl ⟨_, rfl, rfl, ⟨by omega, by omega⟩, (fun H hH => by subst hH; exact (⟨by omega, ⟨by omega, by omega⟩⟩)), rfl⟩
      | false =>
        rw [pj_cF]
        have ub28 := pj_u0_eqF b28
        refine pj_X_of (fun r h => pj_R_ifF rfl b28 h) ?_
        refine pj_X_of (fun r h => pj_R_to (G0, 19, [(0, .ref 53), (1, .int i), (2, .ref 21)], [.ref 53], 0, 0) 19 2 (fun _ => rfl) h) ?_
        refine pj_X_of (fun r h => pj_T_gr hI rfl rfl rfl h) ?_
        refine pj_X_of (fun r h => pj_R_to (G0, 23, [(0, .ref 53), (1, .int i), (2, .ref 21)], [.int i, .ref 55], 0, 0) 23 2 (fun _ => rfl) h) ?_
        by_cases t37 : i.toInt = 0
        · refine pj_X_aa hI rfl rfl (k := 0) (by show _ = ((0 : Nat) : Int); omega) (by decide) rfl ?_
          rw [if_pos t37]
          refine pj_X_of (fun r h => pj_T_gi hI rfl rfl h) ?_
          show pj_X _ _ G0 27 [(0, .ref 53), (1, .int i), (2, .ref 21)] [.int (pj_fi G0 153 0)] _
          rw [← hy3, pj_nm_e]
          refine pj_X_of (fun r h => pj_R_to (G0, 28, [(0, .ref 53), (1, .int i), (2, .ref 21)], [.ref 21, .int y3], 0, 0) 28 2 (fun _ => rfl) h) ?_
          refine pj_X_of (fun r h => pj_T_gi hI rfl rfl h) ?_
          show pj_X _ _ G0 31 [(0, .ref 53), (1, .int i), (2, .ref 21)] [.int (pj_fi G0 21 0), .int y3] _
          rw [← hy1, pj_nm_e]
          cases b38 : pj_c1 .ne y3 y1 with
          | true =>
            rw [pj_cT]
            have ub38 := pj_u_neT b38
            refine pj_X_of (fun r h => pj_R_icT 54 rfl rfl b38 h) ?_
            refine pj_X_of (fun r h => pj_R_to (G0, 55, [(0, .ref 53), (1, .int i), (2, .ref 21)], [.int (Int32.ofInt 0)], 0, 0) 55 2 (fun _ => rfl) h) ?_
            have q39 : (pj_fi G0 21 0).toInt = y1.toInt := by rw [show pj_fi G0 21 0 = y1 from hy1.symm]
            have q40 : (pj_fi G0 21 5).toInt = y2.toInt := by rw [show pj_fi G0 21 5 = y2 from hy2.symm]
            have q41 : (pj_fi G0 153 0).toInt = y3.toInt := by rw [show pj_fi G0 153 0 = y3 from hy3.symm]
            have q42 : (pj_fi G0 153 5).toInt = y4.toInt := by rw [show pj_fi G0 153 5 = y4 from hy4.symm]
            have q43 : (pj_fi G0 159 0).toInt = y5.toInt := by rw [show pj_fi G0 159 0 = y5 from hy5.symm]
            have q44 : (pj_fi G0 159 5).toInt = y6.toInt := by rw [show pj_fi G0 159 5 = y6 from hy6.symm]
            have q45 : (pj_fi G0 165 0).toInt = y7.toInt := by rw [show pj_fi G0 165 0 = y7 from hy7.symm]
            have q46 : (pj_fi G0 165 5).toInt = y8.toInt := by rw [show pj_fi G0 165 5 = y8 from hy8.symm]
            exact pj_X_rt rfl rfl ⟨_, rfl, rfl, ⟨by omega, by omega⟩, (fun H hH => by subst hH; exact (⟨by omega, ⟨by omega, by omega⟩⟩)), rfl⟩
          | false =>
            rw [pj_cF]
            have ub38 := pj_u_neF b38
            refine pj_X_of (fun r h => pj_R_icF rfl b38 h) ?_
            refine pj_X_of (fun r h => pj_R_to (G0, 35, [(0, .ref 53), (1, .int i), (2, .ref 21)], [.ref 53], 0, 0) 35 2 (fun _ => rfl) h) ?_
            refine pj_X_of (fun r h => pj_T_gr hI rfl rfl rfl h) ?_
            refine pj_X_of (fun r h => pj_R_to (G0, 39, [(0, .ref 53), (1, .int i), (2, .ref 21)], [.int i, .ref 55], 0, 0) 39 2 (fun _ => rfl) h) ?_
            · refine pj_X_aa hI rfl rfl (k := 0) (by show _ = ((0 : Nat) : Int); omega) (by decide) rfl ?_
              refine pj_X_of (fun r h => pj_T_gi hI rfl rfl h) ?_
              show pj_X _ _ G0 43 [(0, .ref 53), (1, .int i), (2, .ref 21)] [.int (pj_fi G0 153 5)] _
              rw [← hy4, pj_nm_e]
              refine pj_X_of (fun r h => pj_R_to (G0, 44, [(0, .ref 53), (1, .int i), (2, .ref 21)], [.ref 21, .int y4], 0, 0) 44 2 (fun _ => rfl) h) ?_
              refine pj_X_of (fun r h => pj_T_gi hI rfl rfl h) ?_
              show pj_X _ _ G0 47 [(0, .ref 53), (1, .int i), (2, .ref 21)] [.int (pj_fi G0 21 5), .int y4] _
              rw [← hy2, pj_nm_e]
              cases b47 : pj_c1 .ne y4 y2 with
              | true =>
                rw [pj_cT]
                have ub47 := pj_u_neT b47
                refine pj_X_of (fun r h => pj_R_icT 54 rfl rfl b47 h) ?_
                refine pj_X_of (fun r h => pj_R_to (G0, 55, [(0, .ref 53), (1, .int i), (2, .ref 21)], [.int (Int32.ofInt 0)], 0, 0) 55 2 (fun _ => rfl) h) ?_
                have q48 : (pj_fi G0 21 0).toInt = y1.toInt := by rw [show pj_fi G0 21 0 = y1 from hy1.symm]
                have q49 : (pj_fi G0 21 5).toInt = y2.toInt := by rw [show pj_fi G0 21 5 = y2 from hy2.symm]
                have q50 : (pj_fi G0 153 0).toInt = y3.toInt := by rw [show pj_fi G0 153 0 = y3 from hy3.symm]
                have q51 : (pj_fi G0 153 5).toInt = y4.toInt := by rw [show pj_fi G0 153 5 = y4 from hy4.symm]
                have q52 : (pj_fi G0 159 0).toInt = y5.toInt := by rw [show pj_fi G0 159 0 = y5 from hy5.symm]
                have q53 : (pj_fi G0 159 5).toInt = y6.toInt := by rw [show pj_fi G0 159 5 = y6 from hy6.symm]
                have q54 : (pj_fi G0 165 0).toInt = y7.toInt := by rw [show pj_fi G0 165 0 = y7 from hy7.symm]
                have q55 : (pj_fi G0 165 5).toInt = y8.toInt := by rw [show pj_fi G0 165 5 = y8 from hy8.symm]
                exact pj_X_rt rfl rfl ⟨_, rfl, rfl, ⟨by omega, by omega⟩, (fun H hH => by subst hH; exact (⟨by omega, ⟨by omega, by omega⟩⟩)), rfl⟩
              | false =>
                rw [pj_cF]
                have ub47 := pj_u_neF b47
                refine pj_X_of (fun r h => pj_R_icF rfl b47 h) ?_
                refine pj_X_of (fun r h => pj_R_to (G0, 55, [(0, .ref 53), (1, .int i), (2, .ref 21)], [.int (Int32.ofInt 1)], 0, 0) 55 3 (fun _ => rfl) h) ?_
                have q56 : (pj_fi G0 21 0).toInt = y1.toInt := by rw [show pj_fi G0 21 0 = y1 from hy1.symm]
                have q57 : (pj_fi G0 21 5).toInt = y2.toInt := by rw [show pj_fi G0 21 5 = y2 from hy2.symm]
                have q58 : (pj_fi G0 153 0).toInt = y3.toInt := by rw [show pj_fi G0 153 0 = y3 from hy3.symm]
                have q59 : (pj_fi G0 153 5).toInt = y4.toInt := by rw [show pj_fi G0 153 5 = y4 from hy4.symm]
                have q60 : (pj_fi G0 159 0).toInt = y5.toInt := by rw [show pj_fi G0 159 0 = y5 from hy5.symm]
                have q61 : (pj_fi G0 159 5).toInt = y6.toInt := by rw [show pj_fi G0 159 5 = y6 from hy6.symm]
                have q62 : (pj_fi G0 165 0).toInt = y7.toInt := by rw [show pj_fi G0 165 0 = y7 from hy7.symm]
                have q63 : (pj_fi G0 165 5).toInt = y8.toInt := by rw [show pj_fi G0 165 5 = y8 from hy8.symm]
                exact pj_X_rt rfl rfl ⟨_, rfl, rfl, ⟨by omega, by omega⟩, (fun H hH => by subst hH; exact (⟨by omega, ⟨by omega, by omega⟩⟩)), rfl⟩
        rw [if_neg t37]
        by_cases t64 : i.toInt = 1
        · refine pj_X_aa hI rfl rfl (k := 1) (by show _ = ((1 : Nat) : Int); omega) (by decide) rfl ?_
          rw [if_pos t64]
          refine pj_X_of (fun r h => pj_T_gi hI rfl rfl h) ?_
          show pj_X _ _ G0 27 [(0, .ref 53), (1, .int i), (2, .ref 21)] [.int (pj_fi G0 159 0)] _
          rw [← hy5, pj_nm_e]
          refine pj_X_of (fun r h => pj_R_to (G0, 28, [(0, .ref 53), (1, .int i), (2, .ref 21)], [.ref 21, .int y5], 0, 0) 28 2 (fun _ => rfl) h) ?_
          refine pj_X_of (fun r h => pj_T_gi hI rfl rfl h) ?_
          show pj_X _ _ G0 31 [(0, .ref 53), (1, .int i), (2, .ref 21)] [.int (pj_fi G0 21 0), .int y5] _
          rw [← hy1, pj_nm_e]
          cases b65 : pj_c1 .ne y5 y1 with
          | true =>
            rw [pj_cT]
            have ub65 := pj_u_neT b65
            refine pj_X_of (fun r h => pj_R_icT 54 rfl rfl b65 h) ?_
            refine pj_X_of (fun r h => pj_R_to (G0, 55, [(0, .ref 53), (1, .int i), (2, .ref 21)], [.int (Int32.ofInt 0)], 0, 0) 55 2 (fun _ => rfl) h) ?_
            have q66 : (pj_fi G0 21 0).toInt = y1.toInt := by rw [show pj_fi G0 21 0 = y1 from hy1.symm]
            have q67 : (pj_fi G0 21 5).toInt = y2.toInt := by rw [show pj_fi G0 21 5 = y2 from hy2.symm]
            have q68 : (pj_fi G0 153 0).toInt = y3.toInt := by rw [show pj_fi G0 153 0 = y3 from hy3.symm]
            have q69 : (pj_fi G0 153 5).toInt = y4.toInt := by rw [show pj_fi G0 153 5 = y4 from hy4.symm]
            have q70 : (pj_fi G0 159 0).toInt = y5.toInt := by rw [show pj_fi G0 159 0 = y5 from hy5.symm]
            have q71 : (pj_fi G0 159 5).toInt = y6.toInt := by rw [show pj_fi G0 159 5 = y6 from hy6.symm]
            have q72 : (pj_fi G0 165 0).toInt = y7.toInt := by rw [show pj_fi G0 165 0 = y7 from hy7.symm]
            have q73 : (pj_fi G0 165 5).toInt = y8.toInt := by rw [show pj_fi G0 165 5 = y8 from hy8.symm]
            exact pj_X_rt rfl rfl ⟨_, rfl, rfl, ⟨by omega, by omega⟩, (fun H hH => by subst hH; exact (⟨by omega, ⟨by omega, by omega⟩⟩)), rfl⟩
          | false =>
            rw [pj_cF]
            have ub65 := pj_u_neF b65
            refine pj_X_of (fun r h => pj_R_icF rfl b65 h) ?_
            refine pj_X_of (fun r h => pj_R_to (G0, 35, [(0, .ref 53), (1, .int i), (2, .ref 21)], [.ref 53], 0, 0) 35 2 (fun _ => rfl) h) ?_
            refine pj_X_of (fun r h => pj_T_gr hI rfl rfl rfl h) ?_
            refine pj_X_of (fun r h => pj_R_to (G0, 39, [(0, .ref 53), (1, .int i), (2, .ref 21)], [.int i, .ref 55], 0, 0) 39 2 (fun _ => rfl) h) ?_
            · refine pj_X_aa hI rfl rfl (k := 1) (by show _ = ((1 : Nat) : Int); omega) (by decide) rfl ?_
              refine pj_X_of (fun r h => pj_T_gi hI rfl rfl h) ?_
              show pj_X _ _ G0 43 [(0, .ref 53), (1, .int i), (2, .ref 21)] [.int (pj_fi G0 159 5)] _
              rw [← hy6, pj_nm_e]
              refine pj_X_of (fun r h => pj_R_to (G0, 44, [(0, .ref 53), (1, .int i), (2, .ref 21)], [.ref 21, .int y6], 0, 0) 44 2 (fun _ => rfl) h) ?_
              refine pj_X_of (fun r h => pj_T_gi hI rfl rfl h) ?_
              show pj_X _ _ G0 47 [(0, .ref 53), (1, .int i), (2, .ref 21)] [.int (pj_fi G0 21 5), .int y6] _
              rw [← hy2, pj_nm_e]
              cases b74 : pj_c1 .ne y6 y2 with
              | true =>
                rw [pj_cT]
                have ub74 := pj_u_neT b74
                refine pj_X_of (fun r h => pj_R_icT 54 rfl rfl b74 h) ?_
                refine pj_X_of (fun r h => pj_R_to (G0, 55, [(0, .ref 53), (1, .int i), (2, .ref 21)], [.int (Int32.ofInt 0)], 0, 0) 55 2 (fun _ => rfl) h) ?_
                have q75 : (pj_fi G0 21 0).toInt = y1.toInt := by rw [show pj_fi G0 21 0 = y1 from hy1.symm]
                have q76 : (pj_fi G0 21 5).toInt = y2.toInt := by rw [show pj_fi G0 21 5 = y2 from hy2.symm]
                have q77 : (pj_fi G0 153 0).toInt = y3.toInt := by rw [show pj_fi G0 153 0 = y3 from hy3.symm]
                have q78 : (pj_fi G0 153 5).toInt = y4.toInt := by rw [show pj_fi G0 153 5 = y4 from hy4.symm]
                have q79 : (pj_fi G0 159 0).toInt = y5.toInt := by rw [show pj_fi G0 159 0 = y5 from hy5.symm]
                have q80 : (pj_fi G0 159 5).toInt = y6.toInt := by rw [show pj_fi G0 159 5 = y6 from hy6.symm]
                have q81 : (pj_fi G0 165 0).toInt = y7.toInt := by rw [show pj_fi G0 165 0 = y7 from hy7.symm]
                have q82 : (pj_fi G0 165 5).toInt = y8.toInt := by rw [show pj_fi G0 165 5 = y8 from hy8.symm]
                exact pj_X_rt rfl rfl ⟨_, rfl, rfl, ⟨by omega, by omega⟩, (fun H hH => by subst hH; exact (⟨by omega, ⟨by omega, by omega⟩⟩)), rfl⟩
              | false =>
                rw [pj_cF]
                have ub74 := pj_u_neF b74
                refine pj_X_of (fun r h => pj_R_icF rfl b74 h) ?_
                refine pj_X_of (fun r h => pj_R_to (G0, 55, [(0, .ref 53), (1, .int i), (2, .ref 21)], [.int (Int32.ofInt 1)], 0, 0) 55 3 (fun _ => rfl) h) ?_
                have q83 : (pj_fi G0 21 0).toInt = y1.toInt := by rw [show pj_fi G0 21 0 = y1 from hy1.symm]
                have q84 : (pj_fi G0 21 5).toInt = y2.toInt := by rw [show pj_fi G0 21 5 = y2 from hy2.symm]
                have q85 : (pj_fi G0 153 0).toInt = y3.toInt := by rw [show pj_fi G0 153 0 = y3 from hy3.symm]
                have q86 : (pj_fi G0 153 5).toInt = y4.toInt := by rw [show pj_fi G0 153 5 = y4 from hy4.symm]
                have q87 : (pj_fi G0 159 0).toInt = y5.toInt := by rw [show pj_fi G0 159 0 = y5 from hy5.symm]
                have q88 : (pj_fi G0 159 5).toInt = y6.toInt := by rw [show pj_fi G0 159 5 = y6 from hy6.symm]
                have q89 : (pj_fi G0 165 0).toInt = y7.toInt := by rw [show pj_fi G0 165 0 = y7 from hy7.symm]
                have q90 : (pj_fi G0 165 5).toInt = y8.toInt := by rw [show pj_fi G0 165 5 = y8 from hy8.symm]
                exact pj_X_rt rfl rfl ⟨_, rfl, rfl, ⟨by omega, by omega⟩, (fun H hH => by subst hH; exact (⟨by omega, ⟨by omega, by omega⟩⟩)), rfl⟩
        rw [if_neg t64]
        · refine pj_X_aa hI rfl rfl (k := 2) (by show _ = ((2 : Nat) : Int); omega) (by decide) rfl ?_
          refine pj_X_of (fun r h => pj_T_gi hI rfl rfl h) ?_
          show pj_X _ _ G0 27 [(0, .ref 53), (1, .int i), (2, .ref 21)] [.int (pj_fi G0 165 0)] _
          rw [← hy7, pj_nm_e]
          refine pj_X_of (fun r h => pj_R_to (G0, 28, [(0, .ref 53), (1, .int i), (2, .ref 21)], [.ref 21, .int y7], 0, 0) 28 2 (fun _ => rfl) h) ?_
          refine pj_X_of (fun r h => pj_T_gi hI rfl rfl h) ?_
          show pj_X _ _ G0 31 [(0, .ref 53), (1, .int i), (2, .ref 21)] [.int (pj_fi G0 21 0), .int y7] _
          rw [← hy1, pj_nm_e]
          cases b91 : pj_c1 .ne y7 y1 with
          | true =>
            rw [pj_cT]
            have ub91 := pj_u_neT b91
            refine pj_X_of (fun r h => pj_R_icT 54 rfl rfl b91 h) ?_
            refine pj_X_of (fun r h => pj_R_to (G0, 55, [(0, .ref 53), (1, .int i), (2, .ref 21)], [.int (Int32.ofInt 0)], 0, 0) 55 2 (fun _ => rfl) h) ?_
            have q92 : (pj_fi G0 21 0).toInt = y1.toInt := by rw [show pj_fi G0 21 0 = y1 from hy1.symm]
            have q93 : (pj_fi G0 21 5).toInt = y2.toInt := by rw [show pj_fi G0 21 5 = y2 from hy2.symm]
            have q94 : (pj_fi G0 153 0).toInt = y3.toInt := by rw [show pj_fi G0 153 0 = y3 from hy3.symm]
            have q95 : (pj_fi G0 153 5).toInt = y4.toInt := by rw [show pj_fi G0 153 5 = y4 from hy4.symm]
            have q96 : (pj_fi G0 159 0).toInt = y5.toInt := by rw [show pj_fi G0 159 0 = y5 from hy5.symm]
            have q97 : (pj_fi G0 159 5).toInt = y6.toInt := by rw [show pj_fi G0 159 5 = y6 from hy6.symm]
            have q98 : (pj_fi G0 165 0).toInt = y7.toInt := by rw [show pj_fi G0 165 0 = y7 from hy7.symm]
            have q99 : (pj_fi G0 165 5).toInt = y8.toInt := by rw [show pj_fi G0 165 5 = y8 from hy8.symm]
            exact pj_X_rt rfl rfl ⟨_, rfl, rfl, ⟨by omega, by omega⟩, (fun H hH => by subst hH; exact (⟨by omega, ⟨by omega, by omega⟩⟩)), rfl⟩
          | false =>
            rw [pj_cF]
            have ub91 := pj_u_neF b91
            refine pj_X_of (fun r h => pj_R_icF rfl b91 h) ?_
            refine pj_X_of (fun r h => pj_R_to (G0, 35, [(0, .ref 53), (1, .int i), (2, .ref 21)], [.ref 53], 0, 0) 35 2 (fun _ => rfl) h) ?_
            refine pj_X_of (fun r h => pj_T_gr hI rfl rfl rfl h) ?_
            refine pj_X_of (fun r h => pj_R_to (G0, 39, [(0, .ref 53), (1, .int i), (2, .ref 21)], [.int i, .ref 55], 0, 0) 39 2 (fun _ => rfl) h) ?_
            · refine pj_X_aa hI rfl rfl (k := 2) (by show _ = ((2 : Nat) : Int); omega) (by decide) rfl ?_
              refine pj_X_of (fun r h => pj_T_gi hI rfl rfl h) ?_
              show pj_X _ _ G0 43 [(0, .ref 53), (1, .int i), (2, .ref 21)] [.int (pj_fi G0 165 5)] _
              rw [← hy8, pj_nm_e]
              refine pj_X_of (fun r h => pj_R_to (G0, 44, [(0, .ref 53), (1, .int i), (2, .ref 21)], [.ref 21, .int y8], 0, 0) 44 2 (fun _ => rfl) h) ?_
              refine pj_X_of (fun r h => pj_T_gi hI rfl rfl h) ?_
              show pj_X _ _ G0 47 [(0, .ref 53), (1, .int i), (2, .ref 21)] [.int (pj_fi G0 21 5), .int y8] _
              rw [← hy2, pj_nm_e]
              cases b100 : pj_c1 .ne y8 y2 with
              | true =>
                rw [pj_cT]
                have ub100 := pj_u_neT b100
                refine pj_X_of (fun r h => pj_R_icT 54 rfl rfl b100 h) ?_
                refine pj_X_of (fun r h => pj_R_to (G0, 55, [(0, .ref 53), (1, .int i), (2, .ref 21)], [.int (Int32.ofInt 0)], 0, 0) 55 2 (fun _ => rfl) h) ?_
                have q101 : (pj_fi G0 21 0).toInt = y1.toInt := by rw [show pj_fi G0 21 0 = y1 from hy1.symm]
                have q102 : (pj_fi G0 21 5).toInt = y2.toInt := by rw [show pj_fi G0 21 5 = y2 from hy2.symm]
                have q103 : (pj_fi G0 153 0).toInt = y3.toInt := by rw [show pj_fi G0 153 0 = y3 from hy3.symm]
                have q104 : (pj_fi G0 153 5).toInt = y4.toInt := by rw [show pj_fi G0 153 5 = y4 from hy4.symm]
                have q105 : (pj_fi G0 159 0).toInt = y5.toInt := by rw [show pj_fi G0 159 0 = y5 from hy5.symm]
                have q106 : (pj_fi G0 159 5).toInt = y6.toInt := by rw [show pj_fi G0 159 5 = y6 from hy6.symm]
                have q107 : (pj_fi G0 165 0).toInt = y7.toInt := by rw [show pj_fi G0 165 0 = y7 from hy7.symm]
                have q108 : (pj_fi G0 165 5).toInt = y8.toInt := by rw [show pj_fi G0 165 5 = y8 from hy8.symm]
                exact pj_X_rt rfl rfl ⟨_, rfl, rfl, ⟨by omega, by omega⟩, (fun H hH => by subst hH; exact (⟨by omega, ⟨by omega, by omega⟩⟩)), rfl⟩
              | false =>
                rw [pj_cF]
                have ub100 := pj_u_neF b100
                refine pj_X_of (fun r h => pj_R_icF rfl b100 h) ?_
                refine pj_X_of (fun r h => pj_R_to (G0, 55, [(0, .ref 53), (1, .int i), (2, .ref 21)], [.int (Int32.ofInt 1)], 0, 0) 55 3 (fun _ => rfl) h) ?_
                have q109 : (pj_fi G0 21 0).toInt = y1.toInt := by rw [show pj_fi G0 21 0 = y1 from hy1.symm]
                have q110 : (pj_fi G0 21 5).toInt = y2.toInt := by rw [show pj_fi G0 21 5 = y2 from hy2.symm]
                have q111 : (pj_fi G0 153 0).toInt = y3.toInt := by rw [show pj_fi G0 153 0 = y3 from hy3.symm]
                have q112 : (pj_fi G0 153 5).toInt = y4.toInt := by rw [show pj_fi G0 153 5 = y4 from hy4.symm]
                have q113 : (pj_fi G0 159 0).toInt = y5.toInt := by rw [show pj_fi G0 159 0 = y5 from hy5.symm]
                have q114 : (pj_fi G0 159 5).toInt = y6.toInt := by rw [show pj_fi G0 159 5 = y6 from hy6.symm]
                have q115 : (pj_fi G0 165 0).toInt = y7.toInt := by rw [show pj_fi G0 165 0 = y7 from hy7.symm]
                have q116 : (pj_fi G0 165 5).toInt = y8.toInt := by rw [show pj_fi G0 165 5 = y8 from hy8.symm]
                exact pj_X_rt rfl rfl ⟨_, rfl, rfl, ⟨by omega, by omega⟩, (fun H hH => by subst hH; exact (⟨by omega, ⟨by omega, by omega⟩⟩)), rfl⟩
theorem fr_39nkx (G0 : pj_G) (hI : pj_Inv G0) (i : Int32) : ((0 : Int) ≤ (F_39nkx G0 i).toInt ∧ (F_39nkx G0 i).toInt ≤ 1) ∧ ((1 ≤ (F_39nkx G0 i).toInt → 0 ≤ i.toInt ∧ i.toInt ≤ 2 ∧ (i.toInt = 0 → (pj_fi G0 153 0).toInt = (pj_fi G0 21 0).toInt ∧ (pj_fi G0 153 5).toInt = (pj_fi G0 21 5).toInt) ∧ (i.toInt = 1 → (pj_fi G0 159 0).toInt = (pj_fi G0 21 0).toInt ∧ (pj_fi G0 159 5).toInt = (pj_fi G0 21 5).toInt) ∧ (i.toInt = 2 → (pj_fi G0 165 0).toInt = (pj_fi G0 21 0).toInt ∧ (pj_fi G0 165 5).toInt = (pj_fi G0 21 5).toInt)) ∧ ((1 ≤ (F_39nkx G0 i).toInt → (0 ≤ i.toInt ∧ i.toInt ≤ 2 ∧ ¬ (pj_ai G0 56 i.toInt.toNat).toInt = 0 ∧ ((i.toInt = 0 → (pj_fi G0 153 0).toInt = (pj_fi G0 21 0).toInt ∧ (pj_fi G0 153 5).toInt = (pj_fi G0 21 5).toInt) ∧ (i.toInt = 1 → (pj_fi G0 159 0).toInt = (pj_fi G0 21 0).toInt ∧ (pj_fi G0 159 5).toInt = (pj_fi G0 21 5).toInt) ∧ (i.toInt = 2 → (pj_fi G0 165 0).toInt = (pj_fi G0 21 0).toInt ∧ (pj_fi G0 165 5).toInt = (pj_fi G0 21 5).toInt)))) ∧ ((F_39nkx G0 i).toInt = 0 → ¬ (0 ≤ i.toInt ∧ i.toInt ≤ 2 ∧ ¬ (pj_ai G0 56 i.toInt.toNat).toInt = 0 ∧ ((i.toInt = 0 → (pj_fi G0 153 0).toInt = (pj_fi G0 21 0).toInt ∧ (pj_fi G0 153 5).toInt = (pj_fi G0 21 5).toInt) ∧ (i.toInt = 1 → (pj_fi G0 159 0).toInt = (pj_fi G0 21 0).toInt ∧ (pj_fi G0 159 5).toInt = (pj_fi G0 21 5).toInt) ∧ (i.toInt = 2 → (pj_fi G0 165 0).toInt = (pj_fi G0 21 0).toInt ∧ (pj_fi G0 165 5).toInt = (pj_fi G0 21 5).toInt)))))) := by
  obtain ⟨v, G', -, y, -, rfl, r, x, e⟩ := ct_39nkx G0 hI i
  rw [← e]
  exact ⟨r, x _ rfl⟩
def kc_38nx : pj_KT := ([(153, 0), (153, 5), (153, 7), (153, 8), (159, 0), (159, 5), (159, 7), (159, 8), (165, 0), (165, 5), (165, 7), (165, 8)], [56, 153, 154, 155, 156, 157, 158, 159, 160, 161, 162, 163, 164, 165, 166, 167, 168, 169, 170], [56, 154, 155, 156, 157, 158, 160, 161, 162, 163, 164, 166, 167, 168, 169, 170])
noncomputable def F_38nx (G0 : pj_G) (i : Int32) : Int32 × pj_G := cond (pj_c1 .lt i 0) ((Int32.ofInt 0, G0)) (cond (pj_c1 .lt i (Int32.ofInt 3)) (if i.toInt = 0 then (pj_nm (F_68_153_21x G0) (fun G5 => pj_nm (pj_wa G5 56 i.toInt.toNat (vp_nar .boolean (Int32.ofInt 1))) (fun G6 => (Int32.ofInt 1, G6)))) else (if i.toInt = 1 then (pj_nm (F_68_159_21x G0) (fun G9 => pj_nm (pj_wa G9 56 i.toInt.toNat (vp_nar .boolean (Int32.ofInt 1))) (fun G10 => (Int32.ofInt 1, G10)))) else (pj_nm (F_68_165_21x G0) (fun G12 => pj_nm (pj_wa G12 56 i.toInt.toNat (vp_nar .boolean (Int32.ofInt 1))) (fun G13 => (Int32.ofInt 1, G13)))))) ((Int32.ofInt 0, G0)))
theorem F_38nx_e (G0 : pj_G) (i : Int32) : F_38nx G0 i = cond (pj_c1 .lt i 0) ((Int32.ofInt 0, G0)) (cond (pj_c1 .lt i (Int32.ofInt 3)) (if i.toInt = 0 then (pj_nm (F_68_153_21x G0) (fun G5 => pj_nm (pj_wa G5 56 i.toInt.toNat (vp_nar .boolean (Int32.ofInt 1))) (fun G6 => (Int32.ofInt 1, G6)))) else (if i.toInt = 1 then (pj_nm (F_68_159_21x G0) (fun G9 => pj_nm (pj_wa G9 56 i.toInt.toNat (vp_nar .boolean (Int32.ofInt 1))) (fun G10 => (Int32.ofInt 1, G10)))) else (pj_nm (F_68_165_21x G0) (fun G12 => pj_nm (pj_wa G12 56 i.toInt.toNat (vp_nar .boolean (Int32.ofInt 1))) (fun G13 => (Int32.ofInt 1, G13)))))) ((Int32.ofInt 0, G0))) := rfl
theorem ct_38nx (G0 : pj_G) (hI : pj_Inv G0) (i : Int32) : pj_Y 2 38 [.ref 53, .int i, .ref 21] G0 (fun v' G' => ∃ y : Int32, v' = some (.int y) ∧ pj_Inv G' ∧ pj_kpt kc_38nx G0 G' ∧ ((0 : Int) ≤ y.toInt ∧ y.toInt ≤ 1) ∧ (∀ H, G0 = H → (mr_kp i H G' y)) ∧ ((y, G') = F_38nx G0 i)) := by
  have c0_ : (Int32.ofInt 0).toInt = 0 := by decide
  have c1_ : (Int32.ofInt 1).toInt = 1 := by decide
  have c2_ : (Int32.ofInt 3).toInt = 3 := by decide
  refine pj_Y_X (M := pj_m38) rfl rfl (Nat.le_of_ble_eq_true rfl) ?_
  have hK : pj_kpt kc_38nx G0 G0 := pj_kpt_r _ _
  show pj_X _ _ G0 0 [(0, .ref 53), (1, .int i), (2, .ref 21)] [] _
  rw [F_38nx_e]
  refine pj_X_of (fun r h => pj_R_to (G0, 1, [(0, .ref 53), (1, .int i), (2, .ref 21)], [.int i], 0, 0) 1 2 (fun _ => rfl) h) ?_
  cases b1 : pj_c1 .lt i 0 with
  | true =>
    rw [pj_cT]
    have ub1 := pj_u0_ltT b1
    refine pj_X_of (fun r h => pj_R_ifT 9 rfl rfl b1 h) ?_
    refine pj_X_of (fun r h => pj_R_to (G0, 10, [(0, .ref 53), (1, .int i), (2, .ref 21)], [.int (Int32.ofInt 0)], 0, 0) 10 2 (fun _ => rfl) h) ?_
    exact pj_X_rt rfl rfl ⟨_, rfl, hI, hK, ⟨by omega, by omega⟩, (fun H hH => by subst hH; exact (.inr ⟨by omega, by omega, rfl⟩)), rfl⟩
  | false =>
    rw [pj_cF]
    have ub1 := pj_u0_ltF b1
    refine pj_X_of (fun r h => pj_R_ifF rfl b1 h) ?_
    refine pj_X_of (fun r h => pj_R_to (G0, 6, [(0, .ref 53), (1, .int i), (2, .ref 21)], [.int (Int32.ofInt 3), .int i], 0, 0) 6 3 (fun _ => rfl) h) ?_
    cases b2 : pj_c1 .lt i (Int32.ofInt 3) with
    | true =>
      rw [pj_cT]
      have ub2 := pj_u_ltT b2
      refine pj_X_of (fun r h => pj_R_icT 11 rfl rfl b2 h) ?_
      refine pj_X_of (fun r h => pj_R_to (G0, 12, [(0, .ref 53), (1, .int i), (2, .ref 21)], [.ref 53], 0, 0) 12 2 (fun _ => rfl) h) ?_
      refine pj_X_of (fun r h => pj_T_gr hI rfl rfl rfl h) ?_
      refine pj_X_of (fun r h => pj_R_to (G0, 16, [(0, .ref 53), (1, .int i), (2, .ref 21)], [.int i, .ref 55], 0, 0) 16 2 (fun _ => rfl) h) ?_
      by_cases t3 : i.toInt = 0
      · refine pj_X_aa hI rfl rfl (k := 0) (by show _ = ((0 : Nat) : Int); omega) (by decide) rfl ?_
        rw [if_pos t3]
        refine pj_X_of (fun r h => pj_R_to (G0, 18, [(0, .ref 53), (1, .int i), (2, .ref 21)], [.ref 21, .ref 153], 0, 0) 18 2 (fun _ => rfl) h) ?_
        refine pj_X_ca (vs := [.ref 153, .ref 21]) rfl (fun _ => rfl) ⟨Nat.le_of_ble_eq_true rfl, Nat.le_of_ble_eq_true rfl, pj_T_rcv hI rfl⟩ ⟨rfl, rfl⟩ (pj_Y_up (by decide) (ct_68_153_21x G0 hI)) ?_
        rintro _ G5 ⟨rfl, iG5, jG5, eG5, fy4⟩
        replace eG5 := eG5 _ rfl
        rw [← fy4, pj_nm_e]
        have kG5 : pj_kpt kc_38nx G0 G5 := pj_kpt_t hK (pj_kpt_s jG5 rfl)
        show pj_X _ _ G5 21 [(0, .ref 53), (1, .int i), (2, .ref 21)] [] _
        refine pj_X_of (fun r h => pj_R_to (G5, 22, [(0, .ref 53), (1, .int i), (2, .ref 21)], [.ref 53], 0, 0) 22 2 (fun _ => rfl) h) ?_
        refine pj_X_of (fun r h => pj_T_gr iG5 rfl rfl rfl h) ?_
        refine pj_X_of (fun r h => pj_R_to (G5, 27, [(0, .ref 53), (1, .int i), (2, .ref 21)], [.int (Int32.ofInt 1), .int i, .ref 56], 0, 0) 27 3 (fun _ => rfl) h) ?_
        refine pj_X_of (fun r h => pj_T_bs iG5 rfl rfl (by omega) (by omega) h) ?_
        show pj_X _ _ (pj_wa G5 56 i.toInt.toNat (vp_nar .boolean (Int32.ofInt 1))) 28 [(0, .ref 53), (1, .int i), (2, .ref 21)] [] _
        obtain ⟨G6, hG6⟩ : ∃ H, H = pj_wa G5 56 i.toInt.toNat (vp_nar .boolean (Int32.ofInt 1)) := ⟨_, rfl⟩
        have iG6 : pj_Inv G6 := by rw [hG6]; exact pj_Inv_wb iG5 rfl rfl rfl
        have kG6 : pj_kpt kc_38nx G0 G6 := by rw [hG6]; exact pj_kpt_a kG5 rfl
        rw [← hG6]
        rw [pj_nm_e]
        refine pj_X_of (fun r h => pj_R_to (G6, 29, [(0, .ref 53), (1, .int i), (2, .ref 21)], [.int (Int32.ofInt 1)], 0, 0) 29 2 (fun _ => rfl) h) ?_
        exact pj_X_rt rfl rfl ⟨_, rfl, iG6, kG6, ⟨by omega, by omega⟩, (fun H hH => by subst hH; exact (mr_kp1 0 (by decide) (by omega) iG5 jG5 rfl rfl eG5 rfl (by omega) hG6)), rfl⟩
      rw [if_neg t3]
      by_cases t7 : i.toInt = 1
      · refine pj_X_aa hI rfl rfl (k := 1) (by show _ = ((1 : Nat) : Int); omega) (by decide) rfl ?_
        rw [if_pos t7]
        refine pj_X_of (fun r h => pj_R_to (G0, 18, [(0, .ref 53), (1, .int i), (2, .ref 21)], [.ref 21, .ref 159], 0, 0) 18 2 (fun _ => rfl) h) ?_
        refine pj_X_ca (vs := [.ref 159, .ref 21]) rfl (fun _ => rfl) ⟨Nat.le_of_ble_eq_true rfl, Nat.le_of_ble_eq_true rfl, pj_T_rcv hI rfl⟩ ⟨rfl, rfl⟩ (pj_Y_up (by decide) (ct_68_159_21x G0 hI)) ?_
        rintro _ G9 ⟨rfl, iG9, jG9, eG9, fy8⟩
        replace eG9 := eG9 _ rfl
        rw [← fy8, pj_nm_e]
        have kG9 : pj_kpt kc_38nx G0 G9 := pj_kpt_t hK (pj_kpt_s jG9 rfl)
        show pj_X _ _ G9 21 [(0, .ref 53), (1, .int i), (2, .ref 21)] [] _
        refine pj_X_of (fun r h => pj_R_to (G9, 22, [(0, .ref 53), (1, .int i), (2, .ref 21)], [.ref 53], 0, 0) 22 2 (fun _ => rfl) h) ?_
        refine pj_X_of (fun r h => pj_T_gr iG9 rfl rfl rfl h) ?_
        refine pj_X_of (fun r h => pj_R_to (G9, 27, [(0, .ref 53), (1, .int i), (2, .ref 21)], [.int (Int32.ofInt 1), .int i, .ref 56], 0, 0) 27 3 (fun _ => rfl) h) ?_
        refine pj_X_of (fun r h => pj_T_bs iG9 rfl rfl (by omega) (by omega) h) ?_
        show pj_X _ _ (pj_wa G9 56 i.toInt.toNat (vp_nar .boolean (Int32.ofInt 1))) 28 [(0, .ref 53), (1, .int i), (2, .ref 21)] [] _
        obtain ⟨G10, hG10⟩ : ∃ H, H = pj_wa G9 56 i.toInt.toNat (vp_nar .boolean (Int32.ofInt 1)) := ⟨_, rfl⟩
        have iG10 : pj_Inv G10 := by rw [hG10]; exact pj_Inv_wb iG9 rfl rfl rfl
        have kG10 : pj_kpt kc_38nx G0 G10 := by rw [hG10]; exact pj_kpt_a kG9 rfl
        rw [← hG10]
        rw [pj_nm_e]
        refine pj_X_of (fun r h => pj_R_to (G10, 29, [(0, .ref 53), (1, .int i), (2, .ref 21)], [.int (Int32.ofInt 1)], 0, 0) 29 2 (fun _ => rfl) h) ?_
        exact pj_X_rt rfl rfl ⟨_, rfl, iG10, kG10, ⟨by omega, by omega⟩, (fun H hH => by subst hH; exact (mr_kp1 1 (by decide) (by omega) iG9 jG9 rfl rfl eG9 rfl (by omega) hG10)), rfl⟩
      rw [if_neg t7]
      · refine pj_X_aa hI rfl rfl (k := 2) (by show _ = ((2 : Nat) : Int); omega) (by decide) rfl ?_
        refine pj_X_of (fun r h => pj_R_to (G0, 18, [(0, .ref 53), (1, .int i), (2, .ref 21)], [.ref 21, .ref 165], 0, 0) 18 2 (fun _ => rfl) h) ?_
        refine pj_X_ca (vs := [.ref 165, .ref 21]) rfl (fun _ => rfl) ⟨Nat.le_of_ble_eq_true rfl, Nat.le_of_ble_eq_true rfl, pj_T_rcv hI rfl⟩ ⟨rfl, rfl⟩ (pj_Y_up (by decide) (ct_68_165_21x G0 hI)) ?_
        rintro _ G12 ⟨rfl, iG12, jG12, eG12, fy11⟩
        replace eG12 := eG12 _ rfl
        rw [← fy11, pj_nm_e]
        have kG12 : pj_kpt kc_38nx G0 G12 := pj_kpt_t hK (pj_kpt_s jG12 rfl)
        show pj_X _ _ G12 21 [(0, .ref 53), (1, .int i), (2, .ref 21)] [] _
        refine pj_X_of (fun r h => pj_R_to (G12, 22, [(0, .ref 53), (1, .int i), (2, .ref 21)], [.ref 53], 0, 0) 22 2 (fun _ => rfl) h) ?_
        refine pj_X_of (fun r h => pj_T_gr iG12 rfl rfl rfl h) ?_
        refine pj_X_of (fun r h => pj_R_to (G12, 27, [(0, .ref 53), (1, .int i), (2, .ref 21)], [.int (Int32.ofInt 1), .int i, .ref 56], 0, 0) 27 3 (fun _ => rfl) h) ?_
        refine pj_X_of (fun r h => pj_T_bs iG12 rfl rfl (by omega) (by omega) h) ?_
        show pj_X _ _ (pj_wa G12 56 i.toInt.toNat (vp_nar .boolean (Int32.ofInt 1))) 28 [(0, .ref 53), (1, .int i), (2, .ref 21)] [] _
        obtain ⟨G13, hG13⟩ : ∃ H, H = pj_wa G12 56 i.toInt.toNat (vp_nar .boolean (Int32.ofInt 1)) := ⟨_, rfl⟩
        have iG13 : pj_Inv G13 := by rw [hG13]; exact pj_Inv_wb iG12 rfl rfl rfl
        have kG13 : pj_kpt kc_38nx G0 G13 := by rw [hG13]; exact pj_kpt_a kG12 rfl
        rw [← hG13]
        rw [pj_nm_e]
        refine pj_X_of (fun r h => pj_R_to (G13, 29, [(0, .ref 53), (1, .int i), (2, .ref 21)], [.int (Int32.ofInt 1)], 0, 0) 29 2 (fun _ => rfl) h) ?_
        exact pj_X_rt rfl rfl ⟨_, rfl, iG13, kG13, ⟨by omega, by omega⟩, (fun H hH => by subst hH; exact (mr_kp1 2 (by decide) (by omega) iG12 jG12 rfl rfl eG12 rfl (by omega) hG13)), rfl⟩
    | false =>
      rw [pj_cF]
      have ub2 := pj_u_ltF b2
      refine pj_X_of (fun r h => pj_R_icF rfl b2 h) ?_
      refine pj_X_of (fun r h => pj_R_to (G0, 10, [(0, .ref 53), (1, .int i), (2, .ref 21)], [.int (Int32.ofInt 0)], 0, 0) 10 2 (fun _ => rfl) h) ?_
      exact pj_X_rt rfl rfl ⟨_, rfl, hI, hK, ⟨by omega, by omega⟩, (fun H hH => by subst hH; exact (.inr ⟨by omega, by omega, rfl⟩)), rfl⟩
theorem fr_38nx (G0 : pj_G) (hI : pj_Inv G0) (i : Int32) : pj_Inv (F_38nx G0 i).2 ∧ pj_kpt kc_38nx G0 (F_38nx G0 i).2 ∧ ((0 : Int) ≤ (F_38nx G0 i).1.toInt ∧ (F_38nx G0 i).1.toInt ≤ 1) ∧ (mr_kp i G0 (F_38nx G0 i).2 (F_38nx G0 i).1) := by
  obtain ⟨v, G', -, y, -, i, j, r, x, e⟩ := ct_38nx G0 hI i
  rw [← e]
  exact ⟨i, j, r, x _ rfl⟩
def kc_157nx : pj_KT := ([(153, 0), (153, 5), (153, 7), (153, 8), (159, 0), (159, 5), (159, 7), (159, 8), (165, 0), (165, 5), (165, 7), (165, 8)], [56, 153, 154, 155, 156, 157, 158, 159, 160, 161, 162, 163, 164, 165, 166, 167, 168, 169, 170], [56, 154, 155, 156, 157, 158, 160, 161, 162, 163, 164, 166, 167, 168, 169, 170])
noncomputable def F_157nx (G0 : pj_G) (i : Int32) : Int32 × pj_G := pj_bd (F_38nx G0 i) (fun y1 G2 => (y1, G2))
theorem F_157nx_e (G0 : pj_G) (i : Int32) : F_157nx G0 i = pj_bd (F_38nx G0 i) (fun y1 G2 => (y1, G2)) := rfl
theorem ct_157nx (G0 : pj_G) (hI : pj_Inv G0) (i : Int32) : pj_Y 3 157 [.ref 1, .int i] G0 (fun v' G' => ∃ y : Int32, v' = some (.int y) ∧ pj_Inv G' ∧ pj_kpt kc_157nx G0 G' ∧ ((0 : Int) ≤ y.toInt ∧ y.toInt ≤ 1) ∧ (∀ H, G0 = H → (mr_kp i H G' y)) ∧ ((y, G') = F_157nx G0 i)) := by
  refine pj_Y_X (M := pj_m157) rfl rfl (Nat.le_of_ble_eq_true rfl) ?_
  have hK : pj_kpt kc_157nx G0 G0 := pj_kpt_r _ _
  show pj_X _ _ G0 0 [(0, .ref 1), (1, .int i)] [] _
  rw [F_157nx_e]
  refine pj_X_of (fun r h => pj_R_to (G0, 1, [(0, .ref 1), (1, .int i)], [.ref 1], 0, 0) 1 2 (fun _ => rfl) h) ?_
  refine pj_X_of (fun r h => pj_T_gr hI rfl rfl rfl h) ?_
  refine pj_X_of (fun r h => pj_R_to (G0, 6, [(0, .ref 1), (1, .int i)], [.ref 1, .int i, .ref 53], 0, 0) 6 3 (fun _ => rfl) h) ?_
  refine pj_X_of (fun r h => pj_T_gr hI rfl rfl rfl h) ?_
  refine pj_X_of (fun r h => pj_T_gr hI rfl rfl rfl h) ?_
  refine pj_X_ca (vs := [.ref 53, .int i, .ref 21]) rfl (fun _ => rfl) ⟨Nat.le_of_ble_eq_true rfl, Nat.le_of_ble_eq_true rfl, pj_T_rcv hI rfl⟩ ⟨rfl, rfl⟩ (pj_Y_up (by decide) (ct_38nx G0 hI i)) ?_
  rintro _ G2 ⟨y1, rfl, iG2, jG2, ry1, ey1, fy1⟩
  replace ey1 := ey1 _ rfl
  rw [← fy1, pj_bd_e]
  have kG2 : pj_kpt kc_157nx G0 G2 := pj_kpt_t hK (pj_kpt_s jG2 rfl)
  show pj_X _ _ G2 15 [(0, .ref 1), (1, .int i)] [.int y1] _
  exact pj_X_rt (v := some (.int y1)) rfl (pj_rtb ⟨by omega, by omega⟩) ⟨_, rfl, iG2, kG2, ⟨by omega, by omega⟩, (fun H hH => by subst hH; exact (ey1)), rfl⟩
theorem fr_157nx (G0 : pj_G) (hI : pj_Inv G0) (i : Int32) : pj_Inv (F_157nx G0 i).2 ∧ pj_kpt kc_157nx G0 (F_157nx G0 i).2 ∧ ((0 : Int) ≤ (F_157nx G0 i).1.toInt ∧ (F_157nx G0 i).1.toInt ≤ 1) ∧ (mr_kp i G0 (F_157nx G0 i).2 (F_157nx G0 i).1) := by
  obtain ⟨v, G', -, y, -, i, j, r, x, e⟩ := ct_157nx G0 hI i
  rw [← e]
  exact ⟨i, j, r, x _ rfl⟩
def kc_158nx : pj_KT := ([(21, 0), (21, 5), (21, 7), (21, 8), (53, 2)], [21, 22, 23, 24, 25, 26, 53], [22, 23, 24, 25, 26])
noncomputable def F_158nx (G0 : pj_G) (i : Int32) : Int32 × pj_G := pj_nm (F_39nkx G0 i) (fun y19 => cond (pj_c1 .ne y19 0) (if i.toInt = 0 then (pj_nm (F_68_21_153x G0) (fun G32 => pj_nm (F_36nx G32) (fun G59 => (Int32.ofInt 1, G59)))) else (if i.toInt = 1 then (pj_nm (F_68_21_159x G0) (fun G97 => pj_nm (F_36nx G97) (fun G124 => (Int32.ofInt 1, G124)))) else (pj_nm (F_68_21_165x G0) (fun G161 => pj_nm (F_36nx G161) (fun G188 => (Int32.ofInt 1, G188)))))) ((Int32.ofInt 0, G0)))
theorem F_158nx_e (G0 : pj_G) (i : Int32) : F_158nx G0 i = pj_nm (F_39nkx G0 i) (fun y19 => cond (pj_c1 .ne y19 0) (if i.toInt = 0 then (pj_nm (F_68_21_153x G0) (fun G32 => pj_nm (F_36nx G32) (fun G59 => (Int32.ofInt 1, G59)))) else (if i.toInt = 1 then (pj_nm (F_68_21_159x G0) (fun G97 => pj_nm (F_36nx G97) (fun G124 => (Int32.ofInt 1, G124)))) else (pj_nm (F_68_21_165x G0) (fun G161 => pj_nm (F_36nx G161) (fun G188 => (Int32.ofInt 1, G188)))))) ((Int32.ofInt 0, G0))) := rfl
theorem ct_158nx (G0 : pj_G) (hI : pj_Inv G0) (i : Int32) : pj_Y 3 158 [.ref 1, .int i] G0 (fun v' G' => ∃ y : Int32, v' = some (.int y) ∧ pj_Inv G' ∧ pj_kpt kc_158nx G0 G' ∧ ((0 : Int) ≤ y.toInt ∧ y.toInt ≤ 1) ∧ (∀ H, G0 = H → (((1 ≤ y.toInt → (0 ≤ i.toInt ∧ i.toInt ≤ 2 ∧ ¬ (pj_ai H 56 i.toInt.toNat).toInt = 0 ∧ ((i.toInt = 0 → (pj_fi H 153 0).toInt = (pj_fi H 21 0).toInt ∧ (pj_fi H 153 5).toInt = (pj_fi H 21 5).toInt) ∧ (i.toInt = 1 → (pj_fi H 159 0).toInt = (pj_fi H 21 0).toInt ∧ (pj_fi H 159 5).toInt = (pj_fi H 21 5).toInt) ∧ (i.toInt = 2 → (pj_fi H 165 0).toInt = (pj_fi H 21 0).toInt ∧ (pj_fi H 165 5).toInt = (pj_fi H 21 5).toInt)))) ∧ (y.toInt = 0 → ¬ (0 ≤ i.toInt ∧ i.toInt ≤ 2 ∧ ¬ (pj_ai H 56 i.toInt.toNat).toInt = 0 ∧ ((i.toInt = 0 → (pj_fi H 153 0).toInt = (pj_fi H 21 0).toInt ∧ (pj_fi H 153 5).toInt = (pj_fi H 21 5).toInt) ∧ (i.toInt = 1 → (pj_fi H 159 0).toInt = (pj_fi H 21 0).toInt ∧ (pj_fi H 159 5).toInt = (pj_fi H 21 5).toInt) ∧ (i.toInt = 2 → (pj_fi H 165 0).toInt = (pj_fi H 21 0).toInt ∧ (pj_fi H 165 5).toInt = (pj_fi H 21 5).toInt))))) ∧ mr_PC H G')) ∧ ((y, G') = F_158nx G0 i)) := by
  have c0_ : (Int32.ofInt 0).toInt = 0 := by decide
  have c1_ : (Int32.ofInt 1).toInt = 1 := by decide
  refine pj_Y_X (M := pj_m158) rfl rfl (Nat.le_of_ble_eq_true rfl) ?_
  have hK : pj_kpt kc_158nx G0 G0 := pj_kpt_r _ _
  show pj_X _ _ G0 0 [(0, .ref 1), (1, .int i)] [] _
  rw [F_158nx_e]
  obtain ⟨y1, hy1⟩ : ∃ z : Int32, z = pj_fi G0 21 0 := ⟨_, rfl⟩
  have ey1 : (pj_fi G0 21 0).toInt = y1.toInt := by rw [hy1]
  have ry1 : (0 : Int) ≤ y1.toInt ∧ y1.toInt ≤ 6 := by rw [hy1]; exact hI.2.1 21 0 (0, 6) rfl
  obtain ⟨y2, hy2⟩ : ∃ z : Int32, z = pj_fi G0 21 5 := ⟨_, rfl⟩
  have ey2 : (pj_fi G0 21 5).toInt = y2.toInt := by rw [hy2]
  have ry2 : (0 : Int) ≤ y2.toInt ∧ y2.toInt ≤ 6 := by rw [hy2]; exact hI.2.1 21 5 (0, 6) rfl
  obtain ⟨y3, hy3⟩ : ∃ z : Int32, z = pj_fi G0 153 0 := ⟨_, rfl⟩
  have ey3 : (pj_fi G0 153 0).toInt = y3.toInt := by rw [hy3]
  have ry3 : (0 : Int) ≤ y3.toInt ∧ y3.toInt ≤ 6 := by rw [hy3]; exact hI.2.1 153 0 (0, 6) rfl
  obtain ⟨y4, hy4⟩ : ∃ z : Int32, z = pj_fi G0 153 5 := ⟨_, rfl⟩
  have ey4 : (pj_fi G0 153 5).toInt = y4.toInt := by rw [hy4]
  have ry4 : (0 : Int) ≤ y4.toInt ∧ y4.toInt ≤ 6 := by rw [hy4]; exact hI.2.1 153 5 (0, 6) rfl
  obtain ⟨y5, hy5⟩ : ∃ z : Int32, z = pj_fi G0 159 0 := ⟨_, rfl⟩
  have ey5 : (pj_fi G0 159 0).toInt = y5.toInt := by rw [hy5]
  have ry5 : (0 : Int) ≤ y5.toInt ∧ y5.toInt ≤ 6 := by rw [hy5]; exact hI.2.1 159 0 (0, 6) rfl
  obtain ⟨y6, hy6⟩ : ∃ z : Int32, z = pj_fi G0 159 5 := ⟨_, rfl⟩
  have ey6 : (pj_fi G0 159 5).toInt = y6.toInt := by rw [hy6]
  have ry6 : (0 : Int) ≤ y6.toInt ∧ y6.toInt ≤ 6 := by rw [hy6]; exact hI.2.1 159 5 (0, 6) rfl
  obtain ⟨y7, hy7⟩ : ∃ z : Int32, z = pj_fi G0 165 0 := ⟨_, rfl⟩
  have ey7 : (pj_fi G0 165 0).toInt = y7.toInt := by rw [hy7]
  have ry7 : (0 : Int) ≤ y7.toInt ∧ y7.toInt ≤ 6 := by rw [hy7]; exact hI.2.1 165 0 (0, 6) rfl
  obtain ⟨y8, hy8⟩ : ∃ z : Int32, z = pj_fi G0 165 5 := ⟨_, rfl⟩
  have ey8 : (pj_fi G0 165 5).toInt = y8.toInt := by rw [hy8]
  have ry8 : (0 : Int) ≤ y8.toInt ∧ y8.toInt ≤ 6 := by rw [hy8]; exact hI.2.1 165 5 (0, 6) rfl
  obtain ⟨y9, hy9⟩ : ∃ z : Int32, z = pj_fi G0 53 2 := ⟨_, rfl⟩
  have ey9 : (pj_fi G0 53 2).toInt = y9.toInt := by rw [hy9]
  have ry9 : (0 : Int) ≤ y9.toInt ∧ y9.toInt ≤ 15 := by rw [hy9]; exact hI.2.1 53 2 (0, 15) rfl
  refine pj_X_of (fun r h => pj_R_to (G0, 1, [(0, .ref 1), (1, .int i)], [.ref 1], 0, 0) 1 2 (fun _ => rfl) h) ?_
  refine pj_X_of (fun r h => pj_T_gr hI rfl rfl rfl h) ?_
  refine pj_X_of (fun r h => pj_R_to (G0, 6, [(0, .ref 1), (1, .int i)], [.ref 1, .int i, .ref 53], 0, 0) 6 3 (fun _ => rfl) h) ?_
  refine pj_X_of (fun r h => pj_T_gr hI rfl rfl rfl h) ?_
  refine pj_X_of (fun r h => pj_T_gr hI rfl rfl rfl h) ?_
  have q10 : (pj_fi G0 21 0).toInt = y1.toInt := by rw [show pj_fi G0 21 0 = y1 from hy1.symm]
  have q11 : (pj_fi G0 21 5).toInt = y2.toInt := by rw [show pj_fi G0 21 5 = y2 from hy2.symm]
  have q12 : (pj_fi G0 153 0).toInt = y3.toInt := by rw [show pj_fi G0 153 0 = y3 from hy3.symm]
  have q13 : (pj_fi G0 153 5).toInt = y4.toInt := by rw [show pj_fi G0 153 5 = y4 from hy4.symm]
  have q14 : (pj_fi G0 159 0).toInt = y5.toInt := by rw [show pj_fi G0 159 0 = y5 from hy5.symm]
  have q15 : (pj_fi G0 159 5).toInt = y6.toInt := by rw [show pj_fi G0 159 5 = y6 from hy6.symm]
  have q16 : (pj_fi G0 165 0).toInt = y7.toInt := by rw [show pj_fi G0 165 0 = y7 from hy7.symm]
  have q17 : (pj_fi G0 165 5).toInt = y8.toInt := by rw [show pj_fi G0 165 5 = y8 from hy8.symm]
  have q18 : (pj_fi G0 53 2).toInt = y9.toInt := by rw [show pj_fi G0 53 2 = y9 from hy9.symm]
  refine pj_X_ca (vs := [.ref 53, .int i, .ref 21]) rfl (fun _ => rfl) ⟨Nat.le_of_ble_eq_true rfl, Nat.le_of_ble_eq_true rfl, pj_T_rcv hI rfl⟩ ⟨rfl, rfl⟩ (pj_Y_up (by decide) (ct_39nkx G0 hI i)) ?_
  rintro _ _ ⟨y19, rfl, rfl, ry19, ey19, fy19⟩
  replace ey19 := ey19 _ rfl
  rw [← fy19, pj_nm_e]
  show pj_X _ _ G0 15 [(0, .ref 1), (1, .int i)] [.int y19] _
  cases b20 : pj_c1 .ne y19 0 with
  | true =>
    rw [pj_cT]
    have ub20 := pj_u0_neT b20
    refine pj_X_of (fun r h => pj_R_ifT 20 rfl rfl b20 h) ?_
    refine pj_X_of (fun r h => pj_R_to (G0, 21, [(0, .ref 1), (1, .int i)], [.ref 1], 0, 0) 21 2 (fun _ => rfl) h) ?_
    refine pj_X_of (fun r h => pj_T_gr hI rfl rfl rfl h) ?_
    refine pj_X_of (fun r h => pj_T_gr hI rfl rfl rfl h) ?_
    refine pj_X_of (fun r h => pj_R_to (G0, 28, [(0, .ref 1), (1, .int i)], [.ref 1, .ref 21], 0, 0) 28 2 (fun _ => rfl) h) ?_
    refine pj_X_of (fun r h => pj_T_gr hI rfl rfl rfl h) ?_
    refine pj_X_of (fun r h => pj_T_gr hI rfl rfl rfl h) ?_
    refine pj_X_of (fun r h => pj_R_to (G0, 35, [(0, .ref 1), (1, .int i)], [.int i, .ref 55, .ref 21], 0, 0) 35 2 (fun _ => rfl) h) ?_
    by_cases t21 : i.toInt = 0
    · refine pj_X_aa hI rfl rfl (k := 0) (by show _ = ((0 : Nat) : Int); omega) (by decide) rfl ?_
      rw [if_pos t21]
      have q22 : (pj_fi G0 21 0).toInt = y1.toInt := by rw [show pj_fi G0 21 0 = y1 from hy1.symm]
      have q23 : (pj_fi G0 21 5).toInt = y2.toInt := by rw [show pj_fi G0 21 5 = y2 from hy2.symm]
      have q24 : (pj_fi G0 153 0).toInt = y3.toInt := by rw [show pj_fi G0 153 0 = y3 from hy3.symm]
      have q25 : (pj_fi G0 153 5).toInt = y4.toInt := by rw [show pj_fi G0 153 5 = y4 from hy4.symm]
      have q26 : (pj_fi G0 159 0).toInt = y5.toInt := by rw [show pj_fi G0 159 0 = y5 from hy5.symm]
      have q27 : (pj_fi G0 159 5).toInt = y6.toInt := by rw [show pj_fi G0 159 5 = y6 from hy6.symm]
      have q28 : (pj_fi G0 165 0).toInt = y7.toInt := by rw [show pj_fi G0 165 0 = y7 from hy7.symm]
      have q29 : (pj_fi G0 165 5).toInt = y8.toInt := by rw [show pj_fi G0 165 5 = y8 from hy8.symm]
      have q30 : (pj_fi G0 53 2).toInt = y9.toInt := by rw [show pj_fi G0 53 2 = y9 from hy9.symm]
      refine pj_X_ca (vs := [.ref 21, .ref 153]) rfl (fun _ => rfl) ⟨Nat.le_of_ble_eq_true rfl, Nat.le_of_ble_eq_true rfl, pj_T_rcv hI rfl⟩ ⟨rfl, rfl⟩ (pj_Y_up (by decide) (ct_68_21_153x G0 hI)) ?_
      rintro _ G32 ⟨rfl, iG32, jG32, eG32, fy31⟩
      replace eG32 := eG32 _ rfl
      rw [← fy31, pj_nm_e]
      have kG32 : pj_kpt kc_158nx G0 G32 := pj_kpt_t hK (pj_kpt_s jG32 rfl)
      have q33 : (pj_fi G32 153 0).toInt = (pj_fi G0 153 0).toInt := by rw [jG32.1 (153, 0) (by decide)]
      have q34 : (pj_fi G32 153 5).toInt = (pj_fi G0 153 5).toInt := by rw [jG32.1 (153, 5) (by decide)]
      have q35 : (pj_fi G32 159 0).toInt = (pj_fi G0 159 0).toInt := by rw [jG32.1 (159, 0) (by decide)]
      have q36 : (pj_fi G32 159 5).toInt = (pj_fi G0 159 5).toInt := by rw [jG32.1 (159, 5) (by decide)]
      have q37 : (pj_fi G32 165 0).toInt = (pj_fi G0 165 0).toInt := by rw [jG32.1 (165, 0) (by decide)]
      have q38 : (pj_fi G32 165 5).toInt = (pj_fi G0 165 5).toInt := by rw [jG32.1 (165, 5) (by decide)]
      have q39 : (pj_fi G32 53 2).toInt = (pj_fi G0 53 2).toInt := by rw [jG32.1 (53, 2) (by decide)]
      obtain ⟨y40, hy40⟩ : ∃ z : Int32, z = pj_fi G32 21 0 := ⟨_, rfl⟩
      have ey40 : (pj_fi G32 21 0).toInt = y40.toInt := by rw [hy40]
      have ry40 : (0 : Int) ≤ y40.toInt ∧ y40.toInt ≤ 6 := by rw [hy40]; exact iG32.2.1 21 0 (0, 6) rfl
      obtain ⟨y41, hy41⟩ : ∃ z : Int32, z = pj_fi G32 21 5 := ⟨_, rfl⟩
      have ey41 : (pj_fi G32 21 5).toInt = y41.toInt := by rw [hy41]
      have ry41 : (0 : Int) ≤ y41.toInt ∧ y41.toInt ≤ 6 := by rw [hy41]; exact iG32.2.1 21 5 (0, 6) rfl
      obtain ⟨y42, hy42⟩ : ∃ z : Int32, z = pj_fi G32 153 0 := ⟨_, rfl⟩
      have ey42 : (pj_fi G32 153 0).toInt = y42.toInt := by rw [hy42]
      have ry42 : (0 : Int) ≤ y42.toInt ∧ y42.toInt ≤ 6 := by rw [hy42]; exact iG32.2.1 153 0 (0, 6) rfl
      obtain ⟨y43, hy43⟩ : ∃ z : Int32, z = pj_fi G32 153 5 := ⟨_, rfl⟩
      have ey43 : (pj_fi G32 153 5).toInt = y43.toInt := by rw [hy43]
      have ry43 : (0 : Int) ≤ y43.toInt ∧ y43.toInt ≤ 6 := by rw [hy43]; exact iG32.2.1 153 5 (0, 6) rfl
      obtain ⟨y44, hy44⟩ : ∃ z : Int32, z = pj_fi G32 159 0 := ⟨_, rfl⟩
      have ey44 : (pj_fi G32 159 0).toInt = y44.toInt := by rw [hy44]
      have ry44 : (0 : Int) ≤ y44.toInt ∧ y44.toInt ≤ 6 := by rw [hy44]; exact iG32.2.1 159 0 (0, 6) rfl
      obtain ⟨y45, hy45⟩ : ∃ z : Int32, z = pj_fi G32 159 5 := ⟨_, rfl⟩
      have ey45 : (pj_fi G32 159 5).toInt = y45.toInt := by rw [hy45]
      have ry45 : (0 : Int) ≤ y45.toInt ∧ y45.toInt ≤ 6 := by rw [hy45]; exact iG32.2.1 159 5 (0, 6) rfl
      obtain ⟨y46, hy46⟩ : ∃ z : Int32, z = pj_fi G32 165 0 := ⟨_, rfl⟩
      have ey46 : (pj_fi G32 165 0).toInt = y46.toInt := by rw [hy46]
      have ry46 : (0 : Int) ≤ y46.toInt ∧ y46.toInt ≤ 6 := by rw [hy46]; exact iG32.2.1 165 0 (0, 6) rfl
      obtain ⟨y47, hy47⟩ : ∃ z : Int32, z = pj_fi G32 165 5 := ⟨_, rfl⟩
      have ey47 : (pj_fi G32 165 5).toInt = y47.toInt := by rw [hy47]
      have ry47 : (0 : Int) ≤ y47.toInt ∧ y47.toInt ≤ 6 := by rw [hy47]; exact iG32.2.1 165 5 (0, 6) rfl
      obtain ⟨y48, hy48⟩ : ∃ z : Int32, z = pj_fi G32 53 2 := ⟨_, rfl⟩
      have ey48 : (pj_fi G32 53 2).toInt = y48.toInt := by rw [hy48]
      have ry48 : (0 : Int) ≤ y48.toInt ∧ y48.toInt ≤ 15 := by rw [hy48]; exact iG32.2.1 53 2 (0, 15) rfl
      show pj_X _ _ G32 39 [(0, .ref 1), (1, .int i)] [] _
      refine pj_X_of (fun r h => pj_R_to (G32, 40, [(0, .ref 1), (1, .int i)], [.ref 1], 0, 0) 40 2 (fun _ => rfl) h) ?_
      refine pj_X_of (fun r h => pj_T_gr iG32 rfl rfl rfl h) ?_
      have q49 : (pj_fi G32 21 0).toInt = y40.toInt := by rw [show pj_fi G32 21 0 = y40 from hy40.symm]
      have q50 : (pj_fi G32 21 5).toInt = y41.toInt := by rw [show pj_fi G32 21 5 = y41 from hy41.symm]
      have q51 : (pj_fi G32 153 0).toInt = y42.toInt := by rw [show pj_fi G32 153 0 = y42 from hy42.symm]
      have q52 : (pj_fi G32 153 5).toInt = y43.toInt := by rw [show pj_fi G32 153 5 = y43 from hy43.symm]
      have q53 : (pj_fi G32 159 0).toInt = y44.toInt := by rw [show pj_fi G32 159 0 = y44 from hy44.symm]
      have q54 : (pj_fi G32 159 5).toInt = y45.toInt := by rw [show pj_fi G32 159 5 = y45 from hy45.symm]
      have q55 : (pj_fi G32 165 0).toInt = y46.toInt := by rw [show pj_fi G32 165 0 = y46 from hy46.symm]
      have q56 : (pj_fi G32 165 5).toInt = y47.toInt := by rw [show pj_fi G32 165 5 = y47 from hy47.symm]
      have q57 : (pj_fi G32 53 2).toInt = y48.toInt := by rw [show pj_fi G32 53 2 = y48 from hy48.symm]
      refine pj_X_ca (vs := [.ref 53]) rfl (fun _ => rfl) ⟨Nat.le_of_ble_eq_true rfl, Nat.le_of_ble_eq_true rfl, pj_T_rcv iG32 rfl⟩ ⟨rfl, rfl⟩ (pj_Y_up (by decide) (ct_36nx G32 iG32)) ?_
      rintro _ G59 ⟨rfl, iG59, jG59, eG59, fy58⟩
      rw [← fy58, pj_nm_e]
      have kG59 : pj_kpt kc_158nx G0 G59 := pj_kpt_t kG32 (pj_kpt_s jG59 rfl)
      have q60 : (pj_fi G59 21 0).toInt = (pj_fi G32 21 0).toInt := by rw [jG59.1 (21, 0) (by decide)]
      have q61 : (pj_fi G59 21 5).toInt = (pj_fi G32 21 5).toInt := by rw [jG59.1 (21, 5) (by decide)]
      have q62 : (pj_fi G59 153 0).toInt = (pj_fi G32 153 0).toInt := by rw [jG59.1 (153, 0) (by decide)]
      have q63 : (pj_fi G59 153 5).toInt = (pj_fi G32 153 5).toInt := by rw [jG59.1 (153, 5) (by decide)]
      have q64 : (pj_fi G59 159 0).toInt = (pj_fi G32 159 0).toInt := by rw [jG59.1 (159, 0) (by decide)]
      have q65 : (pj_fi G59 159 5).toInt = (pj_fi G32 159 5).toInt := by rw [jG59.1 (159, 5) (by decide)]
      have q66 : (pj_fi G59 165 0).toInt = (pj_fi G32 165 0).toInt := by rw [jG59.1 (165, 0) (by decide)]
      have q67 : (pj_fi G59 165 5).toInt = (pj_fi G32 165 5).toInt := by rw [jG59.1 (165, 5) (by decide)]
      obtain ⟨y68, hy68⟩ : ∃ z : Int32, z = pj_fi G59 21 0 := ⟨_, rfl⟩
      have ey68 : (pj_fi G59 21 0).toInt = y68.toInt := by rw [hy68]
      have ry68 : (0 : Int) ≤ y68.toInt ∧ y68.toInt ≤ 6 := by rw [hy68]; exact iG59.2.1 21 0 (0, 6) rfl
      obtain ⟨y69, hy69⟩ : ∃ z : Int32, z = pj_fi G59 21 5 := ⟨_, rfl⟩
      have ey69 : (pj_fi G59 21 5).toInt = y69.toInt := by rw [hy69]
      have ry69 : (0 : Int) ≤ y69.toInt ∧ y69.toInt ≤ 6 := by rw [hy69]; exact iG59.2.1 21 5 (0, 6) rfl
      obtain ⟨y70, hy70⟩ : ∃ z : Int32, z = pj_fi G59 153 0 := ⟨_, rfl⟩
      have ey70 : (pj_fi G59 153 0).toInt = y70.toInt := by rw [hy70]
      have ry70 : (0 : Int) ≤ y70.toInt ∧ y70.toInt ≤ 6 := by rw [hy70]; exact iG59.2.1 153 0 (0, 6) rfl
      obtain ⟨y71, hy71⟩ : ∃ z : Int32, z = pj_fi G59 153 5 := ⟨_, rfl⟩
      have ey71 : (pj_fi G59 153 5).toInt = y71.toInt := by rw [hy71]
      have ry71 : (0 : Int) ≤ y71.toInt ∧ y71.toInt ≤ 6 := by rw [hy71]; exact iG59.2.1 153 5 (0, 6) rfl
      obtain ⟨y72, hy72⟩ : ∃ z : Int32, z = pj_fi G59 159 0 := ⟨_, rfl⟩
      have ey72 : (pj_fi G59 159 0).toInt = y72.toInt := by rw [hy72]
      have ry72 : (0 : Int) ≤ y72.toInt ∧ y72.toInt ≤ 6 := by rw [hy72]; exact iG59.2.1 159 0 (0, 6) rfl
      obtain ⟨y73, hy73⟩ : ∃ z : Int32, z = pj_fi G59 159 5 := ⟨_, rfl⟩
      have ey73 : (pj_fi G59 159 5).toInt = y73.toInt := by rw [hy73]
      have ry73 : (0 : Int) ≤ y73.toInt ∧ y73.toInt ≤ 6 := by rw [hy73]; exact iG59.2.1 159 5 (0, 6) rfl
      obtain ⟨y74, hy74⟩ : ∃ z : Int32, z = pj_fi G59 165 0 := ⟨_, rfl⟩
      have ey74 : (pj_fi G59 165 0).toInt = y74.toInt := by rw [hy74]
      have ry74 : (0 : Int) ≤ y74.toInt ∧ y74.toInt ≤ 6 := by rw [hy74]; exact iG59.2.1 165 0 (0, 6) rfl
      obtain ⟨y75, hy75⟩ : ∃ z : Int32, z = pj_fi G59 165 5 := ⟨_, rfl⟩
      have ey75 : (pj_fi G59 165 5).toInt = y75.toInt := by rw [hy75]
      have ry75 : (0 : Int) ≤ y75.toInt ∧ y75.toInt ≤ 6 := by rw [hy75]; exact iG59.2.1 165 5 (0, 6) rfl
      obtain ⟨y76, hy76⟩ : ∃ z : Int32, z = pj_fi G59 53 2 := ⟨_, rfl⟩
      have ey76 : (pj_fi G59 53 2).toInt = y76.toInt := by rw [hy76]
      have ry76 : (0 : Int) ≤ y76.toInt ∧ y76.toInt ≤ 15 := by rw [hy76]; exact iG59.2.1 53 2 (0, 15) rfl
      show pj_X _ _ G59 46 [(0, .ref 1), (1, .int i)] [] _
      refine pj_X_of (fun r h => pj_R_to (G59, 47, [(0, .ref 1), (1, .int i)], [.int (Int32.ofInt 1)], 0, 0) 47 2 (fun _ => rfl) h) ?_
      have q77 : (pj_fi G59 21 0).toInt = y68.toInt := by rw [show pj_fi G59 21 0 = y68 from hy68.symm]
      have q78 : (pj_fi G59 21 5).toInt = y69.toInt := by rw [show pj_fi G59 21 5 = y69 from hy69.symm]
      have q79 : (pj_fi G59 153 0).toInt = y70.toInt := by rw [show pj_fi G59 153 0 = y70 from hy70.symm]
      have q80 : (pj_fi G59 153 5).toInt = y71.toInt := by rw [show pj_fi G59 153 5 = y71 from hy71.symm]
      have q81 : (pj_fi G59 159 0).toInt = y72.toInt := by rw [show pj_fi G59 159 0 = y72 from hy72.symm]
      have q82 : (pj_fi G59 159 5).toInt = y73.toInt := by rw [show pj_fi G59 159 5 = y73 from hy73.symm]
      have q83 : (pj_fi G59 165 0).toInt = y74.toInt := by rw [show pj_fi G59 165 0 = y74 from hy74.symm]
      have q84 : (pj_fi G59 165 5).toInt = y75.toInt := by rw [show pj_fi G59 165 5 = y75 from hy75.symm]
      have q85 : (pj_fi G59 53 2).toInt = y76.toInt := by rw [show pj_fi G59 53 2 = y76 from hy76.symm]
      exact pj_X_rt rfl rfl ⟨_, rfl, iG59, kG59, ⟨by omega, by omega⟩, (fun H hH => by subst hH; exact (⟨⟨fun _ => ey19.2.1 (by omega), fun hz => absurd hz (by omega)⟩, mr_PC_z (by omega) (by omega) (by omega)⟩)), rfl⟩
    rw [if_neg t21]
    by_cases t86 : i.toInt = 1
    · refine pj_X_aa hI rfl rfl (k := 1) (by show _ = ((1 : Nat) : Int); omega) (by decide) rfl ?_
      rw [if_pos t86]
      have q87 : (pj_fi G0 21 0).toInt = y1.toInt := by rw [show pj_fi G0 21 0 = y1 from hy1.symm]
      have q88 : (pj_fi G0 21 5).toInt = y2.toInt := by rw [show pj_fi G0 21 5 = y2 from hy2.symm]
      have q89 : (pj_fi G0 153 0).toInt = y3.toInt := by rw [show pj_fi G0 153 0 = y3 from hy3.symm]
      have q90 : (pj_fi G0 153 5).toInt = y4.toInt := by rw [show pj_fi G0 153 5 = y4 from hy4.symm]
      have q91 : (pj_fi G0 159 0).toInt = y5.toInt := by rw [show pj_fi G0 159 0 = y5 from hy5.symm]
      have q92 : (pj_fi G0 159 5).toInt = y6.toInt := by rw [show pj_fi G0 159 5 = y6 from hy6.symm]
      have q93 : (pj_fi G0 165 0).toInt = y7.toInt := by rw [show pj_fi G0 165 0 = y7 from hy7.symm]
      have q94 : (pj_fi G0 165 5).toInt = y8.toInt := by rw [show pj_fi G0 165 5 = y8 from hy8.symm]
      have q95 : (pj_fi G0 53 2).toInt = y9.toInt := by rw [show pj_fi G0 53 2 = y9 from hy9.symm]
      refine pj_X_ca (vs := [.ref 21, .ref 159]) rfl (fun _ => rfl) ⟨Nat.le_of_ble_eq_true rfl, Nat.le_of_ble_eq_true rfl, pj_T_rcv hI rfl⟩ ⟨rfl, rfl⟩ (pj_Y_up (by decide) (ct_68_21_159x G0 hI)) ?_
      rintro _ G97 ⟨rfl, iG97, jG97, eG97, fy96⟩
      replace eG97 := eG97 _ rfl
      rw [← fy96, pj_nm_e]
      have kG97 : pj_kpt kc_158nx G0 G97 := pj_kpt_t hK (pj_kpt_s jG97 rfl)
      have q98 : (pj_fi G97 153 0).toInt = (pj_fi G0 153 0).toInt := by rw [jG97.1 (153, 0) (by decide)]
      have q99 : (pj_fi G97 153 5).toInt = (pj_fi G0 153 5).toInt := by rw [jG97.1 (153, 5) (by decide)]
      have q100 : (pj_fi G97 159 0).toInt = (pj_fi G0 159 0).toInt := by rw [jG97.1 (159, 0) (by decide)]
      have q101 : (pj_fi G97 159 5).toInt = (pj_fi G0 159 5).toInt := by rw [jG97.1 (159, 5) (by decide)]
      have q102 : (pj_fi G97 165 0).toInt = (pj_fi G0 165 0).toInt := by rw [jG97.1 (165, 0) (by decide)]
      have q103 : (pj_fi G97 165 5).toInt = (pj_fi G0 165 5).toInt := by rw [jG97.1 (165, 5) (by decide)]
      have q104 : (pj_fi G97 53 2).toInt = (pj_fi G0 53 2).toInt := by rw [jG97.1 (53, 2) (by decide)]
      obtain ⟨y105, hy105⟩ : ∃ z : Int32, z = pj_fi G97 21 0 := ⟨_, rfl⟩
      have ey105 : (pj_fi G97 21 0).toInt = y105.toInt := by rw [hy105]
      have ry105 : (0 : Int) ≤ y105.toInt ∧ y105.toInt ≤ 6 := by rw [hy105]; exact iG97.2.1 21 0 (0, 6) rfl
      obtain ⟨y106, hy106⟩ : ∃ z : Int32, z = pj_fi G97 21 5 := ⟨_, rfl⟩
      have ey106 : (pj_fi G97 21 5).toInt = y106.toInt := by rw [hy106]
      have ry106 : (0 : Int) ≤ y106.toInt ∧ y106.toInt ≤ 6 := by rw [hy106]; exact iG97.2.1 21 5 (0, 6) rfl
      obtain ⟨y107, hy107⟩ : ∃ z : Int32, z = pj_fi G97 153 0 := ⟨_, rfl⟩
      have ey107 : (pj_fi G97 153 0).toInt = y107.toInt := by rw [hy107]
      have ry107 : (0 : Int) ≤ y107.toInt ∧ y107.toInt ≤ 6 := by rw [hy107]; exact iG97.2.1 153 0 (0, 6) rfl
      obtain ⟨y108, hy108⟩ : ∃ z : Int32, z = pj_fi G97 153 5 := ⟨_, rfl⟩
      have ey108 : (pj_fi G97 153 5).toInt = y108.toInt := by rw [hy108]
      have ry108 : (0 : Int) ≤ y108.toInt ∧ y108.toInt ≤ 6 := by rw [hy108]; exact iG97.2.1 153 5 (0, 6) rfl
      obtain ⟨y109, hy109⟩ : ∃ z : Int32, z = pj_fi G97 159 0 := ⟨_, rfl⟩
      have ey109 : (pj_fi G97 159 0).toInt = y109.toInt := by rw [hy109]
      have ry109 : (0 : Int) ≤ y109.toInt ∧ y109.toInt ≤ 6 := by rw [hy109]; exact iG97.2.1 159 0 (0, 6) rfl
      obtain ⟨y110, hy110⟩ : ∃ z : Int32, z = pj_fi G97 159 5 := ⟨_, rfl⟩
      have ey110 : (pj_fi G97 159 5).toInt = y110.toInt := by rw [hy110]
      have ry110 : (0 : Int) ≤ y110.toInt ∧ y110.toInt ≤ 6 := by rw [hy110]; exact iG97.2.1 159 5 (0, 6) rfl
      obtain ⟨y111, hy111⟩ : ∃ z : Int32, z = pj_fi G97 165 0 := ⟨_, rfl⟩
      have ey111 : (pj_fi G97 165 0).toInt = y111.toInt := by rw [hy111]
      have ry111 : (0 : Int) ≤ y111.toInt ∧ y111.toInt ≤ 6 := by rw [hy111]; exact iG97.2.1 165 0 (0, 6) rfl
      obtain ⟨y112, hy112⟩ : ∃ z : Int32, z = pj_fi G97 165 5 := ⟨_, rfl⟩
      have ey112 : (pj_fi G97 165 5).toInt = y112.toInt := by rw [hy112]
      have ry112 : (0 : Int) ≤ y112.toInt ∧ y112.toInt ≤ 6 := by rw [hy112]; exact iG97.2.1 165 5 (0, 6) rfl
      obtain ⟨y113, hy113⟩ : ∃ z : Int32, z = pj_fi G97 53 2 := ⟨_, rfl⟩
      have ey113 : (pj_fi G97 53 2).toInt = y113.toInt := by rw [hy113]
      have ry113 : (0 : Int) ≤ y113.toInt ∧ y113.toInt ≤ 15 := by rw [hy113]; exact iG97.2.1 53 2 (0, 15) rfl
      show pj_X _ _ G97 39 [(0, .ref 1), (1, .int i)] [] _
      refine pj_X_of (fun r h => pj_R_to (G97, 40, [(0, .ref 1), (1, .int i)], [.ref 1], 0, 0) 40 2 (fun _ => rfl) h) ?_
      refine pj_X_of (fun r h => pj_T_gr iG97 rfl rfl rfl h) ?_
      have q114 : (pj_fi G97 21 0).toInt = y105.toInt := by rw [show pj_fi G97 21 0 = y105 from hy105.symm]
      have q115 : (pj_fi G97 21 5).toInt = y106.toInt := by rw [show pj_fi G97 21 5 = y106 from hy106.symm]
      have q116 : (pj_fi G97 153 0).toInt = y107.toInt := by rw [show pj_fi G97 153 0 = y107 from hy107.symm]
      have q117 : (pj_fi G97 153 5).toInt = y108.toInt := by rw [show pj_fi G97 153 5 = y108 from hy108.symm]
      have q118 : (pj_fi G97 159 0).toInt = y109.toInt := by rw [show pj_fi G97 159 0 = y109 from hy109.symm]
      have q119 : (pj_fi G97 159 5).toInt = y110.toInt := by rw [show pj_fi G97 159 5 = y110 from hy110.symm]
      have q120 : (pj_fi G97 165 0).toInt = y111.toInt := by rw [show pj_fi G97 165 0 = y111 from hy111.symm]
      have q121 : (pj_fi G97 165 5).toInt = y112.toInt := by rw [show pj_fi G97 165 5 = y112 from hy112.symm]
      have q122 : (pj_fi G97 53 2).toInt = y113.toInt := by rw [show pj_fi G97 53 2 = y113 from hy113.symm]
      refine pj_X_ca (vs := [.ref 53]) rfl (fun _ => rfl) ⟨Nat.le_of_ble_eq_true rfl, Nat.le_of_ble_eq_true rfl, pj_T_rcv iG97 rfl⟩ ⟨rfl, rfl⟩ (pj_Y_up (by decide) (ct_36nx G97 iG97)) ?_
      rintro _ G124 ⟨rfl, iG124, jG124, eG124, fy123⟩
      rw [← fy123, pj_nm_e]
      have kG124 : pj_kpt kc_158nx G0 G124 := pj_kpt_t kG97 (pj_kpt_s jG124 rfl)
      have q125 : (pj_fi G124 21 0).toInt = (pj_fi G97 21 0).toInt := by rw [jG124.1 (21, 0) (by decide)]
      have q126 : (pj_fi G124 21 5).toInt = (pj_fi G97 21 5).toInt := by rw [jG124.1 (21, 5) (by decide)]
      have q127 : (pj_fi G124 153 0).toInt = (pj_fi G97 153 0).toInt := by rw [jG124.1 (153, 0) (by decide)]
      have q128 : (pj_fi G124 153 5).toInt = (pj_fi G97 153 5).toInt := by rw [jG124.1 (153, 5) (by decide)]
      have q129 : (pj_fi G124 159 0).toInt = (pj_fi G97 159 0).toInt := by rw [jG124.1 (159, 0) (by decide)]
      have q130 : (pj_fi G124 159 5).toInt = (pj_fi G97 159 5).toInt := by rw [jG124.1 (159, 5) (by decide)]
      have q131 : (pj_fi G124 165 0).toInt = (pj_fi G97 165 0).toInt := by rw [jG124.1 (165, 0) (by decide)]
      have q132 : (pj_fi G124 165 5).toInt = (pj_fi G97 165 5).toInt := by rw [jG124.1 (165, 5) (by decide)]
      obtain ⟨y133, hy133⟩ : ∃ z : Int32, z = pj_fi G124 21 0 := ⟨_, rfl⟩
      have ey133 : (pj_fi G124 21 0).toInt = y133.toInt := by rw [hy133]
      have ry133 : (0 : Int) ≤ y133.toInt ∧ y133.toInt ≤ 6 := by rw [hy133]; exact iG124.2.1 21 0 (0, 6) rfl
      obtain ⟨y134, hy134⟩ : ∃ z : Int32, z = pj_fi G124 21 5 := ⟨_, rfl⟩
      have ey134 : (pj_fi G124 21 5).toInt = y134.toInt := by rw [hy134]
      have ry134 : (0 : Int) ≤ y134.toInt ∧ y134.toInt ≤ 6 := by rw [hy134]; exact iG124.2.1 21 5 (0, 6) rfl
      obtain ⟨y135, hy135⟩ : ∃ z : Int32, z = pj_fi G124 153 0 := ⟨_, rfl⟩
      have ey135 : (pj_fi G124 153 0).toInt = y135.toInt := by rw [hy135]
      have ry135 : (0 : Int) ≤ y135.toInt ∧ y135.toInt ≤ 6 := by rw [hy135]; exact iG124.2.1 153 0 (0, 6) rfl
      obtain ⟨y136, hy136⟩ : ∃ z : Int32, z = pj_fi G124 153 5 := ⟨_, rfl⟩
      have ey136 : (pj_fi G124 153 5).toInt = y136.toInt := by rw [hy136]
      have ry136 : (0 : Int) ≤ y136.toInt ∧ y136.toInt ≤ 6 := by rw [hy136]; exact iG124.2.1 153 5 (0, 6) rfl
      obtain ⟨y137, hy137⟩ : ∃ z : Int32, z = pj_fi G124 159 0 := ⟨_, rfl⟩
      have ey137 : (pj_fi G124 159 0).toInt = y137.toInt := by rw [hy137]
      have ry137 : (0 : Int) ≤ y137.toInt ∧ y137.toInt ≤ 6 := by rw [hy137]; exact iG124.2.1 159 0 (0, 6) rfl
      obtain ⟨y138, hy138⟩ : ∃ z : Int32, z = pj_fi G124 159 5 := ⟨_, rfl⟩
      have ey138 : (pj_fi G124 159 5).toInt = y138.toInt := by rw [hy138]
      have ry138 : (0 : Int) ≤ y138.toInt ∧ y138.toInt ≤ 6 := by rw [hy138]; exact iG124.2.1 159 5 (0, 6) rfl
      obtain ⟨y139, hy139⟩ : ∃ z : Int32, z = pj_fi G124 165 0 := ⟨_, rfl⟩
      have ey139 : (pj_fi G124 165 0).toInt = y139.toInt := by rw [hy139]
      have ry139 : (0 : Int) ≤ y139.toInt ∧ y139.toInt ≤ 6 := by rw [hy139]; exact iG124.2.1 165 0 (0, 6) rfl
      obtain ⟨y140, hy140⟩ : ∃ z : Int32, z = pj_fi G124 165 5 := ⟨_, rfl⟩
      have ey140 : (pj_fi G124 165 5).toInt = y140.toInt := by rw [hy140]
      have ry140 : (0 : Int) ≤ y140.toInt ∧ y140.toInt ≤ 6 := by rw [hy140]; exact iG124.2.1 165 5 (0, 6) rfl
      obtain ⟨y141, hy141⟩ : ∃ z : Int32, z = pj_fi G124 53 2 := ⟨_, rfl⟩
      have ey141 : (pj_fi G124 53 2).toInt = y141.toInt := by rw [hy141]
      have ry141 : (0 : Int) ≤ y141.toInt ∧ y141.toInt ≤ 15 := by rw [hy141]; exact iG124.2.1 53 2 (0, 15) rfl
      show pj_X _ _ G124 46 [(0, .ref 1), (1, .int i)] [] _
      refine pj_X_of (fun r h => pj_R_to (G124, 47, [(0, .ref 1), (1, .int i)], [.int (Int32.ofInt 1)], 0, 0) 47 2 (fun _ => rfl) h) ?_
      have q142 : (pj_fi G124 21 0).toInt = y133.toInt := by rw [show pj_fi G124 21 0 = y133 from hy133.symm]
      have q143 : (pj_fi G124 21 5).toInt = y134.toInt := by rw [show pj_fi G124 21 5 = y134 from hy134.symm]
      have q144 : (pj_fi G124 153 0).toInt = y135.toInt := by rw [show pj_fi G124 153 0 = y135 from hy135.symm]
      have q145 : (pj_fi G124 153 5).toInt = y136.toInt := by rw [show pj_fi G124 153 5 = y136 from hy136.symm]
      have q146 : (pj_fi G124 159 0).toInt = y137.toInt := by rw [show pj_fi G124 159 0 = y137 from hy137.symm]
      have q147 : (pj_fi G124 159 5).toInt = y138.toInt := by rw [show pj_fi G124 159 5 = y138 from hy138.symm]
      have q148 : (pj_fi G124 165 0).toInt = y139.toInt := by rw [show pj_fi G124 165 0 = y139 from hy139.symm]
      have q149 : (pj_fi G124 165 5).toInt = y140.toInt := by rw [show pj_fi G124 165 5 = y140 from hy140.symm]
      have q150 : (pj_fi G124 53 2).toInt = y141.toInt := by rw [show pj_fi G124 53 2 = y141 from hy141.symm]
      exact pj_X_rt rfl rfl ⟨_, rfl, iG124, kG124, ⟨by omega, by omega⟩, (fun H hH => by subst hH; exact (⟨⟨fun _ => ey19.2.1 (by omega), fun hz => absurd hz (by omega)⟩, mr_PC_z (by omega) (by omega) (by omega)⟩)), rfl⟩
    rw [if_neg t86]
    · refine pj_X_aa hI rfl rfl (k := 2) (by show _ = ((2 : Nat) : Int); omega) (by decide) rfl ?_
      have q151 : (pj_fi G0 21 0).toInt = y1.toInt := by rw [show pj_fi G0 21 0 = y1 from hy1.symm]
      have q152 : (pj_fi G0 21 5).toInt = y2.toInt := by rw [show pj_fi G0 21 5 = y2 from hy2.symm]
      have q153 : (pj_fi G0 153 0).toInt = y3.toInt := by rw [show pj_fi G0 153 0 = y3 from hy3.symm]
      have q154 : (pj_fi G0 153 5).toInt = y4.toInt := by rw [show pj_fi G0 153 5 = y4 from hy4.symm]
      have q155 : (pj_fi G0 159 0).toInt = y5.toInt := by rw [show pj_fi G0 159 0 = y5 from hy5.symm]
      have q156 : (pj_fi G0 159 5).toInt = y6.toInt := by rw [show pj_fi G0 159 5 = y6 from hy6.symm]
      have q157 : (pj_fi G0 165 0).toInt = y7.toInt := by rw [show pj_fi G0 165 0 = y7 from hy7.symm]
      have q158 : (pj_fi G0 165 5).toInt = y8.toInt := by rw [show pj_fi G0 165 5 = y8 from hy8.symm]
      have q159 : (pj_fi G0 53 2).toInt = y9.toInt := by rw [show pj_fi G0 53 2 = y9 from hy9.symm]
      refine pj_X_ca (vs := [.ref 21, .ref 165]) rfl (fun _ => rfl) ⟨Nat.le_of_ble_eq_true rfl, Nat.le_of_ble_eq_true rfl, pj_T_rcv hI rfl⟩ ⟨rfl, rfl⟩ (pj_Y_up (by decide) (ct_68_21_165x G0 hI)) ?_
      rintro _ G161 ⟨rfl, iG161, jG161, eG161, fy160⟩
      replace eG161 := eG161 _ rfl
      rw [← fy160, pj_nm_e]
      have kG161 : pj_kpt kc_158nx G0 G161 := pj_kpt_t hK (pj_kpt_s jG161 rfl)
      have q162 : (pj_fi G161 153 0).toInt = (pj_fi G0 153 0).toInt := by rw [jG161.1 (153, 0) (by decide)]
      have q163 : (pj_fi G161 153 5).toInt = (pj_fi G0 153 5).toInt := by rw [jG161.1 (153, 5) (by decide)]
      have q164 : (pj_fi G161 159 0).toInt = (pj_fi G0 159 0).toInt := by rw [jG161.1 (159, 0) (by decide)]
      have q165 : (pj_fi G161 159 5).toInt = (pj_fi G0 159 5).toInt := by rw [jG161.1 (159, 5) (by decide)]
      have q166 : (pj_fi G161 165 0).toInt = (pj_fi G0 165 0).toInt := by rw [jG161.1 (165, 0) (by decide)]
      have q167 : (pj_fi G161 165 5).toInt = (pj_fi G0 165 5).toInt := by rw [jG161.1 (165, 5) (by decide)]
      have q168 : (pj_fi G161 53 2).toInt = (pj_fi G0 53 2).toInt := by rw [jG161.1 (53, 2) (by decide)]
      obtain ⟨y169, hy169⟩ : ∃ z : Int32, z = pj_fi G161 21 0 := ⟨_, rfl⟩
      have ey169 : (pj_fi G161 21 0).toInt = y169.toInt := by rw [hy169]
      have ry169 : (0 : Int) ≤ y169.toInt ∧ y169.toInt ≤ 6 := by rw [hy169]; exact iG161.2.1 21 0 (0, 6) rfl
      obtain ⟨y170, hy170⟩ : ∃ z : Int32, z = pj_fi G161 21 5 := ⟨_, rfl⟩
      have ey170 : (pj_fi G161 21 5).toInt = y170.toInt := by rw [hy170]
      have ry170 : (0 : Int) ≤ y170.toInt ∧ y170.toInt ≤ 6 := by rw [hy170]; exact iG161.2.1 21 5 (0, 6) rfl
      obtain ⟨y171, hy171⟩ : ∃ z : Int32, z = pj_fi G161 153 0 := ⟨_, rfl⟩
      have ey171 : (pj_fi G161 153 0).toInt = y171.toInt := by rw [hy171]
      have ry171 : (0 : Int) ≤ y171.toInt ∧ y171.toInt ≤ 6 := by rw [hy171]; exact iG161.2.1 153 0 (0, 6) rfl
      obtain ⟨y172, hy172⟩ : ∃ z : Int32, z = pj_fi G161 153 5 := ⟨_, rfl⟩
      have ey172 : (pj_fi G161 153 5).toInt = y172.toInt := by rw [hy172]
      have ry172 : (0 : Int) ≤ y172.toInt ∧ y172.toInt ≤ 6 := by rw [hy172]; exact iG161.2.1 153 5 (0, 6) rfl
      obtain ⟨y173, hy173⟩ : ∃ z : Int32, z = pj_fi G161 159 0 := ⟨_, rfl⟩
      have ey173 : (pj_fi G161 159 0).toInt = y173.toInt := by rw [hy173]
      have ry173 : (0 : Int) ≤ y173.toInt ∧ y173.toInt ≤ 6 := by rw [hy173]; exact iG161.2.1 159 0 (0, 6) rfl
      obtain ⟨y174, hy174⟩ : ∃ z : Int32, z = pj_fi G161 159 5 := ⟨_, rfl⟩
      have ey174 : (pj_fi G161 159 5).toInt = y174.toInt := by rw [hy174]
      have ry174 : (0 : Int) ≤ y174.toInt ∧ y174.toInt ≤ 6 := by rw [hy174]; exact iG161.2.1 159 5 (0, 6) rfl
      obtain ⟨y175, hy175⟩ : ∃ z : Int32, z = pj_fi G161 165 0 := ⟨_, rfl⟩
      have ey175 : (pj_fi G161 165 0).toInt = y175.toInt := by rw [hy175]
      have ry175 : (0 : Int) ≤ y175.toInt ∧ y175.toInt ≤ 6 := by rw [hy175]; exact iG161.2.1 165 0 (0, 6) rfl
      obtain ⟨y176, hy176⟩ : ∃ z : Int32, z = pj_fi G161 165 5 := ⟨_, rfl⟩
      have ey176 : (pj_fi G161 165 5).toInt = y176.toInt := by rw [hy176]
      have ry176 : (0 : Int) ≤ y176.toInt ∧ y176.toInt ≤ 6 := by rw [hy176]; exact iG161.2.1 165 5 (0, 6) rfl
      obtain ⟨y177, hy177⟩ : ∃ z : Int32, z = pj_fi G161 53 2 := ⟨_, rfl⟩
      have ey177 : (pj_fi G161 53 2).toInt = y177.toInt := by rw [hy177]
      have ry177 : (0 : Int) ≤ y177.toInt ∧ y177.toInt ≤ 15 := by rw [hy177]; exact iG161.2.1 53 2 (0, 15) rfl
      show pj_X _ _ G161 39 [(0, .ref 1), (1, .int i)] [] _
      refine pj_X_of (fun r h => pj_R_to (G161, 40, [(0, .ref 1), (1, .int i)], [.ref 1], 0, 0) 40 2 (fun _ => rfl) h) ?_
      refine pj_X_of (fun r h => pj_T_gr iG161 rfl rfl rfl h) ?_
      have q178 : (pj_fi G161 21 0).toInt = y169.toInt := by rw [show pj_fi G161 21 0 = y169 from hy169.symm]
      have q179 : (pj_fi G161 21 5).toInt = y170.toInt := by rw [show pj_fi G161 21 5 = y170 from hy170.symm]
      have q180 : (pj_fi G161 153 0).toInt = y171.toInt := by rw [show pj_fi G161 153 0 = y171 from hy171.symm]
      have q181 : (pj_fi G161 153 5).toInt = y172.toInt := by rw [show pj_fi G161 153 5 = y172 from hy172.symm]
      have q182 : (pj_fi G161 159 0).toInt = y173.toInt := by rw [show pj_fi G161 159 0 = y173 from hy173.symm]
      have q183 : (pj_fi G161 159 5).toInt = y174.toInt := by rw [show pj_fi G161 159 5 = y174 from hy174.symm]
      have q184 : (pj_fi G161 165 0).toInt = y175.toInt := by rw [show pj_fi G161 165 0 = y175 from hy175.symm]
      have q185 : (pj_fi G161 165 5).toInt = y176.toInt := by rw [show pj_fi G161 165 5 = y176 from hy176.symm]
      have q186 : (pj_fi G161 53 2).toInt = y177.toInt := by rw [show pj_fi G161 53 2 = y177 from hy177.symm]
      refine pj_X_ca (vs := [.ref 53]) rfl (fun _ => rfl) ⟨Nat.le_of_ble_eq_true rfl, Nat.le_of_ble_eq_true rfl, pj_T_rcv iG161 rfl⟩ ⟨rfl, rfl⟩ (pj_Y_up (by decide) (ct_36nx G161 iG161)) ?_
      rintro _ G188 ⟨rfl, iG188, jG188, eG188, fy187⟩
      rw [← fy187, pj_nm_e]
      have kG188 : pj_kpt kc_158nx G0 G188 := pj_kpt_t kG161 (pj_kpt_s jG188 rfl)
      have q189 : (pj_fi G188 21 0).toInt = (pj_fi G161 21 0).toInt := by rw [jG188.1 (21, 0) (by decide)]
      have q190 : (pj_fi G188 21 5).toInt = (pj_fi G161 21 5).toInt := by rw [jG188.1 (21, 5) (by decide)]
      have q191 : (pj_fi G188 153 0).toInt = (pj_fi G161 153 0).toInt := by rw [jG188.1 (153, 0) (by decide)]
      have q192 : (pj_fi G188 153 5).toInt = (pj_fi G161 153 5).toInt := by rw [jG188.1 (153, 5) (by decide)]
      have q193 : (pj_fi G188 159 0).toInt = (pj_fi G161 159 0).toInt := by rw [jG188.1 (159, 0) (by decide)]
      have q194 : (pj_fi G188 159 5).toInt = (pj_fi G161 159 5).toInt := by rw [jG188.1 (159, 5) (by decide)]
      have q195 : (pj_fi G188 165 0).toInt = (pj_fi G161 165 0).toInt := by rw [jG188.1 (165, 0) (by decide)]
      have q196 : (pj_fi G188 165 5).toInt = (pj_fi G161 165 5).toInt := by rw [jG188.1 (165, 5) (by decide)]
      obtain ⟨y197, hy197⟩ : ∃ z : Int32, z = pj_fi G188 21 0 := ⟨_, rfl⟩
      have ey197 : (pj_fi G188 21 0).toInt = y197.toInt := by rw [hy197]
      have ry197 : (0 : Int) ≤ y197.toInt ∧ y197.toInt ≤ 6 := by rw [hy197]; exact iG188.2.1 21 0 (0, 6) rfl
      obtain ⟨y198, hy198⟩ : ∃ z : Int32, z = pj_fi G188 21 5 := ⟨_, rfl⟩
      have ey198 : (pj_fi G188 21 5).toInt = y198.toInt := by rw [hy198]
      have ry198 : (0 : Int) ≤ y198.toInt ∧ y198.toInt ≤ 6 := by rw [hy198]; exact iG188.2.1 21 5 (0, 6) rfl
      obtain ⟨y199, hy199⟩ : ∃ z : Int32, z = pj_fi G188 153 0 := ⟨_, rfl⟩
      have ey199 : (pj_fi G188 153 0).toInt = y199.toInt := by rw [hy199]
      have ry199 : (0 : Int) ≤ y199.toInt ∧ y199.toInt ≤ 6 := by rw [hy199]; exact iG188.2.1 153 0 (0, 6) rfl
      obtain ⟨y200, hy200⟩ : ∃ z : Int32, z = pj_fi G188 153 5 := ⟨_, rfl⟩
      have ey200 : (pj_fi G188 153 5).toInt = y200.toInt := by rw [hy200]
      have ry200 : (0 : Int) ≤ y200.toInt ∧ y200.toInt ≤ 6 := by rw [hy200]; exact iG188.2.1 153 5 (0, 6) rfl
      obtain ⟨y201, hy201⟩ : ∃ z : Int32, z = pj_fi G188 159 0 := ⟨_, rfl⟩
      have ey201 : (pj_fi G188 159 0).toInt = y201.toInt := by rw [hy201]
      have ry201 : (0 : Int) ≤ y201.toInt ∧ y201.toInt ≤ 6 := by rw [hy201]; exact iG188.2.1 159 0 (0, 6) rfl
      obtain ⟨y202, hy202⟩ : ∃ z : Int32, z = pj_fi G188 159 5 := ⟨_, rfl⟩
      have ey202 : (pj_fi G188 159 5).toInt = y202.toInt := by rw [hy202]
      have ry202 : (0 : Int) ≤ y202.toInt ∧ y202.toInt ≤ 6 := by rw [hy202]; exact iG188.2.1 159 5 (0, 6) rfl
      obtain ⟨y203, hy203⟩ : ∃ z : Int32, z = pj_fi G188 165 0 := ⟨_, rfl⟩
      have ey203 : (pj_fi G188 165 0).toInt = y203.toInt := by rw [hy203]
      have ry203 : (0 : Int) ≤ y203.toInt ∧ y203.toInt ≤ 6 := by rw [hy203]; exact iG188.2.1 165 0 (0, 6) rfl
      obtain ⟨y204, hy204⟩ : ∃ z : Int32, z = pj_fi G188 165 5 := ⟨_, rfl⟩
      have ey204 : (pj_fi G188 165 5).toInt = y204.toInt := by rw [hy204]
      have ry204 : (0 : Int) ≤ y204.toInt ∧ y204.toInt ≤ 6 := by rw [hy204]; exact iG188.2.1 165 5 (0, 6) rfl
      obtain ⟨y205, hy205⟩ : ∃ z : Int32, z = pj_fi G188 53 2 := ⟨_, rfl⟩
      have ey205 : (pj_fi G188 53 2).toInt = y205.toInt := by rw [hy205]
      have ry205 : (0 : Int) ≤ y205.toInt ∧ y205.toInt ≤ 15 := by rw [hy205]; exact iG188.2.1 53 2 (0, 15) rfl
      show pj_X _ _ G188 46 [(0, .ref 1), (1, .int i)] [] _
      refine pj_X_of (fun r h => pj_R_to (G188, 47, [(0, .ref 1), (1, .int i)], [.int (Int32.ofInt 1)], 0, 0) 47 2 (fun _ => rfl) h) ?_
      have q206 : (pj_fi G188 21 0).toInt = y197.toInt := by rw [show pj_fi G188 21 0 = y197 from hy197.symm]
      have q207 : (pj_fi G188 21 5).toInt = y198.toInt := by rw [show pj_fi G188 21 5 = y198 from hy198.symm]
      have q208 : (pj_fi G188 153 0).toInt = y199.toInt := by rw [show pj_fi G188 153 0 = y199 from hy199.symm]
      have q209 : (pj_fi G188 153 5).toInt = y200.toInt := by rw [show pj_fi G188 153 5 = y200 from hy200.symm]
      have q210 : (pj_fi G188 159 0).toInt = y201.toInt := by rw [show pj_fi G188 159 0 = y201 from hy201.symm]
      have q211 : (pj_fi G188 159 5).toInt = y202.toInt := by rw [show pj_fi G188 159 5 = y202 from hy202.symm]
      have q212 : (pj_fi G188 165 0).toInt = y203.toInt := by rw [show pj_fi G188 165 0 = y203 from hy203.symm]
      have q213 : (pj_fi G188 165 5).toInt = y204.toInt := by rw [show pj_fi G188 165 5 = y204 from hy204.symm]
      have q214 : (pj_fi G188 53 2).toInt = y205.toInt := by rw [show pj_fi G188 53 2 = y205 from hy205.symm]
      exact pj_X_rt rfl rfl ⟨_, rfl, iG188, kG188, ⟨by omega, by omega⟩, (fun H hH => by subst hH; exact (⟨⟨fun _ => ey19.2.1 (by omega), fun hz => absurd hz (by omega)⟩, mr_PC_z (by omega) (by omega) (by omega)⟩)), rfl⟩
  | false =>
    rw [pj_cF]
    have ub20 := pj_u0_neF b20
    refine pj_X_of (fun r h => pj_R_ifF rfl b20 h) ?_
    refine pj_X_of (fun r h => pj_R_to (G0, 19, [(0, .ref 1), (1, .int i)], [.int (Int32.ofInt 0)], 0, 0) 19 2 (fun _ => rfl) h) ?_
    have q215 : (pj_fi G0 21 0).toInt = y1.toInt := by rw [show pj_fi G0 21 0 = y1 from hy1.symm]
    have q216 : (pj_fi G0 21 5).toInt = y2.toInt := by rw [show pj_fi G0 21 5 = y2 from hy2.symm]
    have q217 : (pj_fi G0 153 0).toInt = y3.toInt := by rw [show pj_fi G0 153 0 = y3 from hy3.symm]
    have q218 : (pj_fi G0 153 5).toInt = y4.toInt := by rw [show pj_fi G0 153 5 = y4 from hy4.symm]
    have q219 : (pj_fi G0 159 0).toInt = y5.toInt := by rw [show pj_fi G0 159 0 = y5 from hy5.symm]
    have q220 : (pj_fi G0 159 5).toInt = y6.toInt := by rw [show pj_fi G0 159 5 = y6 from hy6.symm]
    have q221 : (pj_fi G0 165 0).toInt = y7.toInt := by rw [show pj_fi G0 165 0 = y7 from hy7.symm]
    have q222 : (pj_fi G0 165 5).toInt = y8.toInt := by rw [show pj_fi G0 165 5 = y8 from hy8.symm]
    have q223 : (pj_fi G0 53 2).toInt = y9.toInt := by rw [show pj_fi G0 53 2 = y9 from hy9.symm]
    exact pj_X_rt rfl rfl ⟨_, rfl, hI, hK, ⟨by omega, by omega⟩, (fun H hH => by subst hH; exact (⟨⟨fun hz => absurd hz (by omega), fun _ => ey19.2.2 (by omega)⟩, mr_PC_r _⟩)), rfl⟩
theorem fr_158nx (G0 : pj_G) (hI : pj_Inv G0) (i : Int32) : pj_Inv (F_158nx G0 i).2 ∧ pj_kpt kc_158nx G0 (F_158nx G0 i).2 ∧ ((0 : Int) ≤ (F_158nx G0 i).1.toInt ∧ (F_158nx G0 i).1.toInt ≤ 1) ∧ (((1 ≤ (F_158nx G0 i).1.toInt → (0 ≤ i.toInt ∧ i.toInt ≤ 2 ∧ ¬ (pj_ai G0 56 i.toInt.toNat).toInt = 0 ∧ ((i.toInt = 0 → (pj_fi G0 153 0).toInt = (pj_fi G0 21 0).toInt ∧ (pj_fi G0 153 5).toInt = (pj_fi G0 21 5).toInt) ∧ (i.toInt = 1 → (pj_fi G0 159 0).toInt = (pj_fi G0 21 0).toInt ∧ (pj_fi G0 159 5).toInt = (pj_fi G0 21 5).toInt) ∧ (i.toInt = 2 → (pj_fi G0 165 0).toInt = (pj_fi G0 21 0).toInt ∧ (pj_fi G0 165 5).toInt = (pj_fi G0 21 5).toInt)))) ∧ ((F_158nx G0 i).1.toInt = 0 → ¬ (0 ≤ i.toInt ∧ i.toInt ≤ 2 ∧ ¬ (pj_ai G0 56 i.toInt.toNat).toInt = 0 ∧ ((i.toInt = 0 → (pj_fi G0 153 0).toInt = (pj_fi G0 21 0).toInt ∧ (pj_fi G0 153 5).toInt = (pj_fi G0 21 5).toInt) ∧ (i.toInt = 1 → (pj_fi G0 159 0).toInt = (pj_fi G0 21 0).toInt ∧ (pj_fi G0 159 5).toInt = (pj_fi G0 21 5).toInt) ∧ (i.toInt = 2 → (pj_fi G0 165 0).toInt = (pj_fi G0 21 0).toInt ∧ (pj_fi G0 165 5).toInt = (pj_fi G0 21 5).toInt))))) ∧ mr_PC G0 (F_158nx G0 i).2) := by
  obtain ⟨v, G', -, y, -, i, j, r, x, e⟩ := ct_158nx G0 hI i
  rw [← e]
  exact ⟨i, j, r, x _ rfl⟩
