def kc_181etx : pj_KT := ([(171, 16), (171, 17), (171, 18), (171, 19)], [171], [])
noncomputable def F_182etx (G0 : pj_G) (most : Int32) : Int32 × pj_G := pj_nm (pj_fi G0 171 16) (fun y4 => pj_nm (pj_wv G0 171 16 (.int (Int32.ofInt 0))) (fun G5 => pj_nm (pj_wv G5 171 17 (.int (Int32.ofInt 0))) (fun G6 => pj_nm (pj_wv G6 171 19 (.int (Int32.ofInt 0))) (fun G7 => pj_nm ((if most < y4 then most else y4)) (fun z8 => pj_nm (pj_wv G7 171 18 (.int z8)) (fun G9 => (y4, G9)))))))
theorem F_182etx_e (G0 : pj_G) (most : Int32) : F_182etx G0 most = pj_nm (pj_fi G0 171 16) (fun y4 => pj_nm (pj_wv G0 171 16 (.int (Int32.ofInt 0))) (fun G5 => pj_nm (pj_wv G5 171 17 (.int (Int32.ofInt 0))) (fun G6 => pj_nm (pj_wv G6 171 19 (.int (Int32.ofInt 0))) (fun G7 => pj_nm ((if most < y4 then most else y4)) (fun z8 => pj_nm (pj_wv G7 171 18 (.int z8)) (fun G9 => (y4, G9))))))) := rfl
theorem ct_181etx (G0 : pj_G) (hI : pj_Inv G0) (most : Int32) (rmost : (0 : Int) ≤ most.toInt ∧ most.toInt ≤ 80) : pj_Y 1 181 [.ref 171, .int most] G0 (fun v' G' => ∃ y : Int32, v' = some (.int y) ∧ pj_Inv G' ∧ pj_kpt kc_181etx G0 G' ∧ ((0 : Int) ≤ y.toInt ∧ y.toInt ≤ 80) ∧ (∀ H, G0 = H → ((((pj_fi G' 171 17).toInt = 0 ∧ (pj_fi G' 171 18).toInt ≤ most.toInt ∧ (pj_fi G' 171 19).toInt = 0) ∧ (pj_fi G' 171 16).toInt = 0) ∧ (y.toInt = (pj_fi H 171 16).toInt ∧ (pj_fi G' 171 16).toInt = 0 ∧ ((pj_fi H 171 16).toInt ≤ most.toInt → (pj_fi G' 171 18).toInt = (pj_fi H 171 16).toInt) ∧ (most.toInt ≤ (pj_fi H 171 16).toInt → (pj_fi G' 171 18).toInt = most.toInt)))) ∧ ((y, G') = F_182etx G0 most)) := by
  have c0_ : (Int32.ofInt 0).toInt = 0 := by decide
  refine pj_Y_X (M := pj_m181) rfl rfl (Nat.le_of_ble_eq_true rfl) ?_
  have hK : pj_kpt kc_181etx G0 G0 := pj_kpt_r _ _
  show pj_X _ _ G0 0 [(0, .ref 171), (1, .int most)] [] _
  rw [F_182etx_e]
  obtain ⟨y1, hy1⟩ : ∃ z : Int32, z = pj_fi G0 171 17 := ⟨_, rfl⟩
  have ey1 : (pj_fi G0 171 17).toInt = y1.toInt := by rw [hy1]
  have ry1 : (0 : Int) ≤ y1.toInt ∧ y1.toInt ≤ 80 := by rw [hy1]; exact hI.2.1 171 17 (0, 80) rfl
  obtain ⟨y2, hy2⟩ : ∃ z : Int32, z = pj_fi G0 171 18 := ⟨_, rfl⟩
  have ey2 : (pj_fi G0 171 18).toInt = y2.toInt := by rw [hy2]
  have ry2 : (0 : Int) ≤ y2.toInt ∧ y2.toInt ≤ 80 := by rw [hy2]; exact hI.2.1 171 18 (0, 80) rfl
  obtain ⟨y3, hy3⟩ : ∃ z : Int32, z = pj_fi G0 171 19 := ⟨_, rfl⟩
  have ey3 : (pj_fi G0 171 19).toInt = y3.toInt := by rw [hy3]
  have ry3 : (0 : Int) ≤ y3.toInt ∧ y3.toInt ≤ 4 := by rw [hy3]; exact hI.2.1 171 19 (0, 4) rfl
  obtain ⟨y4, hy4⟩ : ∃ z : Int32, z = pj_fi G0 171 16 := ⟨_, rfl⟩
  have ey4 : (pj_fi G0 171 16).toInt = y4.toInt := by rw [hy4]
  have ry4 : (0 : Int) ≤ y4.toInt ∧ y4.toInt ≤ 80 := by rw [hy4]; exact hI.2.1 171 16 (0, 80) rfl
  refine pj_X_of (fun r h => pj_R_to (G0, 1, [(0, .ref 171), (1, .int most)], [.ref 171], 0, 0) 1 2 (fun _ => rfl) h) ?_
  refine pj_X_of (fun r h => pj_T_gi hI rfl rfl h) ?_
  show pj_X _ _ G0 4 [(0, .ref 171), (1, .int most)] [.int (pj_fi G0 171 16)] _
  rw [← hy4, pj_nm_e]
  refine pj_X_of (fun r h => pj_R_to (G0, 7, [(2, .int y4), (0, .ref 171), (1, .int most)], [.int (Int32.ofInt 0), .ref 171], 0, 0) 7 4 (fun _ => rfl) h) ?_
  refine pj_X_of (fun r h => pj_T_pf hI rfl rfl rfl h) ?_
  show pj_X _ _ (pj_wv G0 171 16 (.int (Int32.ofInt 0))) 10 [(2, .int y4), (0, .ref 171), (1, .int most)] [] _
  obtain ⟨G5, hG5⟩ : ∃ H, H = pj_wv G0 171 16 (.int (Int32.ofInt 0)) := ⟨_, rfl⟩
  have iG5 : pj_Inv G5 := by rw [hG5]; exact pj_Inv_wi hI (ci := 12) rfl (fun q hq => by cases hq; exact ⟨by show (0 : Int) ≤ _; omega, by show _ ≤ (80 : Int); omega⟩)
  have kG5 : pj_kpt kc_181etx G0 G5 := by rw [hG5]; exact pj_kpt_v hK rfl
  rw [← hG5]
  rw [pj_nm_e]
  refine pj_X_of (fun r h => pj_R_to (G5, 12, [(2, .int y4), (0, .ref 171), (1, .int most)], [.int (Int32.ofInt 0), .ref 171], 0, 0) 12 3 (fun _ => rfl) h) ?_
  refine pj_X_of (fun r h => pj_T_pf iG5 rfl rfl rfl h) ?_
  show pj_X _ _ (pj_wv G5 171 17 (.int (Int32.ofInt 0))) 15 [(2, .int y4), (0, .ref 171), (1, .int most)] [] _
  obtain ⟨G6, hG6⟩ : ∃ H, H = pj_wv G5 171 17 (.int (Int32.ofInt 0)) := ⟨_, rfl⟩
  have iG6 : pj_Inv G6 := by rw [hG6]; exact pj_Inv_wi iG5 (ci := 12) rfl (fun q hq => by cases hq; exact ⟨by show (0 : Int) ≤ _; omega, by show _ ≤ (80 : Int); omega⟩)
  have kG6 : pj_kpt kc_181etx G0 G6 := by rw [hG6]; exact pj_kpt_v kG5 rfl
  rw [← hG6]
  rw [pj_nm_e]
  refine pj_X_of (fun r h => pj_R_to (G6, 17, [(2, .int y4), (0, .ref 171), (1, .int most)], [.int (Int32.ofInt 0), .ref 171], 0, 0) 17 3 (fun _ => rfl) h) ?_
  refine pj_X_of (fun r h => pj_T_pf iG6 rfl rfl rfl h) ?_
  show pj_X _ _ (pj_wv G6 171 19 (.int (Int32.ofInt 0))) 20 [(2, .int y4), (0, .ref 171), (1, .int most)] [] _
  obtain ⟨G7, hG7⟩ : ∃ H, H = pj_wv G6 171 19 (.int (Int32.ofInt 0)) := ⟨_, rfl⟩
  have iG7 : pj_Inv G7 := by rw [hG7]; exact pj_Inv_wi iG6 (ci := 12) rfl (fun q hq => by cases hq; exact ⟨by show (0 : Int) ≤ _; omega, by show _ ≤ (4 : Int); omega⟩)
  have kG7 : pj_kpt kc_181etx G0 G7 := by rw [hG7]; exact pj_kpt_v kG6 rfl
  rw [← hG7]
  rw [pj_nm_e]
  refine pj_X_of (fun r h => pj_R_to (G7, 23, [(2, .int y4), (0, .ref 171), (1, .int most)], [.int most, .int y4, .ref 171], 0, 0) 23 4 (fun _ => rfl) h) ?_
  refine pj_X_of (fun r h => pj_R_mn (v := (if most < y4 then most else y4)) rfl rfl rfl (Nat.le_of_ble_eq_true rfl) h) ?_
  show pj_X _ _ G7 26 [(2, .int y4), (0, .ref 171), (1, .int most)] [.int (if most < y4 then most else y4), .ref 171] _
  obtain ⟨z8, hz8⟩ : ∃ z : Int32, z = (if most < y4 then most else y4) := ⟨_, rfl⟩
  refine pj_X_eqi hz8.symm ?_
  rw [← hz8, pj_nm_e]
  have fz8_0 : z8.toInt ≤ y4.toInt ∧ z8.toInt ≤ most.toInt ∧ (z8.toInt = y4.toInt ∨ z8.toInt = most.toInt) := by rw [hz8]; exact pj_minI
  refine pj_X_of (fun r h => pj_T_pf iG7 rfl rfl rfl h) ?_
  show pj_X _ _ (pj_wv G7 171 18 (.int z8)) 29 [(2, .int y4), (0, .ref 171), (1, .int most)] [] _
  obtain ⟨G9, hG9⟩ : ∃ H, H = pj_wv G7 171 18 (.int z8) := ⟨_, rfl⟩
  have iG9 : pj_Inv G9 := by rw [hG9]; exact pj_Inv_wi iG7 (ci := 12) rfl (fun q hq => by cases hq; exact ⟨by show (0 : Int) ≤ _; omega, by show _ ≤ (80 : Int); omega⟩)
  have kG9 : pj_kpt kc_181etx G0 G9 := by rw [hG9]; exact pj_kpt_v kG7 rfl
  rw [← hG9]
  rw [pj_nm_e]
  refine pj_X_of (fun r h => pj_R_to (G9, 30, [(2, .int y4), (0, .ref 171), (1, .int most)], [.int y4], 0, 0) 30 2 (fun _ => rfl) h) ?_
  have q10 : (pj_fi G9 171 17).toInt = (Int32.ofInt 0).toInt := by rw [show pj_fi G9 171 17 = Int32.ofInt 0 from by rw [hG9, pj_fi_wv_ne _ _ _ _ _ _ (by decide)]; exact (by rw [hG7, pj_fi_wv_ne _ _ _ _ _ _ (by decide)]; exact (by rw [hG6]; exact pj_fi_wi iG5.1 (ci := 12) rfl _))]
  have q11 : (pj_fi G9 171 18).toInt = z8.toInt := by rw [show pj_fi G9 171 18 = z8 from by rw [hG9]; exact pj_fi_wi iG7.1 (ci := 12) rfl _]
  have q12 : (pj_fi G9 171 19).toInt = (Int32.ofInt 0).toInt := by rw [show pj_fi G9 171 19 = Int32.ofInt 0 from by rw [hG9, pj_fi_wv_ne _ _ _ _ _ _ (by decide)]; exact (by rw [hG7]; exact pj_fi_wi iG6.1 (ci := 12) rfl _)]
  have q13 : (pj_fi G9 171 16).toInt = (Int32.ofInt 0).toInt := by rw [show pj_fi G9 171 16 = Int32.ofInt 0 from by rw [hG9, pj_fi_wv_ne _ _ _ _ _ _ (by decide)]; exact (by rw [hG7, pj_fi_wv_ne _ _ _ _ _ _ (by decide)]; exact (by rw [hG6, pj_fi_wv_ne _ _ _ _ _ _ (by decide)]; exact (by rw [hG5]; exact pj_fi_wi hI.1 (ci := 12) rfl _)))]
  exact pj_X_rt rfl rfl ⟨_, rfl, iG9, kG9, ⟨by omega, by omega⟩, (fun H hH => by subst hH; exact (⟨by omega, by omega⟩)), rfl⟩
theorem fr_182etx (G0 : pj_G) (hI : pj_Inv G0) (most : Int32) (rmost : (0 : Int) ≤ most.toInt ∧ most.toInt ≤ 80) : pj_Inv (F_182etx G0 most).2 ∧ pj_kpt kc_181etx G0 (F_182etx G0 most).2 ∧ ((0 : Int) ≤ (F_182etx G0 most).1.toInt ∧ (F_182etx G0 most).1.toInt ≤ 80) ∧ ((((pj_fi (F_182etx G0 most).2 171 17).toInt = 0 ∧ (pj_fi (F_182etx G0 most).2 171 18).toInt ≤ most.toInt ∧ (pj_fi (F_182etx G0 most).2 171 19).toInt = 0) ∧ (pj_fi (F_182etx G0 most).2 171 16).toInt = 0) ∧ ((F_182etx G0 most).1.toInt = (pj_fi G0 171 16).toInt ∧ (pj_fi (F_182etx G0 most).2 171 16).toInt = 0 ∧ ((pj_fi G0 171 16).toInt ≤ most.toInt → (pj_fi (F_182etx G0 most).2 171 18).toInt = (pj_fi G0 171 16).toInt) ∧ (most.toInt ≤ (pj_fi G0 171 16).toInt → (pj_fi (F_182etx G0 most).2 171 18).toInt = most.toInt))) := by
  obtain ⟨v, G', -, y, -, i, j, r, x, e⟩ := ct_181etx G0 hI most rmost
  rw [← e]
  exact ⟨i, j, r, x _ rfl⟩
def kc_182x : pj_KT := ([(171, 17)], [171], [])
noncomputable def F_183x (G0 : pj_G) (sg : Int32) : Int32 × pj_G := pj_nm (pj_fi G0 171 17) (fun y1 => pj_nm (pj_fi G0 171 18) (fun y2 => cond (pj_c1 .ge y1 y2) (pj_nm (F_173x G0 (Int32.ofInt 0)) (fun y6 => pj_nm (y1 + y6) (fun z7 => pj_nm (pj_wv G0 171 17 (.int z7)) (fun G8 => (Int32.ofInt 0, G8))))) (pj_nm (pj_ai G0 180 y1.toInt.toNat) (fun z11 => cond (pj_c1 .ne z11 sg) (pj_nm (F_173x G0 (Int32.ofInt 0)) (fun y15 => pj_nm (y1 + y15) (fun z16 => pj_nm (pj_wv G0 171 17 (.int z16)) (fun G17 => (Int32.ofInt 0, G17))))) (pj_nm (F_173x G0 (Int32.ofInt 1)) (fun y22 => pj_nm (y1 + y22) (fun z23 => pj_nm (pj_wv G0 171 17 (.int z23)) (fun G24 => (Int32.ofInt 1, G24)))))))))
theorem F_183x_e (G0 : pj_G) (sg : Int32) : F_183x G0 sg = pj_nm (pj_fi G0 171 17) (fun y1 => pj_nm (pj_fi G0 171 18) (fun y2 => cond (pj_c1 .ge y1 y2) (pj_nm (F_173x G0 (Int32.ofInt 0)) (fun y6 => pj_nm (y1 + y6) (fun z7 => pj_nm (pj_wv G0 171 17 (.int z7)) (fun G8 => (Int32.ofInt 0, G8))))) (pj_nm (pj_ai G0 180 y1.toInt.toNat) (fun z11 => cond (pj_c1 .ne z11 sg) (pj_nm (F_173x G0 (Int32.ofInt 0)) (fun y15 => pj_nm (y1 + y15) (fun z16 => pj_nm (pj_wv G0 171 17 (.int z16)) (fun G17 => (Int32.ofInt 0, G17))))) (pj_nm (F_173x G0 (Int32.ofInt 1)) (fun y22 => pj_nm (y1 + y22) (fun z23 => pj_nm (pj_wv G0 171 17 (.int z23)) (fun G24 => (Int32.ofInt 1, G24))))))))) := rfl
theorem ct_182x (G0 : pj_G) (hI : pj_Inv G0) (sg : Int32) (rsg : (0 : Int) ≤ sg.toInt ∧ sg.toInt ≤ 255) : pj_Y 2 182 [.ref 171, .int sg] G0 (fun v' G' => ∃ y : Int32, v' = some (.int y) ∧ pj_Inv G' ∧ pj_kpt kc_182x G0 G' ∧ ((0 : Int) ≤ y.toInt ∧ y.toInt ≤ 1) ∧ (∀ H, G0 = H → (((pj_fi G' 171 17).toInt = (pj_fi H 171 17).toInt + y.toInt ∧ (1 ≤ y.toInt → (pj_fi H 171 17).toInt < (pj_fi H 171 18).toInt)) ∧ ((((pj_fi H 171 17).toInt < (pj_fi H 171 18).toInt ∧ (pj_ai H 180 (pj_fi H 171 17).toInt.toNat).toInt = sg.toInt) → y.toInt = 1 ∧ (pj_fi G' 171 17).toInt = (pj_fi H 171 17).toInt + 1) ∧ (¬ ((pj_fi H 171 17).toInt < (pj_fi H 171 18).toInt ∧ (pj_ai H 180 (pj_fi H 171 17).toInt.toNat).toInt = sg.toInt) → y.toInt = 0 ∧ (pj_fi G' 171 17).toInt = (pj_fi H 171 17).toInt)))) ∧ ((y, G') = F_183x G0 sg)) := by
  have c0_ : (Int32.ofInt 0).toInt = 0 := by decide
  have c1_ : (Int32.ofInt 1).toInt = 1 := by decide
  refine pj_Y_X (M := pj_m182) rfl rfl (Nat.le_of_ble_eq_true rfl) ?_
  have hK : pj_kpt kc_182x G0 G0 := pj_kpt_r _ _
  show pj_X _ _ G0 0 [(0, .ref 171), (1, .int sg)] [] _
  rw [F_183x_e]
  obtain ⟨y1, hy1⟩ : ∃ z : Int32, z = pj_fi G0 171 17 := ⟨_, rfl⟩
  have ey1 : (pj_fi G0 171 17).toInt = y1.toInt := by rw [hy1]
  have ry1 : (0 : Int) ≤ y1.toInt ∧ y1.toInt ≤ 80 := by rw [hy1]; exact hI.2.1 171 17 (0, 80) rfl
  obtain ⟨y2, hy2⟩ : ∃ z : Int32, z = pj_fi G0 171 18 := ⟨_, rfl⟩
  have ey2 : (pj_fi G0 171 18).toInt = y2.toInt := by rw [hy2]
  have ry2 : (0 : Int) ≤ y2.toInt ∧ y2.toInt ≤ 80 := by rw [hy2]; exact hI.2.1 171 18 (0, 80) rfl
  refine pj_X_of (fun r h => pj_R_to (G0, 1, [(0, .ref 171), (1, .int sg)], [.ref 171], 0, 0) 1 2 (fun _ => rfl) h) ?_
  refine pj_X_of (fun r h => pj_T_gi hI rfl rfl h) ?_
  show pj_X _ _ G0 4 [(0, .ref 171), (1, .int sg)] [.int (pj_fi G0 171 17)] _
  rw [← hy1, pj_nm_e]
  refine pj_X_of (fun r h => pj_R_to (G0, 5, [(0, .ref 171), (1, .int sg)], [.ref 171, .int y1], 0, 0) 5 2 (fun _ => rfl) h) ?_
  refine pj_X_of (fun r h => pj_T_gi hI rfl rfl h) ?_
  show pj_X _ _ G0 8 [(0, .ref 171), (1, .int sg)] [.int (pj_fi G0 171 18), .int y1] _
  rw [← hy2, pj_nm_e]
  cases b3 : pj_c1 .ge y1 y2 with
  | true =>
    rw [pj_cT]
    have ub3 := pj_u_geT b3
    refine pj_X_of (fun r h => pj_R_icT 28 rfl rfl b3 h) ?_
    refine pj_X_of (fun r h => pj_R_to (G0, 32, [(2, .int (Int32.ofInt 0)), (0, .ref 171), (1, .int sg)], [.ref 171, .ref 171], 0, 0) 32 5 (fun _ => rfl) h) ?_
    refine pj_X_of (fun r h => pj_T_gi hI rfl rfl h) ?_
    show pj_X _ _ G0 35 [(2, .int (Int32.ofInt 0)), (0, .ref 171), (1, .int sg)] [.int (pj_fi G0 171 17), .ref 171] _
    refine pj_X_eqi (show pj_fi G0 171 17 = y1 from hy1.symm) ?_
    refine pj_X_of (fun r h => pj_R_to (G0, 36, [(2, .int (Int32.ofInt 0)), (0, .ref 171), (1, .int sg)], [.int (Int32.ofInt 0), .int y1, .ref 171], 0, 0) 36 2 (fun _ => rfl) h) ?_
    have q4 : (pj_fi G0 171 17).toInt = y1.toInt := by rw [show pj_fi G0 171 17 = y1 from hy1.symm]
    have q5 : (pj_fi G0 171 18).toInt = y2.toInt := by rw [show pj_fi G0 171 18 = y2 from hy2.symm]
    refine pj_X_ca (vs := [.int (Int32.ofInt 0)]) rfl (fun _ => rfl) ⟨Nat.le_of_ble_eq_true rfl, Nat.le_of_ble_eq_true rfl, rfl⟩ ⟨rfl, rfl⟩ (pj_Y_up (by decide) (ct_172x G0 hI (Int32.ofInt 0) ⟨by omega, by omega⟩)) ?_
    rintro _ _ ⟨y6, rfl, rfl, ry6, ey6, fy6⟩
    rw [← fy6, pj_nm_e]
    show pj_X _ _ G0 39 [(2, .int (Int32.ofInt 0)), (0, .ref 171), (1, .int sg)] [.int y6, .int y1, .ref 171] _
    refine pj_X_of (fun r h => pj_R_to (G0, 40, [(2, .int (Int32.ofInt 0)), (0, .ref 171), (1, .int sg)], [.int (y1 + y6), .ref 171], 0, 0) 40 2 (fun _ => rfl) h) ?_
    obtain ⟨z7, hz7⟩ : ∃ z : Int32, z = y1 + y6 := ⟨_, rfl⟩
    refine pj_X_eqi hz7.symm ?_
    rw [← hz7, pj_nm_e]
    have fz7_0 : z7.toInt = y1.toInt + y6.toInt := by rw [hz7]; exact pj_addI (by have := pj_i32 y1; have := pj_i32 y6; omega) (by have := pj_i32 y1; have := pj_i32 y6; omega)
    refine pj_X_of (fun r h => pj_T_pf hI rfl rfl rfl h) ?_
    show pj_X _ _ (pj_wv G0 171 17 (.int z7)) 43 [(2, .int (Int32.ofInt 0)), (0, .ref 171), (1, .int sg)] [] _
    obtain ⟨G8, hG8⟩ : ∃ H, H = pj_wv G0 171 17 (.int z7) := ⟨_, rfl⟩
    have iG8 : pj_Inv G8 := by rw [hG8]; exact pj_Inv_wi hI (ci := 12) rfl (fun q hq => by cases hq; exact ⟨by show (0 : Int) ≤ _; omega, by show _ ≤ (80 : Int); omega⟩)
    have kG8 : pj_kpt kc_182x G0 G8 := by rw [hG8]; exact pj_kpt_v hK rfl
    rw [← hG8]
    rw [pj_nm_e]
    refine pj_X_of (fun r h => pj_R_to (G8, 44, [(2, .int (Int32.ofInt 0)), (0, .ref 171), (1, .int sg)], [.int (Int32.ofInt 0)], 0, 0) 44 2 (fun _ => rfl) h) ?_
    have q9 : (pj_fi G8 171 17).toInt = z7.toInt := by rw [show pj_fi G8 171 17 = z7 from by rw [hG8]; exact pj_fi_wi hI.1 (ci := 12) rfl _]
    have q10 : (pj_fi G8 171 18).toInt = y2.toInt := by rw [show pj_fi G8 171 18 = y2 from by rw [hG8, pj_fi_wv_ne _ _ _ _ _ _ (by decide)]; exact hy2.symm]
    exact pj_X_rt rfl rfl ⟨_, rfl, iG8, kG8, ⟨by omega, by omega⟩, (fun H hH => by subst hH; exact (⟨by omega, by omega⟩)), rfl⟩
  | false =>
    rw [pj_cF]
    have ub3 := pj_u_geF b3
    refine pj_X_of (fun r h => pj_R_icF rfl b3 h) ?_
    refine pj_X_of (fun r h => pj_R_to (G0, 12, [(0, .ref 171), (1, .int sg)], [.ref 171], 0, 0) 12 2 (fun _ => rfl) h) ?_
    refine pj_X_of (fun r h => pj_T_gr hI rfl rfl rfl h) ?_
    refine pj_X_of (fun r h => pj_R_to (G0, 16, [(0, .ref 171), (1, .int sg)], [.ref 171, .ref 180], 0, 0) 16 2 (fun _ => rfl) h) ?_
    refine pj_X_of (fun r h => pj_T_gi hI rfl rfl h) ?_
    show pj_X _ _ G0 19 [(0, .ref 171), (1, .int sg)] [.int (pj_fi G0 171 17), .ref 180] _
    refine pj_X_eqi (show pj_fi G0 171 17 = y1 from hy1.symm) ?_
    refine pj_X_of (fun r h => pj_T_il hI rfl rfl (by omega) (by omega) h) ?_
    show pj_X _ _ G0 20 [(0, .ref 171), (1, .int sg)] [.int (pj_ai G0 180 y1.toInt.toNat)] _
    obtain ⟨z11, hz11⟩ : ∃ z : Int32, z = pj_ai G0 180 y1.toInt.toNat := ⟨_, rfl⟩
    refine pj_X_eqi hz11.symm ?_
    rw [← hz11, pj_nm_e]
    have ez11 : (pj_ai G0 180 y1.toInt.toNat).toInt = z11.toInt := by rw [hz11]
    have fz11_0 : (0 : Int) ≤ z11.toInt ∧ z11.toInt ≤ 255 ∧ (z11.toInt ≤ 0 ∨ 0 ≤ z11.toInt) := by rw [hz11]; exact hI.2.2.1 180 (80, 0, 255, 0, 0) rfl _ (by show _ < 80; omega)
    have gz11 : (pj_ai G0 180 (pj_fi G0 171 17).toInt.toNat).toInt = z11.toInt := by rw [show pj_fi G0 171 17 = y1 from hy1.symm, hz11]
    refine pj_X_of (fun r h => pj_R_to (G0, 21, [(0, .ref 171), (1, .int sg)], [.int sg, .int z11], 0, 0) 21 2 (fun _ => rfl) h) ?_
    cases b12 : pj_c1 .ne z11 sg with
    | true =>
      rw [pj_cT]
      have ub12 := pj_u_neT b12
      refine pj_X_of (fun r h => pj_R_icT 28 rfl rfl b12 h) ?_
      refine pj_X_of (fun r h => pj_R_to (G0, 32, [(2, .int (Int32.ofInt 0)), (0, .ref 171), (1, .int sg)], [.ref 171, .ref 171], 0, 0) 32 5 (fun _ => rfl) h) ?_
      refine pj_X_of (fun r h => pj_T_gi hI rfl rfl h) ?_
      show pj_X _ _ G0 35 [(2, .int (Int32.ofInt 0)), (0, .ref 171), (1, .int sg)] [.int (pj_fi G0 171 17), .ref 171] _
      refine pj_X_eqi (show pj_fi G0 171 17 = y1 from hy1.symm) ?_
      refine pj_X_of (fun r h => pj_R_to (G0, 36, [(2, .int (Int32.ofInt 0)), (0, .ref 171), (1, .int sg)], [.int (Int32.ofInt 0), .int y1, .ref 171], 0, 0) 36 2 (fun _ => rfl) h) ?_
      have q13 : (pj_fi G0 171 17).toInt = y1.toInt := by rw [show pj_fi G0 171 17 = y1 from hy1.symm]
      have q14 : (pj_fi G0 171 18).toInt = y2.toInt := by rw [show pj_fi G0 171 18 = y2 from hy2.symm]
      refine pj_X_ca (vs := [.int (Int32.ofInt 0)]) rfl (fun _ => rfl) ⟨Nat.le_of_ble_eq_true rfl, Nat.le_of_ble_eq_true rfl, rfl⟩ ⟨rfl, rfl⟩ (pj_Y_up (by decide) (ct_172x G0 hI (Int32.ofInt 0) ⟨by omega, by omega⟩)) ?_
      rintro _ _ ⟨y15, rfl, rfl, ry15, ey15, fy15⟩
      rw [← fy15, pj_nm_e]
      show pj_X _ _ G0 39 [(2, .int (Int32.ofInt 0)), (0, .ref 171), (1, .int sg)] [.int y15, .int y1, .ref 171] _
      refine pj_X_of (fun r h => pj_R_to (G0, 40, [(2, .int (Int32.ofInt 0)), (0, .ref 171), (1, .int sg)], [.int (y1 + y15), .ref 171], 0, 0) 40 2 (fun _ => rfl) h) ?_
      obtain ⟨z16, hz16⟩ : ∃ z : Int32, z = y1 + y15 := ⟨_, rfl⟩
      refine pj_X_eqi hz16.symm ?_
      rw [← hz16, pj_nm_e]
      have fz16_0 : z16.toInt = y1.toInt + y15.toInt := by rw [hz16]; exact pj_addI (by have := pj_i32 y1; have := pj_i32 y15; omega) (by have := pj_i32 y1; have := pj_i32 y15; omega)
      refine pj_X_of (fun r h => pj_T_pf hI rfl rfl rfl h) ?_
      show pj_X _ _ (pj_wv G0 171 17 (.int z16)) 43 [(2, .int (Int32.ofInt 0)), (0, .ref 171), (1, .int sg)] [] _
      obtain ⟨G17, hG17⟩ : ∃ H, H = pj_wv G0 171 17 (.int z16) := ⟨_, rfl⟩
      have iG17 : pj_Inv G17 := by rw [hG17]; exact pj_Inv_wi hI (ci := 12) rfl (fun q hq => by cases hq; exact ⟨by show (0 : Int) ≤ _; omega, by show _ ≤ (80 : Int); omega⟩)
      have kG17 : pj_kpt kc_182x G0 G17 := by rw [hG17]; exact pj_kpt_v hK rfl
      rw [← hG17]
      rw [pj_nm_e]
      refine pj_X_of (fun r h => pj_R_to (G17, 44, [(2, .int (Int32.ofInt 0)), (0, .ref 171), (1, .int sg)], [.int (Int32.ofInt 0)], 0, 0) 44 2 (fun _ => rfl) h) ?_
      have q18 : (pj_fi G17 171 17).toInt = z16.toInt := by rw [show pj_fi G17 171 17 = z16 from by rw [hG17]; exact pj_fi_wi hI.1 (ci := 12) rfl _]
      have q19 : (pj_fi G17 171 18).toInt = y2.toInt := by rw [show pj_fi G17 171 18 = y2 from by rw [hG17, pj_fi_wv_ne _ _ _ _ _ _ (by decide)]; exact hy2.symm]
      exact pj_X_rt rfl rfl ⟨_, rfl, iG17, kG17, ⟨by omega, by omega⟩, (fun H hH => by subst hH; exact (⟨by omega, by omega⟩)), rfl⟩
    | false =>
      rw [pj_cF]
      have ub12 := pj_u_neF b12
      refine pj_X_of (fun r h => pj_R_icF rfl b12 h) ?_
      refine pj_X_of (fun r h => pj_R_to (G0, 32, [(2, .int (Int32.ofInt 1)), (0, .ref 171), (1, .int sg)], [.ref 171, .ref 171], 0, 0) 32 6 (fun _ => rfl) h) ?_
      refine pj_X_of (fun r h => pj_T_gi hI rfl rfl h) ?_
      show pj_X _ _ G0 35 [(2, .int (Int32.ofInt 1)), (0, .ref 171), (1, .int sg)] [.int (pj_fi G0 171 17), .ref 171] _
      refine pj_X_eqi (show pj_fi G0 171 17 = y1 from hy1.symm) ?_
      refine pj_X_of (fun r h => pj_R_to (G0, 36, [(2, .int (Int32.ofInt 1)), (0, .ref 171), (1, .int sg)], [.int (Int32.ofInt 1), .int y1, .ref 171], 0, 0) 36 2 (fun _ => rfl) h) ?_
      have q20 : (pj_fi G0 171 17).toInt = y1.toInt := by rw [show pj_fi G0 171 17 = y1 from hy1.symm]
      have q21 : (pj_fi G0 171 18).toInt = y2.toInt := by rw [show pj_fi G0 171 18 = y2 from hy2.symm]
      refine pj_X_ca (vs := [.int (Int32.ofInt 1)]) rfl (fun _ => rfl) ⟨Nat.le_of_ble_eq_true rfl, Nat.le_of_ble_eq_true rfl, rfl⟩ ⟨rfl, rfl⟩ (pj_Y_up (by decide) (ct_172x G0 hI (Int32.ofInt 1) ⟨by omega, by omega⟩)) ?_
      rintro _ _ ⟨y22, rfl, rfl, ry22, ey22, fy22⟩
      rw [← fy22, pj_nm_e]
      show pj_X _ _ G0 39 [(2, .int (Int32.ofInt 1)), (0, .ref 171), (1, .int sg)] [.int y22, .int y1, .ref 171] _
      refine pj_X_of (fun r h => pj_R_to (G0, 40, [(2, .int (Int32.ofInt 1)), (0, .ref 171), (1, .int sg)], [.int (y1 + y22), .ref 171], 0, 0) 40 2 (fun _ => rfl) h) ?_
      obtain ⟨z23, hz23⟩ : ∃ z : Int32, z = y1 + y22 := ⟨_, rfl⟩
      refine pj_X_eqi hz23.symm ?_
      rw [← hz23, pj_nm_e]
      have fz23_0 : z23.toInt = y1.toInt + y22.toInt := by rw [hz23]; exact pj_addI (by have := pj_i32 y1; have := pj_i32 y22; omega) (by have := pj_i32 y1; have := pj_i32 y22; omega)
      refine pj_X_of (fun r h => pj_T_pf hI rfl rfl rfl h) ?_
      show pj_X _ _ (pj_wv G0 171 17 (.int z23)) 43 [(2, .int (Int32.ofInt 1)), (0, .ref 171), (1, .int sg)] [] _
      obtain ⟨G24, hG24⟩ : ∃ H, H = pj_wv G0 171 17 (.int z23) := ⟨_, rfl⟩
      have iG24 : pj_Inv G24 := by rw [hG24]; exact pj_Inv_wi hI (ci := 12) rfl (fun q hq => by cases hq; exact ⟨by show (0 : Int) ≤ _; omega, by show _ ≤ (80 : Int); omega⟩)
      have kG24 : pj_kpt kc_182x G0 G24 := by rw [hG24]; exact pj_kpt_v hK rfl
      rw [← hG24]
      rw [pj_nm_e]
      refine pj_X_of (fun r h => pj_R_to (G24, 44, [(2, .int (Int32.ofInt 1)), (0, .ref 171), (1, .int sg)], [.int (Int32.ofInt 1)], 0, 0) 44 2 (fun _ => rfl) h) ?_
      have q25 : (pj_fi G24 171 17).toInt = z23.toInt := by rw [show pj_fi G24 171 17 = z23 from by rw [hG24]; exact pj_fi_wi hI.1 (ci := 12) rfl _]
      have q26 : (pj_fi G24 171 18).toInt = y2.toInt := by rw [show pj_fi G24 171 18 = y2 from by rw [hG24, pj_fi_wv_ne _ _ _ _ _ _ (by decide)]; exact hy2.symm]
      exact pj_X_rt rfl rfl ⟨_, rfl, iG24, kG24, ⟨by omega, by omega⟩, (fun H hH => by subst hH; exact (⟨by omega, by omega⟩)), rfl⟩
theorem fr_183x (G0 : pj_G) (hI : pj_Inv G0) (sg : Int32) (rsg : (0 : Int) ≤ sg.toInt ∧ sg.toInt ≤ 255) : pj_Inv (F_183x G0 sg).2 ∧ pj_kpt kc_182x G0 (F_183x G0 sg).2 ∧ ((0 : Int) ≤ (F_183x G0 sg).1.toInt ∧ (F_183x G0 sg).1.toInt ≤ 1) ∧ (((pj_fi (F_183x G0 sg).2 171 17).toInt = (pj_fi G0 171 17).toInt + (F_183x G0 sg).1.toInt ∧ (1 ≤ (F_183x G0 sg).1.toInt → (pj_fi G0 171 17).toInt < (pj_fi G0 171 18).toInt)) ∧ ((((pj_fi G0 171 17).toInt < (pj_fi G0 171 18).toInt ∧ (pj_ai G0 180 (pj_fi G0 171 17).toInt.toNat).toInt = sg.toInt) → (F_183x G0 sg).1.toInt = 1 ∧ (pj_fi (F_183x G0 sg).2 171 17).toInt = (pj_fi G0 171 17).toInt + 1) ∧ (¬ ((pj_fi G0 171 17).toInt < (pj_fi G0 171 18).toInt ∧ (pj_ai G0 180 (pj_fi G0 171 17).toInt.toNat).toInt = sg.toInt) → (F_183x G0 sg).1.toInt = 0 ∧ (pj_fi (F_183x G0 sg).2 171 17).toInt = (pj_fi G0 171 17).toInt))) := by
  obtain ⟨v, G', -, y, -, i, j, r, x, e⟩ := ct_182x G0 hI sg rsg
  rw [← e]
  exact ⟨i, j, r, x _ rfl⟩
noncomputable def F_184x (G0 : pj_G) : Int32 := pj_nm (pj_fi G0 171 17) (fun y1 => pj_nm (pj_fi G0 171 18) (fun y2 => cond (pj_c1 .ge y1 y2) (Int32.ofInt 0) (pj_nm (pj_ai G0 180 y1.toInt.toNat) (fun z6 => pj_nm (F_171x G0 z6.toInt64 (Int64.ofInt 48) (Int64.ofInt 57)) (fun y12 => cond (pj_c1 .eq y12 0) (Int32.ofInt 0) (Int32.ofInt 1))))))
theorem F_184x_e (G0 : pj_G) : F_184x G0 = pj_nm (pj_fi G0 171 17) (fun y1 => pj_nm (pj_fi G0 171 18) (fun y2 => cond (pj_c1 .ge y1 y2) (Int32.ofInt 0) (pj_nm (pj_ai G0 180 y1.toInt.toNat) (fun z6 => pj_nm (F_171x G0 z6.toInt64 (Int64.ofInt 48) (Int64.ofInt 57)) (fun y12 => cond (pj_c1 .eq y12 0) (Int32.ofInt 0) (Int32.ofInt 1)))))) := rfl
theorem ct_183x (G0 : pj_G) (hI : pj_Inv G0) : pj_Y 2 183 [.ref 171] G0 (fun v' G' => ∃ y : Int32, v' = some (.int y) ∧ G0 = G' ∧ ((0 : Int) ≤ y.toInt ∧ y.toInt ≤ 1) ∧ (∀ H, G0 = H → ((1 ≤ y.toInt → (pj_fi H 171 17).toInt < (pj_fi H 171 18).toInt ∧ 48 ≤ (pj_ai H 180 (pj_fi H 171 17).toInt.toNat).toInt ∧ (pj_ai H 180 (pj_fi H 171 17).toInt.toNat).toInt ≤ 57) ∧ (y.toInt = 0 → (pj_fi H 171 18).toInt ≤ (pj_fi H 171 17).toInt ∨ (pj_ai H 180 (pj_fi H 171 17).toInt.toNat).toInt < 48 ∨ 57 < (pj_ai H 180 (pj_fi H 171 17).toInt.toNat).toInt))) ∧ (y = F_184x G0)) := by
  have c0_ : (Int32.ofInt 0).toInt = 0 := by decide
  have c1_ : (Int32.ofInt 1).toInt = 1 := by decide
  refine pj_Y_X (M := pj_m183) rfl rfl (Nat.le_of_ble_eq_true rfl) ?_
  have hK : pj_kpt ([], [], []) G0 G0 := pj_kpt_r _ _
  show pj_X _ _ G0 0 [(0, .ref 171)] [] _
  rw [F_184x_e]
  obtain ⟨y1, hy1⟩ : ∃ z : Int32, z = pj_fi G0 171 17 := ⟨_, rfl⟩
  have ey1 : (pj_fi G0 171 17).toInt = y1.toInt := by rw [hy1]
  have ry1 : (0 : Int) ≤ y1.toInt ∧ y1.toInt ≤ 80 := by rw [hy1]; exact hI.2.1 171 17 (0, 80) rfl
  obtain ⟨y2, hy2⟩ : ∃ z : Int32, z = pj_fi G0 171 18 := ⟨_, rfl⟩
  have ey2 : (pj_fi G0 171 18).toInt = y2.toInt := by rw [hy2]
  have ry2 : (0 : Int) ≤ y2.toInt ∧ y2.toInt ≤ 80 := by rw [hy2]; exact hI.2.1 171 18 (0, 80) rfl
  refine pj_X_of (fun r h => pj_R_to (G0, 1, [(0, .ref 171)], [.ref 171], 0, 0) 1 2 (fun _ => rfl) h) ?_
  refine pj_X_of (fun r h => pj_T_gi hI rfl rfl h) ?_
  show pj_X _ _ G0 4 [(0, .ref 171)] [.int (pj_fi G0 171 17)] _
  rw [← hy1, pj_nm_e]
  refine pj_X_of (fun r h => pj_R_to (G0, 5, [(0, .ref 171)], [.ref 171, .int y1], 0, 0) 5 2 (fun _ => rfl) h) ?_
  refine pj_X_of (fun r h => pj_T_gi hI rfl rfl h) ?_
  show pj_X _ _ G0 8 [(0, .ref 171)] [.int (pj_fi G0 171 18), .int y1] _
  rw [← hy2, pj_nm_e]
  cases b3 : pj_c1 .ge y1 y2 with
  | true =>
    rw [pj_cT]
    have ub3 := pj_u_geT b3
    refine pj_X_of (fun r h => pj_R_icT 37 rfl rfl b3 h) ?_
    refine pj_X_of (fun r h => pj_R_to (G0, 38, [(0, .ref 171)], [.int (Int32.ofInt 0)], 0, 0) 38 2 (fun _ => rfl) h) ?_
    have q4 : (pj_fi G0 171 17).toInt = y1.toInt := by rw [show pj_fi G0 171 17 = y1 from hy1.symm]
    have q5 : (pj_fi G0 171 18).toInt = y2.toInt := by rw [show pj_fi G0 171 18 = y2 from hy2.symm]
    exact pj_X_rt rfl rfl ⟨_, rfl, rfl, ⟨by omega, by omega⟩, (fun H hH => by subst hH; exact (by omega)), rfl⟩
  | false =>
    rw [pj_cF]
    have ub3 := pj_u_geF b3
    refine pj_X_of (fun r h => pj_R_icF rfl b3 h) ?_
    refine pj_X_of (fun r h => pj_R_to (G0, 12, [(0, .ref 171)], [.ref 171], 0, 0) 12 2 (fun _ => rfl) h) ?_
    refine pj_X_of (fun r h => pj_T_gr hI rfl rfl rfl h) ?_
    refine pj_X_of (fun r h => pj_R_to (G0, 16, [(0, .ref 171)], [.ref 171, .ref 180], 0, 0) 16 2 (fun _ => rfl) h) ?_
    refine pj_X_of (fun r h => pj_T_gi hI rfl rfl h) ?_
    show pj_X _ _ G0 19 [(0, .ref 171)] [.int (pj_fi G0 171 17), .ref 180] _
    refine pj_X_eqi (show pj_fi G0 171 17 = y1 from hy1.symm) ?_
    refine pj_X_of (fun r h => pj_T_il hI rfl rfl (by omega) (by omega) h) ?_
    show pj_X _ _ G0 20 [(0, .ref 171)] [.int (pj_ai G0 180 y1.toInt.toNat)] _
    obtain ⟨z6, hz6⟩ : ∃ z : Int32, z = pj_ai G0 180 y1.toInt.toNat := ⟨_, rfl⟩
    refine pj_X_eqi hz6.symm ?_
    rw [← hz6, pj_nm_e]
    have ez6 : (pj_ai G0 180 y1.toInt.toNat).toInt = z6.toInt := by rw [hz6]
    have fz6_0 : (0 : Int) ≤ z6.toInt ∧ z6.toInt ≤ 255 ∧ (z6.toInt ≤ 0 ∨ 0 ≤ z6.toInt) := by rw [hz6]; exact hI.2.2.1 180 (80, 0, 255, 0, 0) rfl _ (by show _ < 80; omega)
    have gz6 : (pj_ai G0 180 (pj_fi G0 171 17).toInt.toNat).toInt = z6.toInt := by rw [show pj_fi G0 171 17 = y1 from hy1.symm, hz6]
    refine pj_X_of (fun r h => pj_R_to (G0, 27, [(0, .ref 171)], [.long (Int64.ofInt 57), .long (Int64.ofInt 48), .long z6.toInt64], 0, 0) 27 4 (fun _ => rfl) h) ?_
    have q7 : (pj_fi G0 171 17).toInt = y1.toInt := by rw [show pj_fi G0 171 17 = y1 from hy1.symm]
    have q8 : (pj_fi G0 171 18).toInt = y2.toInt := by rw [show pj_fi G0 171 18 = y2 from hy2.symm]
    have lc9 : (z6.toInt64).toInt = z6.toInt := Int32.toInt_toInt64 _
    have lc10 : (Int64.ofInt 48).toInt = 48 := by decide
    have lc11 : (Int64.ofInt 57).toInt = 57 := by decide
    refine pj_X_ca (vs := [.long z6.toInt64, .long (Int64.ofInt 48), .long (Int64.ofInt 57)]) rfl (fun _ => rfl) ⟨Nat.le_of_ble_eq_true rfl, Nat.le_of_ble_eq_true rfl, rfl⟩ ⟨rfl, rfl⟩ (pj_Y_up (by decide) (ct_170x G0 hI z6.toInt64 (Int64.ofInt 48) (Int64.ofInt 57))) ?_
    rintro _ _ ⟨y12, rfl, rfl, ry12, ey12, fy12⟩
    rw [← fy12, pj_nm_e]
    show pj_X _ _ G0 30 [(0, .ref 171)] [.int y12] _
    cases b13 : pj_c1 .eq y12 0 with
    | true =>
      rw [pj_cT]
      have ub13 := pj_u0_eqT b13
      refine pj_X_of (fun r h => pj_R_ifT 37 rfl rfl b13 h) ?_
      refine pj_X_of (fun r h => pj_R_to (G0, 38, [(0, .ref 171)], [.int (Int32.ofInt 0)], 0, 0) 38 2 (fun _ => rfl) h) ?_
      have q14 : (pj_fi G0 171 17).toInt = y1.toInt := by rw [show pj_fi G0 171 17 = y1 from hy1.symm]
      have q15 : (pj_fi G0 171 18).toInt = y2.toInt := by rw [show pj_fi G0 171 18 = y2 from hy2.symm]
      exact pj_X_rt rfl rfl ⟨_, rfl, rfl, ⟨by omega, by omega⟩, (fun H hH => by subst hH; exact (by omega)), rfl⟩
    | false =>
      rw [pj_cF]
      have ub13 := pj_u0_eqF b13
      refine pj_X_of (fun r h => pj_R_ifF rfl b13 h) ?_
      refine pj_X_of (fun r h => pj_R_to (G0, 38, [(0, .ref 171)], [.int (Int32.ofInt 1)], 0, 0) 38 3 (fun _ => rfl) h) ?_
      have q16 : (pj_fi G0 171 17).toInt = y1.toInt := by rw [show pj_fi G0 171 17 = y1 from hy1.symm]
      have q17 : (pj_fi G0 171 18).toInt = y2.toInt := by rw [show pj_fi G0 171 18 = y2 from hy2.symm]
      exact pj_X_rt rfl rfl ⟨_, rfl, rfl, ⟨by omega, by omega⟩, (fun H hH => by subst hH; exact (by omega)), rfl⟩
theorem fr_184x (G0 : pj_G) (hI : pj_Inv G0) : ((0 : Int) ≤ (F_184x G0).toInt ∧ (F_184x G0).toInt ≤ 1) ∧ ((1 ≤ (F_184x G0).toInt → (pj_fi G0 171 17).toInt < (pj_fi G0 171 18).toInt ∧ 48 ≤ (pj_ai G0 180 (pj_fi G0 171 17).toInt.toNat).toInt ∧ (pj_ai G0 180 (pj_fi G0 171 17).toInt.toNat).toInt ≤ 57) ∧ ((F_184x G0).toInt = 0 → (pj_fi G0 171 18).toInt ≤ (pj_fi G0 171 17).toInt ∨ (pj_ai G0 180 (pj_fi G0 171 17).toInt.toNat).toInt < 48 ∨ 57 < (pj_ai G0 180 (pj_fi G0 171 17).toInt.toNat).toInt)) := by
  obtain ⟨v, G', -, y, -, rfl, r, x, e⟩ := ct_183x G0 hI 
  rw [← e]
  exact ⟨r, x _ rfl⟩
theorem pj_sq9 : ∀ i, i < 9 → ((pj_byt 9).getD i 0).toInt = 49 + (i : Int) := by decide +kernel
theorem pj_sq10 : ∀ i, i < 7 → ((pj_byt 10).getD i 0).toInt = 50 + (i : Int) := by decide +kernel
noncomputable def F_289_s9x (G0 : pj_G) : Int32 := Int32.ofNat (pj_byt 9).length
theorem F_289_s9x_e (G0 : pj_G) : F_289_s9x G0 = Int32.ofNat (pj_byt 9).length := rfl
theorem ct_288_s9x (G0 : pj_G) (hI : pj_Inv G0) : pj_Y 13 288 [.retAddr 9] G0 (fun v' G' => ∃ y : Int32, v' = some (.int y) ∧ G0 = G' ∧ ((9 : Int) ≤ y.toInt ∧ y.toInt ≤ 9) ∧ (y = F_289_s9x G0)) := by
  refine ⟨_, _, pj_E_nat (M := pj_m288) rfl rfl (Nat.le_refl _) (pj_nat_len G0 (by decide)), _, rfl, rfl, ?_, rfl⟩
  rw [pj_bl9]
  decide
noncomputable def F_290_s9x (G0 : pj_G) (i : Int32) : Int32 := (pj_byt 9).getD i.toNatClampNeg 0
theorem F_290_s9x_e (G0 : pj_G) (i : Int32) : F_290_s9x G0 i = (pj_byt 9).getD i.toNatClampNeg 0 := rfl
theorem ct_289_s9x (G0 : pj_G) (hI : pj_Inv G0) (i : Int32) (ri : (0 : Int) ≤ i.toInt ∧ i.toInt ≤ 8) : pj_Y 13 289 [.retAddr 9, .int i] G0 (fun v' G' => ∃ y : Int32, v' = some (.int y) ∧ G0 = G' ∧ ((0 : Int) ≤ y.toInt ∧ y.toInt ≤ 255) ∧ (y.toInt = 49 + i.toInt) ∧ (y = F_290_s9x G0 i)) := by
  have hn : i.toNatClampNeg < (pj_byt 9).length := by
    rw [pj_bl9]
    show i.toInt.toNat < 9
    omega
  have hq : ((pj_byt 9).getD i.toNatClampNeg 0).toInt = 49 + i.toInt := by
    have q := pj_sq9 i.toInt.toNat (by omega)
    have q2 : (i.toInt.toNat : Int) = i.toInt := by omega
    rw [q2] at q
    exact q
  exact ⟨_, _, pj_E_nat (M := pj_m289) rfl rfl (Nat.le_refl _) (pj_nat_chr G0 (by decide) (by rw [Int32.le_iff_toInt_le, pj_lz0]; omega) hn), _, rfl, rfl, pj_chb 9 (by decide) _ hn, hq, rfl⟩
noncomputable def L_185_s9x (G0 : pj_G) (fu : Nat) : Int32 → Int32 := Nat.rec (motive := fun _ => Int32 → Int32) (fun _ => 0) (fun _ ih v2 => pj_nm (F_289_s9x G0) (fun y5 => cond (pj_c1 .ge v2 y5) (Int32.ofInt (-1)) (pj_nm (pj_fi G0 171 17) (fun y1 => pj_nm (pj_fi G0 171 18) (fun y2 => cond (pj_c1 .ge y1 y2) (Int32.ofInt (-1)) (pj_nm (F_290_s9x G0 v2) (fun y14 => pj_nm (pj_ai G0 180 y1.toInt.toNat) (fun z15 => cond (pj_c1 .ne y14 z15) (pj_nm (v2 + Int32.ofInt 1) (fun z17 => ih z17)) (v2))))))))) fu
theorem L_185_s9x_s0 (G0 : pj_G) (fu : Nat) (v2 : Int32) : L_185_s9x G0 (fu + 1) v2 = pj_nm (F_289_s9x G0) (fun y5 => cond (pj_c1 .ge v2 y5) (Int32.ofInt (-1)) (pj_nm (pj_fi G0 171 17) (fun y1 => pj_nm (pj_fi G0 171 18) (fun y2 => cond (pj_c1 .ge y1 y2) (Int32.ofInt (-1)) (pj_nm (F_290_s9x G0 v2) (fun y14 => pj_nm (pj_ai G0 180 y1.toInt.toNat) (fun z15 => cond (pj_c1 .ne y14 z15) (pj_nm (v2 + Int32.ofInt 1) (fun z17 => L_185_s9x G0 fu z17)) (v2)))))))) := rfl
noncomputable def F_185_s9x (G0 : pj_G) : Int32 := L_185_s9x G0 10 (Int32.ofInt 0)
theorem F_185_s9x_e (G0 : pj_G) : F_185_s9x G0 = L_185_s9x G0 10 (Int32.ofInt 0) := rfl
theorem lp_ct_184_s9x (G0 : pj_G) (hI : pj_Inv G0) : ∀ mn : Nat, (∀ (v2 : Int32), ((0 : Int) ≤ v2.toInt ∧ v2.toInt ≤ 9) → ((pj_ai G0 180 (pj_fi G0 171 17).toInt.toNat).toInt < 49 ∨ 49 + v2.toInt ≤ (pj_ai G0 180 (pj_fi G0 171 17).toInt.toNat).toInt) → 9 - v2.toInt < (mn : Int) → pj_X 14 pj_m184 G0 2 [(0, .ref 171), (1, .retAddr 9), (2, .int v2)] [] (fun v' G' => ∃ y : Int32, v' = some (.int y) ∧ G0 = G' ∧ ((-1 : Int) ≤ y.toInt ∧ y.toInt ≤ 8) ∧ (∀ H, G0 = H → ((0 ≤ y.toInt → (pj_fi H 171 17).toInt < (pj_fi H 171 18).toInt) ∧ ((((pj_fi H 171 17).toInt < (pj_fi H 171 18).toInt ∧ 49 ≤ (pj_ai H 180 (pj_fi H 171 17).toInt.toNat).toInt ∧ (pj_ai H 180 (pj_fi H 171 17).toInt.toNat).toInt ≤ 57) → y.toInt = (pj_ai H 180 (pj_fi H 171 17).toInt.toNat).toInt - 49) ∧ (¬ ((pj_fi H 171 17).toInt < (pj_fi H 171 18).toInt ∧ 49 ≤ (pj_ai H 180 (pj_fi H 171 17).toInt.toNat).toInt ∧ (pj_ai H 180 (pj_fi H 171 17).toInt.toNat).toInt ≤ 57) → y.toInt = -1)))) ∧ (y = L_185_s9x G0 mn v2))) := by
  have c0_ : (Int32.ofInt (-1)).toInt = -1 := by decide
  have c1_ : (Int32.ofInt 0).toInt = 0 := by decide
  have c2_ : (Int32.ofInt 1).toInt = 1 := by decide
  have hK : pj_kpt ([], [], []) G0 G0 := pj_kpt_r _ _
  intro mn
  induction mn with
  | zero =>
    intro v2 rv2 x0_ hm
    exfalso
    omega
  | succ mn ih =>
    intro v2 rv2 x0_ hm
    rw [L_185_s9x_s0]
    obtain ⟨y1, hy1⟩ : ∃ z : Int32, z = pj_fi G0 171 17 := ⟨_, rfl⟩
    have ey1 : (pj_fi G0 171 17).toInt = y1.toInt := by rw [hy1]
    have ry1 : (0 : Int) ≤ y1.toInt ∧ y1.toInt ≤ 80 := by rw [hy1]; exact hI.2.1 171 17 (0, 80) rfl
    obtain ⟨y2, hy2⟩ : ∃ z : Int32, z = pj_fi G0 171 18 := ⟨_, rfl⟩
    have ey2 : (pj_fi G0 171 18).toInt = y2.toInt := by rw [hy2]
    have ry2 : (0 : Int) ≤ y2.toInt ∧ y2.toInt ≤ 80 := by rw [hy2]; exact hI.2.1 171 18 (0, 80) rfl
    refine pj_X_of (fun r h => pj_R_to (G0, 4, [(0, .ref 171), (1, .retAddr 9), (2, .int v2)], [.retAddr 9, .int v2], 0, 0) 4 3 (fun _ => rfl) h) ?_
    have q3 : (pj_fi G0 171 17).toInt = y1.toInt := by rw [show pj_fi G0 171 17 = y1 from hy1.symm]
    have q4 : (pj_fi G0 171 18).toInt = y2.toInt := by rw [show pj_fi G0 171 18 = y2 from hy2.symm]
    refine pj_X_ca (vs := [.retAddr 9]) rfl (fun _ => rfl) ⟨Nat.le_of_ble_eq_true rfl, Nat.le_of_ble_eq_true rfl, rfl⟩ ⟨rfl, rfl⟩ (pj_Y_up (by decide) (ct_288_s9x G0 hI)) ?_
    rintro _ _ ⟨y5, rfl, rfl, ry5, fy5⟩
    rw [← fy5, pj_nm_e]
    show pj_X _ _ G0 7 [(0, .ref 171), (1, .retAddr 9), (2, .int v2)] [.int y5, .int v2] _
    cases b6 : pj_c1 .ge v2 y5 with
    | true =>
      rw [pj_cT]
      have ub6 := pj_u_geT b6
      refine pj_X_of (fun r h => pj_R_icT 46 rfl rfl b6 h) ?_
      refine pj_X_of (fun r h => pj_R_to (G0, 47, [(0, .ref 171), (1, .retAddr 9), (2, .int v2)], [.int (Int32.ofInt (-1))], 0, 0) 47 2 (fun _ => rfl) h) ?_
      have q7 : (pj_fi G0 171 17).toInt = y1.toInt := by rw [show pj_fi G0 171 17 = y1 from hy1.symm]
      have q8 : (pj_fi G0 171 18).toInt = y2.toInt := by rw [show pj_fi G0 171 18 = y2 from hy2.symm]
      exact pj_X_rt rfl rfl ⟨_, rfl, rfl, ⟨by omega, by omega⟩, (fun H hH => by subst hH; exact (⟨by omega, by omega⟩)), rfl⟩
    | false =>
      rw [pj_cF]
      have ub6 := pj_u_geF b6
      refine pj_X_of (fun r h => pj_R_icF rfl b6 h) ?_
      refine pj_X_of (fun r h => pj_R_to (G0, 11, [(0, .ref 171), (1, .retAddr 9), (2, .int v2)], [.ref 171], 0, 0) 11 2 (fun _ => rfl) h) ?_
      refine pj_X_of (fun r h => pj_T_gi hI rfl rfl h) ?_
      show pj_X _ _ G0 14 [(0, .ref 171), (1, .retAddr 9), (2, .int v2)] [.int (pj_fi G0 171 17)] _
      rw [← hy1, pj_nm_e]
      refine pj_X_of (fun r h => pj_R_to (G0, 15, [(0, .ref 171), (1, .retAddr 9), (2, .int v2)], [.ref 171, .int y1], 0, 0) 15 2 (fun _ => rfl) h) ?_
      refine pj_X_of (fun r h => pj_T_gi hI rfl rfl h) ?_
      show pj_X _ _ G0 18 [(0, .ref 171), (1, .retAddr 9), (2, .int v2)] [.int (pj_fi G0 171 18), .int y1] _
      rw [← hy2, pj_nm_e]
      cases b9 : pj_c1 .ge y1 y2 with
      | true =>
        rw [pj_cT]
        have ub9 := pj_u_geT b9
        refine pj_X_of (fun r h => pj_R_icT 46 rfl rfl b9 h) ?_
        refine pj_X_of (fun r h => pj_R_to (G0, 47, [(0, .ref 171), (1, .retAddr 9), (2, .int v2)], [.int (Int32.ofInt (-1))], 0, 0) 47 2 (fun _ => rfl) h) ?_
        have q10 : (pj_fi G0 171 17).toInt = y1.toInt := by rw [show pj_fi G0 171 17 = y1 from hy1.symm]
        have q11 : (pj_fi G0 171 18).toInt = y2.toInt := by rw [show pj_fi G0 171 18 = y2 from hy2.symm]
        exact pj_X_rt rfl rfl ⟨_, rfl, rfl, ⟨by omega, by omega⟩, (fun H hH => by subst hH; exact (⟨by omega, by omega⟩)), rfl⟩
      | false =>
        rw [pj_cF]
        have ub9 := pj_u_geF b9
        refine pj_X_of (fun r h => pj_R_icF rfl b9 h) ?_
        refine pj_X_of (fun r h => pj_R_to (G0, 23, [(0, .ref 171), (1, .retAddr 9), (2, .int v2)], [.int v2, .retAddr 9], 0, 0) 23 3 (fun _ => rfl) h) ?_
        have q12 : (pj_fi G0 171 17).toInt = y1.toInt := by rw [show pj_fi G0 171 17 = y1 from hy1.symm]
        have q13 : (pj_fi G0 171 18).toInt = y2.toInt := by rw [show pj_fi G0 171 18 = y2 from hy2.symm]
        refine pj_X_ca (vs := [.retAddr 9, .int v2]) rfl (fun _ => rfl) ⟨Nat.le_of_ble_eq_true rfl, Nat.le_of_ble_eq_true rfl, rfl⟩ ⟨rfl, rfl⟩ (pj_Y_up (by decide) (ct_289_s9x G0 hI v2 ⟨by omega, by omega⟩)) ?_
        rintro _ _ ⟨y14, rfl, rfl, ry14, ey14, fy14⟩
        rw [← fy14, pj_nm_e]
        show pj_X _ _ G0 26 [(0, .ref 171), (1, .retAddr 9), (2, .int v2)] [.int y14] _
        refine pj_X_of (fun r h => pj_R_to (G0, 27, [(0, .ref 171), (1, .retAddr 9), (2, .int v2)], [.ref 171, .int y14], 0, 0) 27 2 (fun _ => rfl) h) ?_
        refine pj_X_of (fun r h => pj_T_gr hI rfl rfl rfl h) ?_
        refine pj_X_of (fun r h => pj_R_to (G0, 31, [(0, .ref 171), (1, .retAddr 9), (2, .int v2)], [.ref 171, .ref 180, .int y14], 0, 0) 31 2 (fun _ => rfl) h) ?_
        refine pj_X_of (fun r h => pj_T_gi hI rfl rfl h) ?_
        show pj_X _ _ G0 34 [(0, .ref 171), (1, .retAddr 9), (2, .int v2)] [.int (pj_fi G0 171 17), .ref 180, .int y14] _
        refine pj_X_eqi (show pj_fi G0 171 17 = y1 from hy1.symm) ?_
        refine pj_X_of (fun r h => pj_T_il hI rfl rfl (by omega) (by omega) h) ?_
        show pj_X _ _ G0 35 [(0, .ref 171), (1, .retAddr 9), (2, .int v2)] [.int (pj_ai G0 180 y1.toInt.toNat), .int y14] _
        obtain ⟨z15, hz15⟩ : ∃ z : Int32, z = pj_ai G0 180 y1.toInt.toNat := ⟨_, rfl⟩
        refine pj_X_eqi hz15.symm ?_
        rw [← hz15, pj_nm_e]
        have ez15 : (pj_ai G0 180 y1.toInt.toNat).toInt = z15.toInt := by rw [hz15]
        have fz15_0 : (0 : Int) ≤ z15.toInt ∧ z15.toInt ≤ 255 ∧ (z15.toInt ≤ 0 ∨ 0 ≤ z15.toInt) := by rw [hz15]; exact hI.2.2.1 180 (80, 0, 255, 0, 0) rfl _ (by show _ < 80; omega)
        have gz15 : (pj_ai G0 180 (pj_fi G0 171 17).toInt.toNat).toInt = z15.toInt := by rw [show pj_fi G0 171 17 = y1 from hy1.symm, hz15]
        cases b16 : pj_c1 .ne y14 z15 with
        | true =>
          rw [pj_cT]
          have ub16 := pj_u_neT b16
          refine pj_X_of (fun r h => pj_R_icT 40 rfl rfl b16 h) ?_
          refine pj_X_of (fun r h => pj_R_to (G0, 43, [(2, .int (v2 + Int32.ofInt 1)), (0, .ref 171), (1, .retAddr 9)], [], 0, 0) 43 2 (fun _ => rfl) h) ?_
          obtain ⟨z17, hz17⟩ : ∃ z : Int32, z = v2 + Int32.ofInt 1 := ⟨_, rfl⟩
          rw [← hz17]
          rw [pj_nm_e]
          have fz17_0 : z17.toInt = v2.toInt + (Int32.ofInt 1).toInt := by rw [hz17]; exact pj_addI (by have := pj_i32 v2; have := pj_i32 (Int32.ofInt 1); omega) (by have := pj_i32 v2; have := pj_i32 (Int32.ofInt 1); omega)
          refine pj_X_of (fun r h => pj_R_to (G0, 2, [(2, .int z17), (0, .ref 171), (1, .retAddr 9)], [], 0, 0) 2 2 (fun _ => rfl) h) ?_
          have q18 : (pj_fi G0 171 17).toInt = y1.toInt := by rw [show pj_fi G0 171 17 = y1 from hy1.symm]
          have q19 : (pj_fi G0 171 18).toInt = y2.toInt := by rw [show pj_fi G0 171 18 = y2 from hy2.symm]
          exact pj_X_sub [(0, .ref 171), (1, .retAddr 9), (2, .int z17)] (show List.Nodup [0, 1, 2] by decide) ⟨rfl, rfl, rfl, trivial⟩ (ih z17 ⟨by omega, by omega⟩ (by omega) (by omega))
        | false =>
          rw [pj_cF]
          have ub16 := pj_u_neF b16
          refine pj_X_of (fun r h => pj_R_icF rfl b16 h) ?_
          refine pj_X_of (fun r h => pj_R_to (G0, 39, [(0, .ref 171), (1, .retAddr 9), (2, .int v2)], [.int v2], 0, 0) 39 2 (fun _ => rfl) h) ?_
          have q20 : (pj_fi G0 171 17).toInt = y1.toInt := by rw [show pj_fi G0 171 17 = y1 from hy1.symm]
          have q21 : (pj_fi G0 171 18).toInt = y2.toInt := by rw [show pj_fi G0 171 18 = y2 from hy2.symm]
          exact pj_X_rt rfl rfl ⟨_, rfl, rfl, ⟨by omega, by omega⟩, (fun H hH => by subst hH; exact (⟨by omega, by omega⟩)), rfl⟩
theorem ct_184_s9x (G0 : pj_G) (hI : pj_Inv G0) : pj_Y 15 184 [.ref 171, .retAddr 9] G0 (fun v' G' => ∃ y : Int32, v' = some (.int y) ∧ G0 = G' ∧ ((-1 : Int) ≤ y.toInt ∧ y.toInt ≤ 8) ∧ (∀ H, G0 = H → ((0 ≤ y.toInt → (pj_fi H 171 17).toInt < (pj_fi H 171 18).toInt) ∧ ((((pj_fi H 171 17).toInt < (pj_fi H 171 18).toInt ∧ 49 ≤ (pj_ai H 180 (pj_fi H 171 17).toInt.toNat).toInt ∧ (pj_ai H 180 (pj_fi H 171 17).toInt.toNat).toInt ≤ 57) → y.toInt = (pj_ai H 180 (pj_fi H 171 17).toInt.toNat).toInt - 49) ∧ (¬ ((pj_fi H 171 17).toInt < (pj_fi H 171 18).toInt ∧ 49 ≤ (pj_ai H 180 (pj_fi H 171 17).toInt.toNat).toInt ∧ (pj_ai H 180 (pj_fi H 171 17).toInt.toNat).toInt ≤ 57) → y.toInt = -1)))) ∧ (y = F_185_s9x G0)) := by
  have c0_ : (Int32.ofInt (-1)).toInt = -1 := by decide
  have c1_ : (Int32.ofInt 0).toInt = 0 := by decide
  have c2_ : (Int32.ofInt 1).toInt = 1 := by decide
  refine pj_Y_X (M := pj_m184) rfl rfl (Nat.le_of_ble_eq_true rfl) ?_
  have hK : pj_kpt ([], [], []) G0 G0 := pj_kpt_r _ _
  show pj_X _ _ G0 0 [(0, .ref 171), (1, .retAddr 9)] [] _
  rw [F_185_s9x_e]
  obtain ⟨y22, hy22⟩ : ∃ z : Int32, z = pj_fi G0 171 17 := ⟨_, rfl⟩
  have ey22 : (pj_fi G0 171 17).toInt = y22.toInt := by rw [hy22]
  have ry22 : (0 : Int) ≤ y22.toInt ∧ y22.toInt ≤ 80 := by rw [hy22]; exact hI.2.1 171 17 (0, 80) rfl
  obtain ⟨y23, hy23⟩ : ∃ z : Int32, z = pj_fi G0 171 18 := ⟨_, rfl⟩
  have ey23 : (pj_fi G0 171 18).toInt = y23.toInt := by rw [hy23]
  have ry23 : (0 : Int) ≤ y23.toInt ∧ y23.toInt ≤ 80 := by rw [hy23]; exact hI.2.1 171 18 (0, 80) rfl
  refine pj_X_of (fun r h => pj_R_to (G0, 2, [(2, .int (Int32.ofInt 0)), (0, .ref 171), (1, .retAddr 9)], [], 0, 0) 2 3 (fun _ => rfl) h) ?_
  have q24 : (pj_fi G0 171 17).toInt = y22.toInt := by rw [show pj_fi G0 171 17 = y22 from hy22.symm]
  have q25 : (pj_fi G0 171 18).toInt = y23.toInt := by rw [show pj_fi G0 171 18 = y23 from hy23.symm]
  exact pj_X_sub [(0, .ref 171), (1, .retAddr 9), (2, .int (Int32.ofInt 0))] (show List.Nodup [0, 1, 2] by decide) ⟨rfl, rfl, rfl, trivial⟩ ((lp_ct_184_s9x G0 hI   10) (Int32.ofInt 0) ⟨by omega, by omega⟩ (by omega) (by omega))
theorem fr_185_s9x (G0 : pj_G) (hI : pj_Inv G0) : ((-1 : Int) ≤ (F_185_s9x G0).toInt ∧ (F_185_s9x G0).toInt ≤ 8) ∧ ((0 ≤ (F_185_s9x G0).toInt → (pj_fi G0 171 17).toInt < (pj_fi G0 171 18).toInt) ∧ ((((pj_fi G0 171 17).toInt < (pj_fi G0 171 18).toInt ∧ 49 ≤ (pj_ai G0 180 (pj_fi G0 171 17).toInt.toNat).toInt ∧ (pj_ai G0 180 (pj_fi G0 171 17).toInt.toNat).toInt ≤ 57) → (F_185_s9x G0).toInt = (pj_ai G0 180 (pj_fi G0 171 17).toInt.toNat).toInt - 49) ∧ (¬ ((pj_fi G0 171 17).toInt < (pj_fi G0 171 18).toInt ∧ 49 ≤ (pj_ai G0 180 (pj_fi G0 171 17).toInt.toNat).toInt ∧ (pj_ai G0 180 (pj_fi G0 171 17).toInt.toNat).toInt ≤ 57) → (F_185_s9x G0).toInt = -1))) := by
  obtain ⟨v, G', -, y, -, rfl, r, x, e⟩ := ct_184_s9x G0 hI 
  rw [← e]
  exact ⟨r, x _ rfl⟩
def kc_185_s9x : pj_KT := ([(171, 17)], [171], [])
noncomputable def F_186_s9x (G0 : pj_G) : Int32 × pj_G := pj_nm (F_185_s9x G0) (fun y5 => pj_nm (pj_fi G0 171 17) (fun y1 => cond (pj_c1 .lt y5 0) (pj_nm (F_173x G0 (Int32.ofInt 0)) (fun y9 => pj_nm (y1 + y9) (fun z10 => pj_nm (pj_wv G0 171 17 (.int z10)) (fun G11 => (y5, G11))))) (pj_nm (F_173x G0 (Int32.ofInt 1)) (fun y16 => pj_nm (y1 + y16) (fun z17 => pj_nm (pj_wv G0 171 17 (.int z17)) (fun G18 => (y5, G18)))))))
theorem F_186_s9x_e (G0 : pj_G) : F_186_s9x G0 = pj_nm (F_185_s9x G0) (fun y5 => pj_nm (pj_fi G0 171 17) (fun y1 => cond (pj_c1 .lt y5 0) (pj_nm (F_173x G0 (Int32.ofInt 0)) (fun y9 => pj_nm (y1 + y9) (fun z10 => pj_nm (pj_wv G0 171 17 (.int z10)) (fun G11 => (y5, G11))))) (pj_nm (F_173x G0 (Int32.ofInt 1)) (fun y16 => pj_nm (y1 + y16) (fun z17 => pj_nm (pj_wv G0 171 17 (.int z17)) (fun G18 => (y5, G18))))))) := rfl
theorem ct_185_s9x (G0 : pj_G) (hI : pj_Inv G0) : pj_Y 16 185 [.ref 171, .retAddr 9] G0 (fun v' G' => ∃ y : Int32, v' = some (.int y) ∧ pj_Inv G' ∧ pj_kpt kc_185_s9x G0 G' ∧ ((-1 : Int) ≤ y.toInt ∧ y.toInt ≤ 8) ∧ (∀ H, G0 = H → (((0 ≤ y.toInt → (pj_fi G' 171 17).toInt = (pj_fi H 171 17).toInt + 1 ∧ (pj_fi H 171 17).toInt < (pj_fi H 171 18).toInt) ∧ (y.toInt < 0 → (pj_fi G' 171 17).toInt = (pj_fi H 171 17).toInt)) ∧ ((((pj_fi H 171 17).toInt < (pj_fi H 171 18).toInt ∧ 49 ≤ (pj_ai H 180 (pj_fi H 171 17).toInt.toNat).toInt ∧ (pj_ai H 180 (pj_fi H 171 17).toInt.toNat).toInt ≤ 57) → y.toInt = (pj_ai H 180 (pj_fi H 171 17).toInt.toNat).toInt - 49 ∧ (pj_fi G' 171 17).toInt = (pj_fi H 171 17).toInt + 1) ∧ (¬ ((pj_fi H 171 17).toInt < (pj_fi H 171 18).toInt ∧ 49 ≤ (pj_ai H 180 (pj_fi H 171 17).toInt.toNat).toInt ∧ (pj_ai H 180 (pj_fi H 171 17).toInt.toNat).toInt ≤ 57) → y.toInt = -1 ∧ (pj_fi G' 171 17).toInt = (pj_fi H 171 17).toInt)))) ∧ ((y, G') = F_186_s9x G0)) := by
  have c0_ : (Int32.ofInt 0).toInt = 0 := by decide
  have c1_ : (Int32.ofInt 1).toInt = 1 := by decide
  refine pj_Y_X (M := pj_m185) rfl rfl (Nat.le_of_ble_eq_true rfl) ?_
  have hK : pj_kpt kc_185_s9x G0 G0 := pj_kpt_r _ _
  show pj_X _ _ G0 0 [(0, .ref 171), (1, .retAddr 9)] [] _
  rw [F_186_s9x_e]
  obtain ⟨y1, hy1⟩ : ∃ z : Int32, z = pj_fi G0 171 17 := ⟨_, rfl⟩
  have ey1 : (pj_fi G0 171 17).toInt = y1.toInt := by rw [hy1]
  have ry1 : (0 : Int) ≤ y1.toInt ∧ y1.toInt ≤ 80 := by rw [hy1]; exact hI.2.1 171 17 (0, 80) rfl
  obtain ⟨y2, hy2⟩ : ∃ z : Int32, z = pj_fi G0 171 18 := ⟨_, rfl⟩
  have ey2 : (pj_fi G0 171 18).toInt = y2.toInt := by rw [hy2]
  have ry2 : (0 : Int) ≤ y2.toInt ∧ y2.toInt ≤ 80 := by rw [hy2]; exact hI.2.1 171 18 (0, 80) rfl
  refine pj_X_of (fun r h => pj_R_to (G0, 2, [(0, .ref 171), (1, .retAddr 9)], [.retAddr 9, .ref 171], 0, 0) 2 3 (fun _ => rfl) h) ?_
  have q3 : (pj_fi G0 171 17).toInt = y1.toInt := by rw [show pj_fi G0 171 17 = y1 from hy1.symm]
  have q4 : (pj_fi G0 171 18).toInt = y2.toInt := by rw [show pj_fi G0 171 18 = y2 from hy2.symm]
  refine pj_X_ca (vs := [.ref 171, .retAddr 9]) rfl (fun _ => rfl) ⟨Nat.le_of_ble_eq_true rfl, Nat.le_of_ble_eq_true rfl, pj_T_rcv hI rfl⟩ ⟨rfl, rfl⟩ (pj_Y_up (by decide) (ct_184_s9x G0 hI)) ?_
  rintro _ _ ⟨y5, rfl, rfl, ry5, ey5, fy5⟩
  replace ey5 := ey5 _ rfl
  rw [← fy5, pj_nm_e]
  show pj_X _ _ G0 5 [(0, .ref 171), (1, .retAddr 9)] [.int y5] _
  refine pj_X_of (fun r h => pj_R_to (G0, 8, [(2, .int y5), (0, .ref 171), (1, .retAddr 9)], [.ref 171, .ref 171], 0, 0) 8 4 (fun _ => rfl) h) ?_
  refine pj_X_of (fun r h => pj_T_gi hI rfl rfl h) ?_
  show pj_X _ _ G0 11 [(2, .int y5), (0, .ref 171), (1, .retAddr 9)] [.int (pj_fi G0 171 17), .ref 171] _
  rw [← hy1, pj_nm_e]
  refine pj_X_of (fun r h => pj_R_to (G0, 12, [(2, .int y5), (0, .ref 171), (1, .retAddr 9)], [.int y5, .int y1, .ref 171], 0, 0) 12 2 (fun _ => rfl) h) ?_
  cases b6 : pj_c1 .lt y5 0 with
  | true =>
    rw [pj_cT]
    have ub6 := pj_u0_ltT b6
    refine pj_X_of (fun r h => pj_R_ifT 19 rfl rfl b6 h) ?_
    refine pj_X_of (fun r h => pj_R_to (G0, 20, [(2, .int y5), (0, .ref 171), (1, .retAddr 9)], [.int (Int32.ofInt 0), .int y1, .ref 171], 0, 0) 20 2 (fun _ => rfl) h) ?_
    have q7 : (pj_fi G0 171 17).toInt = y1.toInt := by rw [show pj_fi G0 171 17 = y1 from hy1.symm]
    have q8 : (pj_fi G0 171 18).toInt = y2.toInt := by rw [show pj_fi G0 171 18 = y2 from hy2.symm]
    refine pj_X_ca (vs := [.int (Int32.ofInt 0)]) rfl (fun _ => rfl) ⟨Nat.le_of_ble_eq_true rfl, Nat.le_of_ble_eq_true rfl, rfl⟩ ⟨rfl, rfl⟩ (pj_Y_up (by decide) (ct_172x G0 hI (Int32.ofInt 0) ⟨by omega, by omega⟩)) ?_
    rintro _ _ ⟨y9, rfl, rfl, ry9, ey9, fy9⟩
    rw [← fy9, pj_nm_e]
    show pj_X _ _ G0 23 [(2, .int y5), (0, .ref 171), (1, .retAddr 9)] [.int y9, .int y1, .ref 171] _
    refine pj_X_of (fun r h => pj_R_to (G0, 24, [(2, .int y5), (0, .ref 171), (1, .retAddr 9)], [.int (y1 + y9), .ref 171], 0, 0) 24 2 (fun _ => rfl) h) ?_
    obtain ⟨z10, hz10⟩ : ∃ z : Int32, z = y1 + y9 := ⟨_, rfl⟩
    refine pj_X_eqi hz10.symm ?_
    rw [← hz10, pj_nm_e]
    have fz10_0 : z10.toInt = y1.toInt + y9.toInt := by rw [hz10]; exact pj_addI (by have := pj_i32 y1; have := pj_i32 y9; omega) (by have := pj_i32 y1; have := pj_i32 y9; omega)
    refine pj_X_of (fun r h => pj_T_pf hI rfl rfl rfl h) ?_
    show pj_X _ _ (pj_wv G0 171 17 (.int z10)) 27 [(2, .int y5), (0, .ref 171), (1, .retAddr 9)] [] _
    obtain ⟨G11, hG11⟩ : ∃ H, H = pj_wv G0 171 17 (.int z10) := ⟨_, rfl⟩
    have iG11 : pj_Inv G11 := by rw [hG11]; exact pj_Inv_wi hI (ci := 12) rfl (fun q hq => by cases hq; exact ⟨by show (0 : Int) ≤ _; omega, by show _ ≤ (80 : Int); omega⟩)
    have kG11 : pj_kpt kc_185_s9x G0 G11 := by rw [hG11]; exact pj_kpt_v hK rfl
    rw [← hG11]
    rw [pj_nm_e]
    refine pj_X_of (fun r h => pj_R_to (G11, 28, [(2, .int y5), (0, .ref 171), (1, .retAddr 9)], [.int y5], 0, 0) 28 2 (fun _ => rfl) h) ?_
    have q12 : (pj_fi G11 171 17).toInt = z10.toInt := by rw [show pj_fi G11 171 17 = z10 from by rw [hG11]; exact pj_fi_wi hI.1 (ci := 12) rfl _]
    have q13 : (pj_fi G11 171 18).toInt = y2.toInt := by rw [show pj_fi G11 171 18 = y2 from by rw [hG11, pj_fi_wv_ne _ _ _ _ _ _ (by decide)]; exact hy2.symm]
    exact pj_X_rt rfl rfl ⟨_, rfl, iG11, kG11, ⟨by omega, by omega⟩, (fun H hH => by subst hH; exact (⟨by omega, by omega⟩)), rfl⟩
  | false =>
    rw [pj_cF]
    have ub6 := pj_u0_ltF b6
    refine pj_X_of (fun r h => pj_R_ifF rfl b6 h) ?_
    refine pj_X_of (fun r h => pj_R_to (G0, 20, [(2, .int y5), (0, .ref 171), (1, .retAddr 9)], [.int (Int32.ofInt 1), .int y1, .ref 171], 0, 0) 20 3 (fun _ => rfl) h) ?_
    have q14 : (pj_fi G0 171 17).toInt = y1.toInt := by rw [show pj_fi G0 171 17 = y1 from hy1.symm]
    have q15 : (pj_fi G0 171 18).toInt = y2.toInt := by rw [show pj_fi G0 171 18 = y2 from hy2.symm]
    refine pj_X_ca (vs := [.int (Int32.ofInt 1)]) rfl (fun _ => rfl) ⟨Nat.le_of_ble_eq_true rfl, Nat.le_of_ble_eq_true rfl, rfl⟩ ⟨rfl, rfl⟩ (pj_Y_up (by decide) (ct_172x G0 hI (Int32.ofInt 1) ⟨by omega, by omega⟩)) ?_
    rintro _ _ ⟨y16, rfl, rfl, ry16, ey16, fy16⟩
    rw [← fy16, pj_nm_e]
    show pj_X _ _ G0 23 [(2, .int y5), (0, .ref 171), (1, .retAddr 9)] [.int y16, .int y1, .ref 171] _
    refine pj_X_of (fun r h => pj_R_to (G0, 24, [(2, .int y5), (0, .ref 171), (1, .retAddr 9)], [.int (y1 + y16), .ref 171], 0, 0) 24 2 (fun _ => rfl) h) ?_
    obtain ⟨z17, hz17⟩ : ∃ z : Int32, z = y1 + y16 := ⟨_, rfl⟩
    refine pj_X_eqi hz17.symm ?_
    rw [← hz17, pj_nm_e]
    have fz17_0 : z17.toInt = y1.toInt + y16.toInt := by rw [hz17]; exact pj_addI (by have := pj_i32 y1; have := pj_i32 y16; omega) (by have := pj_i32 y1; have := pj_i32 y16; omega)
    refine pj_X_of (fun r h => pj_T_pf hI rfl rfl rfl h) ?_
    show pj_X _ _ (pj_wv G0 171 17 (.int z17)) 27 [(2, .int y5), (0, .ref 171), (1, .retAddr 9)] [] _
    obtain ⟨G18, hG18⟩ : ∃ H, H = pj_wv G0 171 17 (.int z17) := ⟨_, rfl⟩
    have iG18 : pj_Inv G18 := by rw [hG18]; exact pj_Inv_wi hI (ci := 12) rfl (fun q hq => by cases hq; exact ⟨by show (0 : Int) ≤ _; omega, by show _ ≤ (80 : Int); omega⟩)
    have kG18 : pj_kpt kc_185_s9x G0 G18 := by rw [hG18]; exact pj_kpt_v hK rfl
    rw [← hG18]
    rw [pj_nm_e]
    refine pj_X_of (fun r h => pj_R_to (G18, 28, [(2, .int y5), (0, .ref 171), (1, .retAddr 9)], [.int y5], 0, 0) 28 2 (fun _ => rfl) h) ?_
    have q19 : (pj_fi G18 171 17).toInt = z17.toInt := by rw [show pj_fi G18 171 17 = z17 from by rw [hG18]; exact pj_fi_wi hI.1 (ci := 12) rfl _]
    have q20 : (pj_fi G18 171 18).toInt = y2.toInt := by rw [show pj_fi G18 171 18 = y2 from by rw [hG18, pj_fi_wv_ne _ _ _ _ _ _ (by decide)]; exact hy2.symm]
    exact pj_X_rt rfl rfl ⟨_, rfl, iG18, kG18, ⟨by omega, by omega⟩, (fun H hH => by subst hH; exact (⟨by omega, by omega⟩)), rfl⟩
theorem fr_186_s9x (G0 : pj_G) (hI : pj_Inv G0) : pj_Inv (F_186_s9x G0).2 ∧ pj_kpt kc_185_s9x G0 (F_186_s9x G0).2 ∧ ((-1 : Int) ≤ (F_186_s9x G0).1.toInt ∧ (F_186_s9x G0).1.toInt ≤ 8) ∧ (((0 ≤ (F_186_s9x G0).1.toInt → (pj_fi (F_186_s9x G0).2 171 17).toInt = (pj_fi G0 171 17).toInt + 1 ∧ (pj_fi G0 171 17).toInt < (pj_fi G0 171 18).toInt) ∧ ((F_186_s9x G0).1.toInt < 0 → (pj_fi (F_186_s9x G0).2 171 17).toInt = (pj_fi G0 171 17).toInt)) ∧ ((((pj_fi G0 171 17).toInt < (pj_fi G0 171 18).toInt ∧ 49 ≤ (pj_ai G0 180 (pj_fi G0 171 17).toInt.toNat).toInt ∧ (pj_ai G0 180 (pj_fi G0 171 17).toInt.toNat).toInt ≤ 57) → (F_186_s9x G0).1.toInt = (pj_ai G0 180 (pj_fi G0 171 17).toInt.toNat).toInt - 49 ∧ (pj_fi (F_186_s9x G0).2 171 17).toInt = (pj_fi G0 171 17).toInt + 1) ∧ (¬ ((pj_fi G0 171 17).toInt < (pj_fi G0 171 18).toInt ∧ 49 ≤ (pj_ai G0 180 (pj_fi G0 171 17).toInt.toNat).toInt ∧ (pj_ai G0 180 (pj_fi G0 171 17).toInt.toNat).toInt ≤ 57) → (F_186_s9x G0).1.toInt = -1 ∧ (pj_fi (F_186_s9x G0).2 171 17).toInt = (pj_fi G0 171 17).toInt))) := by
  obtain ⟨v, G', -, y, -, i, j, r, x, e⟩ := ct_185_s9x G0 hI 
  rw [← e]
  exact ⟨i, j, r, x _ rfl⟩
noncomputable def F_289_s10x (G0 : pj_G) : Int32 := Int32.ofNat (pj_byt 10).length
theorem F_289_s10x_e (G0 : pj_G) : F_289_s10x G0 = Int32.ofNat (pj_byt 10).length := rfl
theorem ct_288_s10x (G0 : pj_G) (hI : pj_Inv G0) : pj_Y 13 288 [.retAddr 10] G0 (fun v' G' => ∃ y : Int32, v' = some (.int y) ∧ G0 = G' ∧ ((7 : Int) ≤ y.toInt ∧ y.toInt ≤ 7) ∧ (y = F_289_s10x G0)) := by
  refine ⟨_, _, pj_E_nat (M := pj_m288) rfl rfl (Nat.le_refl _) (pj_nat_len G0 (by decide)), _, rfl, rfl, ?_, rfl⟩
  rw [pj_bl10]
  decide
noncomputable def F_290_s10x (G0 : pj_G) (i : Int32) : Int32 := (pj_byt 10).getD i.toNatClampNeg 0
theorem F_290_s10x_e (G0 : pj_G) (i : Int32) : F_290_s10x G0 i = (pj_byt 10).getD i.toNatClampNeg 0 := rfl
theorem ct_289_s10x (G0 : pj_G) (hI : pj_Inv G0) (i : Int32) (ri : (0 : Int) ≤ i.toInt ∧ i.toInt ≤ 6) : pj_Y 13 289 [.retAddr 10, .int i] G0 (fun v' G' => ∃ y : Int32, v' = some (.int y) ∧ G0 = G' ∧ ((0 : Int) ≤ y.toInt ∧ y.toInt ≤ 255) ∧ (y.toInt = 50 + i.toInt) ∧ (y = F_290_s10x G0 i)) := by
  have hn : i.toNatClampNeg < (pj_byt 10).length := by
    rw [pj_bl10]
    show i.toInt.toNat < 7
    omega
  have hq : ((pj_byt 10).getD i.toNatClampNeg 0).toInt = 50 + i.toInt := by
    have q := pj_sq10 i.toInt.toNat (by omega)
    have q2 : (i.toInt.toNat : Int) = i.toInt := by omega
    rw [q2] at q
    exact q
  exact ⟨_, _, pj_E_nat (M := pj_m289) rfl rfl (Nat.le_refl _) (pj_nat_chr G0 (by decide) (by rw [Int32.le_iff_toInt_le, pj_lz0]; omega) hn), _, rfl, rfl, pj_chb 10 (by decide) _ hn, hq, rfl⟩
noncomputable def L_185_s10x (G0 : pj_G) (fu : Nat) : Int32 → Int32 := Nat.rec (motive := fun _ => Int32 → Int32) (fun _ => 0) (fun _ ih v2 => pj_nm (F_289_s10x G0) (fun y5 => cond (pj_c1 .ge v2 y5) (Int32.ofInt (-1)) (pj_nm (pj_fi G0 171 17) (fun y1 => pj_nm (pj_fi G0 171 18) (fun y2 => cond (pj_c1 .ge y1 y2) (Int32.ofInt (-1)) (pj_nm (F_290_s10x G0 v2) (fun y14 => pj_nm (pj_ai G0 180 y1.toInt.toNat) (fun z15 => cond (pj_c1 .ne y14 z15) (pj_nm (v2 + Int32.ofInt 1) (fun z17 => ih z17)) (v2))))))))) fu
theorem L_185_s10x_s0 (G0 : pj_G) (fu : Nat) (v2 : Int32) : L_185_s10x G0 (fu + 1) v2 = pj_nm (F_289_s10x G0) (fun y5 => cond (pj_c1 .ge v2 y5) (Int32.ofInt (-1)) (pj_nm (pj_fi G0 171 17) (fun y1 => pj_nm (pj_fi G0 171 18) (fun y2 => cond (pj_c1 .ge y1 y2) (Int32.ofInt (-1)) (pj_nm (F_290_s10x G0 v2) (fun y14 => pj_nm (pj_ai G0 180 y1.toInt.toNat) (fun z15 => cond (pj_c1 .ne y14 z15) (pj_nm (v2 + Int32.ofInt 1) (fun z17 => L_185_s10x G0 fu z17)) (v2)))))))) := rfl
noncomputable def F_185_s10x (G0 : pj_G) : Int32 := L_185_s10x G0 8 (Int32.ofInt 0)
theorem F_185_s10x_e (G0 : pj_G) : F_185_s10x G0 = L_185_s10x G0 8 (Int32.ofInt 0) := rfl
theorem lp_ct_184_s10x (G0 : pj_G) (hI : pj_Inv G0) : ∀ mn : Nat, (∀ (v2 : Int32), ((0 : Int) ≤ v2.toInt ∧ v2.toInt ≤ 7) → ((pj_ai G0 180 (pj_fi G0 171 17).toInt.toNat).toInt < 50 ∨ 50 + v2.toInt ≤ (pj_ai G0 180 (pj_fi G0 171 17).toInt.toNat).toInt) → 7 - v2.toInt < (mn : Int) → pj_X 14 pj_m184 G0 2 [(0, .ref 171), (1, .retAddr 10), (2, .int v2)] [] (fun v' G' => ∃ y : Int32, v' = some (.int y) ∧ G0 = G' ∧ ((-1 : Int) ≤ y.toInt ∧ y.toInt ≤ 6) ∧ (∀ H, G0 = H → ((0 ≤ y.toInt → (pj_fi H 171 17).toInt < (pj_fi H 171 18).toInt) ∧ ((((pj_fi H 171 17).toInt < (pj_fi H 171 18).toInt ∧ 50 ≤ (pj_ai H 180 (pj_fi H 171 17).toInt.toNat).toInt ∧ (pj_ai H 180 (pj_fi H 171 17).toInt.toNat).toInt ≤ 56) → y.toInt = (pj_ai H 180 (pj_fi H 171 17).toInt.toNat).toInt - 50) ∧ (¬ ((pj_fi H 171 17).toInt < (pj_fi H 171 18).toInt ∧ 50 ≤ (pj_ai H 180 (pj_fi H 171 17).toInt.toNat).toInt ∧ (pj_ai H 180 (pj_fi H 171 17).toInt.toNat).toInt ≤ 56) → y.toInt = -1)))) ∧ (y = L_185_s10x G0 mn v2))) := by
  have c0_ : (Int32.ofInt (-1)).toInt = -1 := by decide
  have c1_ : (Int32.ofInt 0).toInt = 0 := by decide
  have c2_ : (Int32.ofInt 1).toInt = 1 := by decide
  have hK : pj_kpt ([], [], []) G0 G0 := pj_kpt_r _ _
  intro mn
  induction mn with
  | zero =>
    intro v2 rv2 x0_ hm
    exfalso
    omega
  | succ mn ih =>
    intro v2 rv2 x0_ hm
    rw [L_185_s10x_s0]
    obtain ⟨y1, hy1⟩ : ∃ z : Int32, z = pj_fi G0 171 17 := ⟨_, rfl⟩
    have ey1 : (pj_fi G0 171 17).toInt = y1.toInt := by rw [hy1]
    have ry1 : (0 : Int) ≤ y1.toInt ∧ y1.toInt ≤ 80 := by rw [hy1]; exact hI.2.1 171 17 (0, 80) rfl
    obtain ⟨y2, hy2⟩ : ∃ z : Int32, z = pj_fi G0 171 18 := ⟨_, rfl⟩
    have ey2 : (pj_fi G0 171 18).toInt = y2.toInt := by rw [hy2]
    have ry2 : (0 : Int) ≤ y2.toInt ∧ y2.toInt ≤ 80 := by rw [hy2]; exact hI.2.1 171 18 (0, 80) rfl
    refine pj_X_of (fun r h => pj_R_to (G0, 4, [(0, .ref 171), (1, .retAddr 10), (2, .int v2)], [.retAddr 10, .int v2], 0, 0) 4 3 (fun _ => rfl) h) ?_
    have q3 : (pj_fi G0 171 17).toInt = y1.toInt := by rw [show pj_fi G0 171 17 = y1 from hy1.symm]
    have q4 : (pj_fi G0 171 18).toInt = y2.toInt := by rw [show pj_fi G0 171 18 = y2 from hy2.symm]
    refine pj_X_ca (vs := [.retAddr 10]) rfl (fun _ => rfl) ⟨Nat.le_of_ble_eq_true rfl, Nat.le_of_ble_eq_true rfl, rfl⟩ ⟨rfl, rfl⟩ (pj_Y_up (by decide) (ct_288_s10x G0 hI)) ?_
    rintro _ _ ⟨y5, rfl, rfl, ry5, fy5⟩
    rw [← fy5, pj_nm_e]
    show pj_X _ _ G0 7 [(0, .ref 171), (1, .retAddr 10), (2, .int v2)] [.int y5, .int v2] _
    cases b6 : pj_c1 .ge v2 y5 with
    | true =>
      rw [pj_cT]
      have ub6 := pj_u_geT b6
      refine pj_X_of (fun r h => pj_R_icT 46 rfl rfl b6 h) ?_
      refine pj_X_of (fun r h => pj_R_to (G0, 47, [(0, .ref 171), (1, .retAddr 10), (2, .int v2)], [.int (Int32.ofInt (-1))], 0, 0) 47 2 (fun _ => rfl) h) ?_
      have q7 : (pj_fi G0 171 17).toInt = y1.toInt := by rw [show pj_fi G0 171 17 = y1 from hy1.symm]
      have q8 : (pj_fi G0 171 18).toInt = y2.toInt := by rw [show pj_fi G0 171 18 = y2 from hy2.symm]
      exact pj_X_rt rfl rfl ⟨_, rfl, rfl, ⟨by omega, by omega⟩, (fun H hH => by subst hH; exact (⟨by omega, by omega⟩)), rfl⟩
    | false =>
      rw [pj_cF]
      have ub6 := pj_u_geF b6
      refine pj_X_of (fun r h => pj_R_icF rfl b6 h) ?_
      refine pj_X_of (fun r h => pj_R_to (G0, 11, [(0, .ref 171), (1, .retAddr 10), (2, .int v2)], [.ref 171], 0, 0) 11 2 (fun _ => rfl) h) ?_
      refine pj_X_of (fun r h => pj_T_gi hI rfl rfl h) ?_
      show pj_X _ _ G0 14 [(0, .ref 171), (1, .retAddr 10), (2, .int v2)] [.int (pj_fi G0 171 17)] _
      rw [← hy1, pj_nm_e]
      refine pj_X_of (fun r h => pj_R_to (G0, 15, [(0, .ref 171), (1, .retAddr 10), (2, .int v2)], [.ref 171, .int y1], 0, 0) 15 2 (fun _ => rfl) h) ?_
      refine pj_X_of (fun r h => pj_T_gi hI rfl rfl h) ?_
      show pj_X _ _ G0 18 [(0, .ref 171), (1, .retAddr 10), (2, .int v2)] [.int (pj_fi G0 171 18), .int y1] _
      rw [← hy2, pj_nm_e]
      cases b9 : pj_c1 .ge y1 y2 with
      | true =>
        rw [pj_cT]
        have ub9 := pj_u_geT b9
        refine pj_X_of (fun r h => pj_R_icT 46 rfl rfl b9 h) ?_
        refine pj_X_of (fun r h => pj_R_to (G0, 47, [(0, .ref 171), (1, .retAddr 10), (2, .int v2)], [.int (Int32.ofInt (-1))], 0, 0) 47 2 (fun _ => rfl) h) ?_
        have q10 : (pj_fi G0 171 17).toInt = y1.toInt := by rw [show pj_fi G0 171 17 = y1 from hy1.symm]
        have q11 : (pj_fi G0 171 18).toInt = y2.toInt := by rw [show pj_fi G0 171 18 = y2 from hy2.symm]
        exact pj_X_rt rfl rfl ⟨_, rfl, rfl, ⟨by omega, by omega⟩, (fun H hH => by subst hH; exact (⟨by omega, by omega⟩)), rfl⟩
      | false =>
        rw [pj_cF]
        have ub9 := pj_u_geF b9
        refine pj_X_of (fun r h => pj_R_icF rfl b9 h) ?_
        refine pj_X_of (fun r h => pj_R_to (G0, 23, [(0, .ref 171), (1, .retAddr 10), (2, .int v2)], [.int v2, .retAddr 10], 0, 0) 23 3 (fun _ => rfl) h) ?_
        have q12 : (pj_fi G0 171 17).toInt = y1.toInt := by rw [show pj_fi G0 171 17 = y1 from hy1.symm]
        have q13 : (pj_fi G0 171 18).toInt = y2.toInt := by rw [show pj_fi G0 171 18 = y2 from hy2.symm]
        refine pj_X_ca (vs := [.retAddr 10, .int v2]) rfl (fun _ => rfl) ⟨Nat.le_of_ble_eq_true rfl, Nat.le_of_ble_eq_true rfl, rfl⟩ ⟨rfl, rfl⟩ (pj_Y_up (by decide) (ct_289_s10x G0 hI v2 ⟨by omega, by omega⟩)) ?_
        rintro _ _ ⟨y14, rfl, rfl, ry14, ey14, fy14⟩
        rw [← fy14, pj_nm_e]
        show pj_X _ _ G0 26 [(0, .ref 171), (1, .retAddr 10), (2, .int v2)] [.int y14] _
        refine pj_X_of (fun r h => pj_R_to (G0, 27, [(0, .ref 171), (1, .retAddr 10), (2, .int v2)], [.ref 171, .int y14], 0, 0) 27 2 (fun _ => rfl) h) ?_
        refine pj_X_of (fun r h => pj_T_gr hI rfl rfl rfl h) ?_
        refine pj_X_of (fun r h => pj_R_to (G0, 31, [(0, .ref 171), (1, .retAddr 10), (2, .int v2)], [.ref 171, .ref 180, .int y14], 0, 0) 31 2 (fun _ => rfl) h) ?_
        refine pj_X_of (fun r h => pj_T_gi hI rfl rfl h) ?_
        show pj_X _ _ G0 34 [(0, .ref 171), (1, .retAddr 10), (2, .int v2)] [.int (pj_fi G0 171 17), .ref 180, .int y14] _
        refine pj_X_eqi (show pj_fi G0 171 17 = y1 from hy1.symm) ?_
        refine pj_X_of (fun r h => pj_T_il hI rfl rfl (by omega) (by omega) h) ?_
        show pj_X _ _ G0 35 [(0, .ref 171), (1, .retAddr 10), (2, .int v2)] [.int (pj_ai G0 180 y1.toInt.toNat), .int y14] _
        obtain ⟨z15, hz15⟩ : ∃ z : Int32, z = pj_ai G0 180 y1.toInt.toNat := ⟨_, rfl⟩
        refine pj_X_eqi hz15.symm ?_
        rw [← hz15, pj_nm_e]
        have ez15 : (pj_ai G0 180 y1.toInt.toNat).toInt = z15.toInt := by rw [hz15]
        have fz15_0 : (0 : Int) ≤ z15.toInt ∧ z15.toInt ≤ 255 ∧ (z15.toInt ≤ 0 ∨ 0 ≤ z15.toInt) := by rw [hz15]; exact hI.2.2.1 180 (80, 0, 255, 0, 0) rfl _ (by show _ < 80; omega)
        have gz15 : (pj_ai G0 180 (pj_fi G0 171 17).toInt.toNat).toInt = z15.toInt := by rw [show pj_fi G0 171 17 = y1 from hy1.symm, hz15]
        cases b16 : pj_c1 .ne y14 z15 with
        | true =>
          rw [pj_cT]
          have ub16 := pj_u_neT b16
          refine pj_X_of (fun r h => pj_R_icT 40 rfl rfl b16 h) ?_
          refine pj_X_of (fun r h => pj_R_to (G0, 43, [(2, .int (v2 + Int32.ofInt 1)), (0, .ref 171), (1, .retAddr 10)], [], 0, 0) 43 2 (fun _ => rfl) h) ?_
          obtain ⟨z17, hz17⟩ : ∃ z : Int32, z = v2 + Int32.ofInt 1 := ⟨_, rfl⟩
          rw [← hz17]
          rw [pj_nm_e]
          have fz17_0 : z17.toInt = v2.toInt + (Int32.ofInt 1).toInt := by rw [hz17]; exact pj_addI (by have := pj_i32 v2; have := pj_i32 (Int32.ofInt 1); omega) (by have := pj_i32 v2; have := pj_i32 (Int32.ofInt 1); omega)
          refine pj_X_of (fun r h => pj_R_to (G0, 2, [(2, .int z17), (0, .ref 171), (1, .retAddr 10)], [], 0, 0) 2 2 (fun _ => rfl) h) ?_
          have q18 : (pj_fi G0 171 17).toInt = y1.toInt := by rw [show pj_fi G0 171 17 = y1 from hy1.symm]
          have q19 : (pj_fi G0 171 18).toInt = y2.toInt := by rw [show pj_fi G0 171 18 = y2 from hy2.symm]
          exact pj_X_sub [(0, .ref 171), (1, .retAddr 10), (2, .int z17)] (show List.Nodup [0, 1, 2] by decide) ⟨rfl, rfl, rfl, trivial⟩ (ih z17 ⟨by omega, by omega⟩ (by omega) (by omega))
        | false =>
          rw [pj_cF]
          have ub16 := pj_u_neF b16
          refine pj_X_of (fun r h => pj_R_icF rfl b16 h) ?_
          refine pj_X_of (fun r h => pj_R_to (G0, 39, [(0, .ref 171), (1, .retAddr 10), (2, .int v2)], [.int v2], 0, 0) 39 2 (fun _ => rfl) h) ?_
          have q20 : (pj_fi G0 171 17).toInt = y1.toInt := by rw [show pj_fi G0 171 17 = y1 from hy1.symm]
          have q21 : (pj_fi G0 171 18).toInt = y2.toInt := by rw [show pj_fi G0 171 18 = y2 from hy2.symm]
          exact pj_X_rt rfl rfl ⟨_, rfl, rfl, ⟨by omega, by omega⟩, (fun H hH => by subst hH; exact (⟨by omega, by omega⟩)), rfl⟩
theorem ct_184_s10x (G0 : pj_G) (hI : pj_Inv G0) : pj_Y 15 184 [.ref 171, .retAddr 10] G0 (fun v' G' => ∃ y : Int32, v' = some (.int y) ∧ G0 = G' ∧ ((-1 : Int) ≤ y.toInt ∧ y.toInt ≤ 6) ∧ (∀ H, G0 = H → ((0 ≤ y.toInt → (pj_fi H 171 17).toInt < (pj_fi H 171 18).toInt) ∧ ((((pj_fi H 171 17).toInt < (pj_fi H 171 18).toInt ∧ 50 ≤ (pj_ai H 180 (pj_fi H 171 17).toInt.toNat).toInt ∧ (pj_ai H 180 (pj_fi H 171 17).toInt.toNat).toInt ≤ 56) → y.toInt = (pj_ai H 180 (pj_fi H 171 17).toInt.toNat).toInt - 50) ∧ (¬ ((pj_fi H 171 17).toInt < (pj_fi H 171 18).toInt ∧ 50 ≤ (pj_ai H 180 (pj_fi H 171 17).toInt.toNat).toInt ∧ (pj_ai H 180 (pj_fi H 171 17).toInt.toNat).toInt ≤ 56) → y.toInt = -1)))) ∧ (y = F_185_s10x G0)) := by
  have c0_ : (Int32.ofInt (-1)).toInt = -1 := by decide
  have c1_ : (Int32.ofInt 0).toInt = 0 := by decide
  have c2_ : (Int32.ofInt 1).toInt = 1 := by decide
  refine pj_Y_X (M := pj_m184) rfl rfl (Nat.le_of_ble_eq_true rfl) ?_
  have hK : pj_kpt ([], [], []) G0 G0 := pj_kpt_r _ _
  show pj_X _ _ G0 0 [(0, .ref 171), (1, .retAddr 10)] [] _
  rw [F_185_s10x_e]
  obtain ⟨y22, hy22⟩ : ∃ z : Int32, z = pj_fi G0 171 17 := ⟨_, rfl⟩
  have ey22 : (pj_fi G0 171 17).toInt = y22.toInt := by rw [hy22]
  have ry22 : (0 : Int) ≤ y22.toInt ∧ y22.toInt ≤ 80 := by rw [hy22]; exact hI.2.1 171 17 (0, 80) rfl
  obtain ⟨y23, hy23⟩ : ∃ z : Int32, z = pj_fi G0 171 18 := ⟨_, rfl⟩
  have ey23 : (pj_fi G0 171 18).toInt = y23.toInt := by rw [hy23]
  have ry23 : (0 : Int) ≤ y23.toInt ∧ y23.toInt ≤ 80 := by rw [hy23]; exact hI.2.1 171 18 (0, 80) rfl
  refine pj_X_of (fun r h => pj_R_to (G0, 2, [(2, .int (Int32.ofInt 0)), (0, .ref 171), (1, .retAddr 10)], [], 0, 0) 2 3 (fun _ => rfl) h) ?_
  have q24 : (pj_fi G0 171 17).toInt = y22.toInt := by rw [show pj_fi G0 171 17 = y22 from hy22.symm]
  have q25 : (pj_fi G0 171 18).toInt = y23.toInt := by rw [show pj_fi G0 171 18 = y23 from hy23.symm]
  exact pj_X_sub [(0, .ref 171), (1, .retAddr 10), (2, .int (Int32.ofInt 0))] (show List.Nodup [0, 1, 2] by decide) ⟨rfl, rfl, rfl, trivial⟩ ((lp_ct_184_s10x G0 hI   8) (Int32.ofInt 0) ⟨by omega, by omega⟩ (by omega) (by omega))
theorem fr_185_s10x (G0 : pj_G) (hI : pj_Inv G0) : ((-1 : Int) ≤ (F_185_s10x G0).toInt ∧ (F_185_s10x G0).toInt ≤ 6) ∧ ((0 ≤ (F_185_s10x G0).toInt → (pj_fi G0 171 17).toInt < (pj_fi G0 171 18).toInt) ∧ ((((pj_fi G0 171 17).toInt < (pj_fi G0 171 18).toInt ∧ 50 ≤ (pj_ai G0 180 (pj_fi G0 171 17).toInt.toNat).toInt ∧ (pj_ai G0 180 (pj_fi G0 171 17).toInt.toNat).toInt ≤ 56) → (F_185_s10x G0).toInt = (pj_ai G0 180 (pj_fi G0 171 17).toInt.toNat).toInt - 50) ∧ (¬ ((pj_fi G0 171 17).toInt < (pj_fi G0 171 18).toInt ∧ 50 ≤ (pj_ai G0 180 (pj_fi G0 171 17).toInt.toNat).toInt ∧ (pj_ai G0 180 (pj_fi G0 171 17).toInt.toNat).toInt ≤ 56) → (F_185_s10x G0).toInt = -1))) := by
  obtain ⟨v, G', -, y, -, rfl, r, x, e⟩ := ct_184_s10x G0 hI 
  rw [← e]
  exact ⟨r, x _ rfl⟩
def kc_185_s10x : pj_KT := ([(171, 17)], [171], [])
noncomputable def F_186_s10x (G0 : pj_G) : Int32 × pj_G := pj_nm (F_185_s10x G0) (fun y5 => pj_nm (pj_fi G0 171 17) (fun y1 => cond (pj_c1 .lt y5 0) (pj_nm (F_173x G0 (Int32.ofInt 0)) (fun y9 => pj_nm (y1 + y9) (fun z10 => pj_nm (pj_wv G0 171 17 (.int z10)) (fun G11 => (y5, G11))))) (pj_nm (F_173x G0 (Int32.ofInt 1)) (fun y16 => pj_nm (y1 + y16) (fun z17 => pj_nm (pj_wv G0 171 17 (.int z17)) (fun G18 => (y5, G18)))))))
theorem F_186_s10x_e (G0 : pj_G) : F_186_s10x G0 = pj_nm (F_185_s10x G0) (fun y5 => pj_nm (pj_fi G0 171 17) (fun y1 => cond (pj_c1 .lt y5 0) (pj_nm (F_173x G0 (Int32.ofInt 0)) (fun y9 => pj_nm (y1 + y9) (fun z10 => pj_nm (pj_wv G0 171 17 (.int z10)) (fun G11 => (y5, G11))))) (pj_nm (F_173x G0 (Int32.ofInt 1)) (fun y16 => pj_nm (y1 + y16) (fun z17 => pj_nm (pj_wv G0 171 17 (.int z17)) (fun G18 => (y5, G18))))))) := rfl
theorem ct_185_s10x (G0 : pj_G) (hI : pj_Inv G0) : pj_Y 16 185 [.ref 171, .retAddr 10] G0 (fun v' G' => ∃ y : Int32, v' = some (.int y) ∧ pj_Inv G' ∧ pj_kpt kc_185_s10x G0 G' ∧ ((-1 : Int) ≤ y.toInt ∧ y.toInt ≤ 6) ∧ (∀ H, G0 = H → (((0 ≤ y.toInt → (pj_fi G' 171 17).toInt = (pj_fi H 171 17).toInt + 1 ∧ (pj_fi H 171 17).toInt < (pj_fi H 171 18).toInt) ∧ (y.toInt < 0 → (pj_fi G' 171 17).toInt = (pj_fi H 171 17).toInt)) ∧ ((((pj_fi H 171 17).toInt < (pj_fi H 171 18).toInt ∧ 50 ≤ (pj_ai H 180 (pj_fi H 171 17).toInt.toNat).toInt ∧ (pj_ai H 180 (pj_fi H 171 17).toInt.toNat).toInt ≤ 56) → y.toInt = (pj_ai H 180 (pj_fi H 171 17).toInt.toNat).toInt - 50 ∧ (pj_fi G' 171 17).toInt = (pj_fi H 171 17).toInt + 1) ∧ (¬ ((pj_fi H 171 17).toInt < (pj_fi H 171 18).toInt ∧ 50 ≤ (pj_ai H 180 (pj_fi H 171 17).toInt.toNat).toInt ∧ (pj_ai H 180 (pj_fi H 171 17).toInt.toNat).toInt ≤ 56) → y.toInt = -1 ∧ (pj_fi G' 171 17).toInt = (pj_fi H 171 17).toInt)))) ∧ ((y, G') = F_186_s10x G0)) := by
  have c0_ : (Int32.ofInt 0).toInt = 0 := by decide
  have c1_ : (Int32.ofInt 1).toInt = 1 := by decide
  refine pj_Y_X (M := pj_m185) rfl rfl (Nat.le_of_ble_eq_true rfl) ?_
  have hK : pj_kpt kc_185_s10x G0 G0 := pj_kpt_r _ _
  show pj_X _ _ G0 0 [(0, .ref 171), (1, .retAddr 10)] [] _
  rw [F_186_s10x_e]
  obtain ⟨y1, hy1⟩ : ∃ z : Int32, z = pj_fi G0 171 17 := ⟨_, rfl⟩
  have ey1 : (pj_fi G0 171 17).toInt = y1.toInt := by rw [hy1]
  have ry1 : (0 : Int) ≤ y1.toInt ∧ y1.toInt ≤ 80 := by rw [hy1]; exact hI.2.1 171 17 (0, 80) rfl
  obtain ⟨y2, hy2⟩ : ∃ z : Int32, z = pj_fi G0 171 18 := ⟨_, rfl⟩
  have ey2 : (pj_fi G0 171 18).toInt = y2.toInt := by rw [hy2]
  have ry2 : (0 : Int) ≤ y2.toInt ∧ y2.toInt ≤ 80 := by rw [hy2]; exact hI.2.1 171 18 (0, 80) rfl
  refine pj_X_of (fun r h => pj_R_to (G0, 2, [(0, .ref 171), (1, .retAddr 10)], [.retAddr 10, .ref 171], 0, 0) 2 3 (fun _ => rfl) h) ?_
  have q3 : (pj_fi G0 171 17).toInt = y1.toInt := by rw [show pj_fi G0 171 17 = y1 from hy1.symm]
  have q4 : (pj_fi G0 171 18).toInt = y2.toInt := by rw [show pj_fi G0 171 18 = y2 from hy2.symm]
  refine pj_X_ca (vs := [.ref 171, .retAddr 10]) rfl (fun _ => rfl) ⟨Nat.le_of_ble_eq_true rfl, Nat.le_of_ble_eq_true rfl, pj_T_rcv hI rfl⟩ ⟨rfl, rfl⟩ (pj_Y_up (by decide) (ct_184_s10x G0 hI)) ?_
  rintro _ _ ⟨y5, rfl, rfl, ry5, ey5, fy5⟩
  replace ey5 := ey5 _ rfl
  rw [← fy5, pj_nm_e]
  show pj_X _ _ G0 5 [(0, .ref 171), (1, .retAddr 10)] [.int y5] _
  refine pj_X_of (fun r h => pj_R_to (G0, 8, [(2, .int y5), (0, .ref 171), (1, .retAddr 10)], [.ref 171, .ref 171], 0, 0) 8 4 (fun _ => rfl) h) ?_
  refine pj_X_of (fun r h => pj_T_gi hI rfl rfl h) ?_
  show pj_X _ _ G0 11 [(2, .int y5), (0, .ref 171), (1, .retAddr 10)] [.int (pj_fi G0 171 17), .ref 171] _
  rw [← hy1, pj_nm_e]
  refine pj_X_of (fun r h => pj_R_to (G0, 12, [(2, .int y5), (0, .ref 171), (1, .retAddr 10)], [.int y5, .int y1, .ref 171], 0, 0) 12 2 (fun _ => rfl) h) ?_
  cases b6 : pj_c1 .lt y5 0 with
  | true =>
    rw [pj_cT]
    have ub6 := pj_u0_ltT b6
    refine pj_X_of (fun r h => pj_R_ifT 19 rfl rfl b6 h) ?_
    refine pj_X_of (fun r h => pj_R_to (G0, 20, [(2, .int y5), (0, .ref 171), (1, .retAddr 10)], [.int (Int32.ofInt 0), .int y1, .ref 171], 0, 0) 20 2 (fun _ => rfl) h) ?_
    have q7 : (pj_fi G0 171 17).toInt = y1.toInt := by rw [show pj_fi G0 171 17 = y1 from hy1.symm]
    have q8 : (pj_fi G0 171 18).toInt = y2.toInt := by rw [show pj_fi G0 171 18 = y2 from hy2.symm]
    refine pj_X_ca (vs := [.int (Int32.ofInt 0)]) rfl (fun _ => rfl) ⟨Nat.le_of_ble_eq_true rfl, Nat.le_of_ble_eq_true rfl, rfl⟩ ⟨rfl, rfl⟩ (pj_Y_up (by decide) (ct_172x G0 hI (Int32.ofInt 0) ⟨by omega, by omega⟩)) ?_
    rintro _ _ ⟨y9, rfl, rfl, ry9, ey9, fy9⟩
    rw [← fy9, pj_nm_e]
    show pj_X _ _ G0 23 [(2, .int y5), (0, .ref 171), (1, .retAddr 10)] [.int y9, .int y1, .ref 171] _
    refine pj_X_of (fun r h => pj_R_to (G0, 24, [(2, .int y5), (0, .ref 171), (1, .retAddr 10)], [.int (y1 + y9), .ref 171], 0, 0) 24 2 (fun _ => rfl) h) ?_
    obtain ⟨z10, hz10⟩ : ∃ z : Int32, z = y1 + y9 := ⟨_, rfl⟩
    refine pj_X_eqi hz10.symm ?_
    rw [← hz10, pj_nm_e]
    have fz10_0 : z10.toInt = y1.toInt + y9.toInt := by rw [hz10]; exact pj_addI (by have := pj_i32 y1; have := pj_i32 y9; omega) (by have := pj_i32 y1; have := pj_i32 y9; omega)
    refine pj_X_of (fun r h => pj_T_pf hI rfl rfl rfl h) ?_
    show pj_X _ _ (pj_wv G0 171 17 (.int z10)) 27 [(2, .int y5), (0, .ref 171), (1, .retAddr 10)] [] _
    obtain ⟨G11, hG11⟩ : ∃ H, H = pj_wv G0 171 17 (.int z10) := ⟨_, rfl⟩
    have iG11 : pj_Inv G11 := by rw [hG11]; exact pj_Inv_wi hI (ci := 12) rfl (fun q hq => by cases hq; exact ⟨by show (0 : Int) ≤ _; omega, by show _ ≤ (80 : Int); omega⟩)
    have kG11 : pj_kpt kc_185_s10x G0 G11 := by rw [hG11]; exact pj_kpt_v hK rfl
    rw [← hG11]
    rw [pj_nm_e]
    refine pj_X_of (fun r h => pj_R_to (G11, 28, [(2, .int y5), (0, .ref 171), (1, .retAddr 10)], [.int y5], 0, 0) 28 2 (fun _ => rfl) h) ?_
    have q12 : (pj_fi G11 171 17).toInt = z10.toInt := by rw [show pj_fi G11 171 17 = z10 from by rw [hG11]; exact pj_fi_wi hI.1 (ci := 12) rfl _]
    have q13 : (pj_fi G11 171 18).toInt = y2.toInt := by rw [show pj_fi G11 171 18 = y2 from by rw [hG11, pj_fi_wv_ne _ _ _ _ _ _ (by decide)]; exact hy2.symm]
    exact pj_X_rt rfl rfl ⟨_, rfl, iG11, kG11, ⟨by omega, by omega⟩, (fun H hH => by subst hH; exact (⟨by omega, by omega⟩)), rfl⟩
  | false =>
    rw [pj_cF]
    have ub6 := pj_u0_ltF b6
    refine pj_X_of (fun r h => pj_R_ifF rfl b6 h) ?_
    refine pj_X_of (fun r h => pj_R_to (G0, 20, [(2, .int y5), (0, .ref 171), (1, .retAddr 10)], [.int (Int32.ofInt 1), .int y1, .ref 171], 0, 0) 20 3 (fun _ => rfl) h) ?_
    have q14 : (pj_fi G0 171 17).toInt = y1.toInt := by rw [show pj_fi G0 171 17 = y1 from hy1.symm]
    have q15 : (pj_fi G0 171 18).toInt = y2.toInt := by rw [show pj_fi G0 171 18 = y2 from hy2.symm]
    refine pj_X_ca (vs := [.int (Int32.ofInt 1)]) rfl (fun _ => rfl) ⟨Nat.le_of_ble_eq_true rfl, Nat.le_of_ble_eq_true rfl, rfl⟩ ⟨rfl, rfl⟩ (pj_Y_up (by decide) (ct_172x G0 hI (Int32.ofInt 1) ⟨by omega, by omega⟩)) ?_
    rintro _ _ ⟨y16, rfl, rfl, ry16, ey16, fy16⟩
    rw [← fy16, pj_nm_e]
    show pj_X _ _ G0 23 [(2, .int y5), (0, .ref 171), (1, .retAddr 10)] [.int y16, .int y1, .ref 171] _
    refine pj_X_of (fun r h => pj_R_to (G0, 24, [(2, .int y5), (0, .ref 171), (1, .retAddr 10)], [.int (y1 + y16), .ref 171], 0, 0) 24 2 (fun _ => rfl) h) ?_
    obtain ⟨z17, hz17⟩ : ∃ z : Int32, z = y1 + y16 := ⟨_, rfl⟩
    refine pj_X_eqi hz17.symm ?_
    rw [← hz17, pj_nm_e]
    have fz17_0 : z17.toInt = y1.toInt + y16.toInt := by rw [hz17]; exact pj_addI (by have := pj_i32 y1; have := pj_i32 y16; omega) (by have := pj_i32 y1; have := pj_i32 y16; omega)
    refine pj_X_of (fun r h => pj_T_pf hI rfl rfl rfl h) ?_
    show pj_X _ _ (pj_wv G0 171 17 (.int z17)) 27 [(2, .int y5), (0, .ref 171), (1, .retAddr 10)] [] _
    obtain ⟨G18, hG18⟩ : ∃ H, H = pj_wv G0 171 17 (.int z17) := ⟨_, rfl⟩
    have iG18 : pj_Inv G18 := by rw [hG18]; exact pj_Inv_wi hI (ci := 12) rfl (fun q hq => by cases hq; exact ⟨by show (0 : Int) ≤ _; omega, by show _ ≤ (80 : Int); omega⟩)
    have kG18 : pj_kpt kc_185_s10x G0 G18 := by rw [hG18]; exact pj_kpt_v hK rfl
    rw [← hG18]
    rw [pj_nm_e]
    refine pj_X_of (fun r h => pj_R_to (G18, 28, [(2, .int y5), (0, .ref 171), (1, .retAddr 10)], [.int y5], 0, 0) 28 2 (fun _ => rfl) h) ?_
    have q19 : (pj_fi G18 171 17).toInt = z17.toInt := by rw [show pj_fi G18 171 17 = z17 from by rw [hG18]; exact pj_fi_wi hI.1 (ci := 12) rfl _]
    have q20 : (pj_fi G18 171 18).toInt = y2.toInt := by rw [show pj_fi G18 171 18 = y2 from by rw [hG18, pj_fi_wv_ne _ _ _ _ _ _ (by decide)]; exact hy2.symm]
    exact pj_X_rt rfl rfl ⟨_, rfl, iG18, kG18, ⟨by omega, by omega⟩, (fun H hH => by subst hH; exact (⟨by omega, by omega⟩)), rfl⟩
theorem fr_186_s10x (G0 : pj_G) (hI : pj_Inv G0) : pj_Inv (F_186_s10x G0).2 ∧ pj_kpt kc_185_s10x G0 (F_186_s10x G0).2 ∧ ((-1 : Int) ≤ (F_186_s10x G0).1.toInt ∧ (F_186_s10x G0).1.toInt ≤ 6) ∧ (((0 ≤ (F_186_s10x G0).1.toInt → (pj_fi (F_186_s10x G0).2 171 17).toInt = (pj_fi G0 171 17).toInt + 1 ∧ (pj_fi G0 171 17).toInt < (pj_fi G0 171 18).toInt) ∧ ((F_186_s10x G0).1.toInt < 0 → (pj_fi (F_186_s10x G0).2 171 17).toInt = (pj_fi G0 171 17).toInt)) ∧ ((((pj_fi G0 171 17).toInt < (pj_fi G0 171 18).toInt ∧ 50 ≤ (pj_ai G0 180 (pj_fi G0 171 17).toInt.toNat).toInt ∧ (pj_ai G0 180 (pj_fi G0 171 17).toInt.toNat).toInt ≤ 56) → (F_186_s10x G0).1.toInt = (pj_ai G0 180 (pj_fi G0 171 17).toInt.toNat).toInt - 50 ∧ (pj_fi (F_186_s10x G0).2 171 17).toInt = (pj_fi G0 171 17).toInt + 1) ∧ (¬ ((pj_fi G0 171 17).toInt < (pj_fi G0 171 18).toInt ∧ 50 ≤ (pj_ai G0 180 (pj_fi G0 171 17).toInt.toNat).toInt ∧ (pj_ai G0 180 (pj_fi G0 171 17).toInt.toNat).toInt ≤ 56) → (F_186_s10x G0).1.toInt = -1 ∧ (pj_fi (F_186_s10x G0).2 171 17).toInt = (pj_fi G0 171 17).toInt))) := by
  obtain ⟨v, G', -, y, -, i, j, r, x, e⟩ := ct_185_s10x G0 hI 
  rw [← e]
  exact ⟨i, j, r, x _ rfl⟩
def kc_186ex : pj_KT := ([(171, 17)], [171], [])
noncomputable def L_187ex (G0 : pj_G) (dg : Int32) (fu : Nat) : Int32 → Int32 → pj_G → Int32 × pj_G := Nat.rec (motive := fun _ => Int32 → Int32 → pj_G → Int32 × pj_G) (fun _ _ G => (0, G)) (fun _ ih v2 v3 G => cond (pj_c1 .ge v3 dg) ((v2, G)) (pj_nm (F_184x G) (fun y8 => cond (pj_c1 .eq y8 0) ((v2, G)) (pj_nm (((Int8.ofInt 10).toInt32) * v2) (fun z12 => pj_nm (pj_fi G 171 17) (fun y1 => pj_nm (pj_ai G 180 y1.toInt.toNat) (fun z13 => pj_nm (z12 + z13) (fun z14 => pj_nm (z14 - ((Int8.ofInt 48).toInt32)) (fun z15 => pj_nm (y1 + (Int32.ofInt 1)) (fun z16 => pj_nm (pj_wv G 171 17 (.int z16)) (fun G17 => pj_nm (v3 + Int32.ofInt 1) (fun z18 => ih z15 z18 G17)))))))))))) fu
theorem L_187ex_s0 (G0 : pj_G) (dg : Int32) (fu : Nat) (v2 : Int32) (v3 : Int32) (G : pj_G) : L_187ex G0 dg (fu + 1) v2 v3 G = cond (pj_c1 .ge v3 dg) ((v2, G)) (pj_nm (F_184x G) (fun y8 => cond (pj_c1 .eq y8 0) ((v2, G)) (pj_nm (((Int8.ofInt 10).toInt32) * v2) (fun z12 => pj_nm (pj_fi G 171 17) (fun y1 => pj_nm (pj_ai G 180 y1.toInt.toNat) (fun z13 => pj_nm (z12 + z13) (fun z14 => pj_nm (z14 - ((Int8.ofInt 48).toInt32)) (fun z15 => pj_nm (y1 + (Int32.ofInt 1)) (fun z16 => pj_nm (pj_wv G 171 17 (.int z16)) (fun G17 => pj_nm (v3 + Int32.ofInt 1) (fun z18 => L_187ex G0 dg fu z15 z18 G17))))))))))) := rfl
noncomputable def F_187ex (G0 : pj_G) (dg : Int32) : Int32 × pj_G := pj_nm (F_184x G0) (fun y25 => cond (pj_c1 .ne y25 0) (L_187ex G0 dg 4 (Int32.ofInt 0) (Int32.ofInt 0) G0) ((Int32.ofInt (-1), G0)))
theorem F_187ex_e (G0 : pj_G) (dg : Int32) : F_187ex G0 dg = pj_nm (F_184x G0) (fun y25 => cond (pj_c1 .ne y25 0) (L_187ex G0 dg 4 (Int32.ofInt 0) (Int32.ofInt 0) G0) ((Int32.ofInt (-1), G0))) := rfl
theorem lp_ct_186ex (G0 : pj_G) (hI0 : pj_Inv G0) (dg : Int32) (rdg : (1 : Int) ≤ dg.toInt ∧ dg.toInt ≤ 3) : ∀ mn : Nat, (∀ (G : pj_G) (hI : pj_Inv G) (hK : pj_kpt kc_186ex G0 G) (v2 : Int32) (v3 : Int32), ((0 : Int) ≤ v2.toInt ∧ v2.toInt ≤ 999) → ((0 : Int) ≤ v3.toInt ∧ v3.toInt ≤ 3) → (v3.toInt = 0 → v2.toInt = 0) → (v3.toInt = 1 → v2.toInt ≤ 9) → (v3.toInt = 2 → v2.toInt ≤ 99) → (v3.toInt ≤ dg.toInt) → ((pj_fi G 171 17).toInt = (pj_fi G0 171 17).toInt + v3.toInt) → (v3.toInt = 0 → ((pj_fi G 171 17).toInt < (pj_fi G 171 18).toInt ∧ 48 ≤ (pj_ai G 180 (pj_fi G 171 17).toInt.toNat).toInt ∧ (pj_ai G 180 (pj_fi G 171 17).toInt.toNat).toInt ≤ 57)) → ((pj_fi G0 171 17).toInt ≤ (pj_fi G0 171 18).toInt → (pj_fi G 171 17).toInt ≤ (pj_fi G 171 18).toInt) → 3 - v3.toInt < (mn : Int) → pj_X 2 pj_m186 G 13 [(0, .ref 171), (1, .int dg), (2, .int v2), (3, .int v3)] [] (fun v' G' => ∃ y : Int32, v' = some (.int y) ∧ pj_Inv G' ∧ pj_kpt kc_186ex G0 G' ∧ ((-1 : Int) ≤ y.toInt ∧ y.toInt ≤ 999) ∧ (∀ H, G0 = H → ((dg.toInt = 1 → y.toInt ≤ 9) ∧ (dg.toInt = 2 → y.toInt ≤ 99) ∧ (pj_fi H 171 17).toInt ≤ (pj_fi G' 171 17).toInt ∧ (0 ≤ y.toInt → (pj_fi H 171 17).toInt + 1 ≤ (pj_fi G' 171 17).toInt) ∧ ((pj_fi H 171 17).toInt ≤ (pj_fi H 171 18).toInt → (pj_fi G' 171 17).toInt ≤ (pj_fi G' 171 18).toInt) ∧ ((pj_fi H 171 17).toInt < (pj_fi H 171 18).toInt ∧ 48 ≤ (pj_ai H 180 (pj_fi H 171 17).toInt.toNat).toInt ∧ (pj_ai H 180 (pj_fi H 171 17).toInt.toNat).toInt ≤ 57 → 0 ≤ y.toInt))) ∧ ((y, G') = L_187ex G0 dg mn v2 v3 G))) := by
  have c0_ : ((Int8.ofInt 10).toInt32).toInt = 10 := by decide
  have c1_ : ((Int8.ofInt 48).toInt32).toInt = 48 := by decide
  have c2_ : (Int32.ofInt (-1)).toInt = -1 := by decide
  have c3_ : (Int32.ofInt 0).toInt = 0 := by decide
  have c4_ : (Int32.ofInt 1).toInt = 1 := by decide
  intro mn
  induction mn with
  | zero =>
    intro G hI hK v2 v3 rv2 rv3 x0_ x1_ x2_ x3_ x4_ x5_ x6_ hm
    exfalso
    omega
  | succ mn ih =>
    intro G hI hK v2 v3 rv2 rv3 x0_ x1_ x2_ x3_ x4_ x5_ x6_ hm
    rw [L_187ex_s0]
    obtain ⟨y1, hy1⟩ : ∃ z : Int32, z = pj_fi G 171 17 := ⟨_, rfl⟩
    have ey1 : (pj_fi G 171 17).toInt = y1.toInt := by rw [hy1]
    have ry1 : (0 : Int) ≤ y1.toInt ∧ y1.toInt ≤ 80 := by rw [hy1]; exact hI.2.1 171 17 (0, 80) rfl
    obtain ⟨y2, hy2⟩ : ∃ z : Int32, z = pj_fi G 171 18 := ⟨_, rfl⟩
    have ey2 : (pj_fi G 171 18).toInt = y2.toInt := by rw [hy2]
    have ry2 : (0 : Int) ≤ y2.toInt ∧ y2.toInt ≤ 80 := by rw [hy2]; exact hI.2.1 171 18 (0, 80) rfl
    refine pj_X_of (fun r h => pj_R_to (G, 15, [(0, .ref 171), (1, .int dg), (2, .int v2), (3, .int v3)], [.int dg, .int v3], 0, 0) 15 3 (fun _ => rfl) h) ?_
    cases b3 : pj_c1 .ge v3 dg with
    | true =>
      rw [pj_cT]
      have ub3 := pj_u_geT b3
      refine pj_X_of (fun r h => pj_R_icT 59 rfl rfl b3 h) ?_
      refine pj_X_of (fun r h => pj_R_to (G, 60, [(0, .ref 171), (1, .int dg), (2, .int v2), (3, .int v3)], [.int v2], 0, 0) 60 2 (fun _ => rfl) h) ?_
      have q4 : (pj_fi G 171 17).toInt = y1.toInt := by rw [show pj_fi G 171 17 = y1 from hy1.symm]
      have q5 : (pj_fi G 171 18).toInt = y2.toInt := by rw [show pj_fi G 171 18 = y2 from hy2.symm]
      exact pj_X_rt rfl rfl ⟨_, rfl, hI, hK, ⟨by omega, by omega⟩, (fun H hH => by subst hH; exact (by omega)), rfl⟩
    | false =>
      rw [pj_cF]
      have ub3 := pj_u_geF b3
      refine pj_X_of (fun r h => pj_R_icF rfl b3 h) ?_
      refine pj_X_of (fun r h => pj_R_to (G, 19, [(0, .ref 171), (1, .int dg), (2, .int v2), (3, .int v3)], [.ref 171], 0, 0) 19 2 (fun _ => rfl) h) ?_
      have q6 : (pj_fi G 171 17).toInt = y1.toInt := by rw [show pj_fi G 171 17 = y1 from hy1.symm]
      have q7 : (pj_fi G 171 18).toInt = y2.toInt := by rw [show pj_fi G 171 18 = y2 from hy2.symm]
      refine pj_X_ca (vs := [.ref 171]) rfl (fun _ => rfl) ⟨Nat.le_of_ble_eq_true rfl, Nat.le_of_ble_eq_true rfl, pj_T_rcv hI rfl⟩ ⟨rfl, rfl⟩ (pj_Y_up (by decide) (ct_183x G hI)) ?_
      rintro _ _ ⟨y8, rfl, rfl, ry8, ey8, fy8⟩
      replace ey8 := ey8 _ rfl
      rw [← fy8, pj_nm_e]
      show pj_X _ _ G 22 [(0, .ref 171), (1, .int dg), (2, .int v2), (3, .int v3)] [.int y8] _
      cases b9 : pj_c1 .eq y8 0 with
      | true =>
        rw [pj_cT]
        have ub9 := pj_u0_eqT b9
        refine pj_X_of (fun r h => pj_R_ifT 59 rfl rfl b9 h) ?_
        refine pj_X_of (fun r h => pj_R_to (G, 60, [(0, .ref 171), (1, .int dg), (2, .int v2), (3, .int v3)], [.int v2], 0, 0) 60 2 (fun _ => rfl) h) ?_
        have q10 : (pj_fi G 171 17).toInt = y1.toInt := by rw [show pj_fi G 171 17 = y1 from hy1.symm]
        have q11 : (pj_fi G 171 18).toInt = y2.toInt := by rw [show pj_fi G 171 18 = y2 from hy2.symm]
        exact pj_X_rt rfl rfl ⟨_, rfl, hI, hK, ⟨by omega, by omega⟩, (fun H hH => by subst hH; exact (by omega)), rfl⟩
      | false =>
        rw [pj_cF]
        have ub9 := pj_u0_eqF b9
        refine pj_X_of (fun r h => pj_R_ifF rfl b9 h) ?_
        refine pj_X_of (fun r h => pj_R_to (G, 29, [(0, .ref 171), (1, .int dg), (2, .int v2), (3, .int v3)], [.int (((Int8.ofInt 10).toInt32) * v2)], 0, 0) 29 4 (fun _ => rfl) h) ?_
        obtain ⟨z12, hz12⟩ : ∃ z : Int32, z = ((Int8.ofInt 10).toInt32) * v2 := ⟨_, rfl⟩
        refine pj_X_eqi hz12.symm ?_
        rw [← hz12, pj_nm_e]
        have fz12_0 : z12.toInt = 10 * v2.toInt := by rw [hz12]; exact pj_mulL (by decide) (by omega) (by omega)
        refine pj_X_of (fun r h => pj_R_to (G, 30, [(0, .ref 171), (1, .int dg), (2, .int v2), (3, .int v3)], [.ref 171, .int z12], 0, 0) 30 2 (fun _ => rfl) h) ?_
        refine pj_X_of (fun r h => pj_T_gr hI rfl rfl rfl h) ?_
        refine pj_X_of (fun r h => pj_R_to (G, 34, [(0, .ref 171), (1, .int dg), (2, .int v2), (3, .int v3)], [.ref 171, .ref 180, .int z12], 0, 0) 34 2 (fun _ => rfl) h) ?_
        refine pj_X_of (fun r h => pj_T_gi hI rfl rfl h) ?_
        show pj_X _ _ G 37 [(0, .ref 171), (1, .int dg), (2, .int v2), (3, .int v3)] [.int (pj_fi G 171 17), .ref 180, .int z12] _
        rw [← hy1, pj_nm_e]
        refine pj_X_of (fun r h => pj_T_il hI rfl rfl (by omega) (by omega) h) ?_
        show pj_X _ _ G 38 [(0, .ref 171), (1, .int dg), (2, .int v2), (3, .int v3)] [.int (pj_ai G 180 y1.toInt.toNat), .int z12] _
        obtain ⟨z13, hz13⟩ : ∃ z : Int32, z = pj_ai G 180 y1.toInt.toNat := ⟨_, rfl⟩
        refine pj_X_eqi hz13.symm ?_
        rw [← hz13, pj_nm_e]
        have ez13 : (pj_ai G 180 y1.toInt.toNat).toInt = z13.toInt := by rw [hz13]
        have fz13_0 : (0 : Int) ≤ z13.toInt ∧ z13.toInt ≤ 255 ∧ (z13.toInt ≤ 0 ∨ 0 ≤ z13.toInt) := by rw [hz13]; exact hI.2.2.1 180 (80, 0, 255, 0, 0) rfl _ (by show _ < 80; omega)
        have gz13 : (pj_ai G 180 (pj_fi G 171 17).toInt.toNat).toInt = z13.toInt := by rw [show pj_fi G 171 17 = y1 from hy1.symm, hz13]
        refine pj_X_of (fun r h => pj_R_to (G, 39, [(0, .ref 171), (1, .int dg), (2, .int v2), (3, .int v3)], [.int (z12 + z13)], 0, 0) 39 2 (fun _ => rfl) h) ?_
        obtain ⟨z14, hz14⟩ : ∃ z : Int32, z = z12 + z13 := ⟨_, rfl⟩
        refine pj_X_eqi hz14.symm ?_
        rw [← hz14, pj_nm_e]
        have fz14_0 : z14.toInt = z12.toInt + z13.toInt := by rw [hz14]; exact pj_addI (by have := pj_i32 z12; have := pj_i32 z13; omega) (by have := pj_i32 z12; have := pj_i32 z13; omega)
        refine pj_X_of (fun r h => pj_R_to (G, 42, [(0, .ref 171), (1, .int dg), (2, .int v2), (3, .int v3)], [.int (z14 - ((Int8.ofInt 48).toInt32))], 0, 0) 42 3 (fun _ => rfl) h) ?_
        obtain ⟨z15, hz15⟩ : ∃ z : Int32, z = z14 - ((Int8.ofInt 48).toInt32) := ⟨_, rfl⟩
        refine pj_X_eqi hz15.symm ?_
        rw [← hz15, pj_nm_e]
        have fz15_0 : z15.toInt = z14.toInt - ((Int8.ofInt 48).toInt32).toInt := by rw [hz15]; exact pj_subI (by have := pj_i32 z14; have := pj_i32 ((Int8.ofInt 48).toInt32); omega) (by have := pj_i32 z14; have := pj_i32 ((Int8.ofInt 48).toInt32); omega)
        refine pj_X_of (fun r h => pj_R_to (G, 45, [(2, .int z15), (0, .ref 171), (1, .int dg), (3, .int v3)], [.ref 171, .ref 171], 0, 0) 45 4 (fun _ => rfl) h) ?_
        refine pj_X_of (fun r h => pj_T_gi hI rfl rfl h) ?_
        show pj_X _ _ G 48 [(2, .int z15), (0, .ref 171), (1, .int dg), (3, .int v3)] [.int (pj_fi G 171 17), .ref 171] _
        refine pj_X_eqi (show pj_fi G 171 17 = y1 from hy1.symm) ?_
        refine pj_X_of (fun r h => pj_R_to (G, 50, [(2, .int z15), (0, .ref 171), (1, .int dg), (3, .int v3)], [.int (y1 + (Int32.ofInt 1)), .ref 171], 0, 0) 50 3 (fun _ => rfl) h) ?_
        obtain ⟨z16, hz16⟩ : ∃ z : Int32, z = y1 + (Int32.ofInt 1) := ⟨_, rfl⟩
        refine pj_X_eqi hz16.symm ?_
        rw [← hz16, pj_nm_e]
        have fz16_0 : z16.toInt = y1.toInt + (Int32.ofInt 1).toInt := by rw [hz16]; exact pj_addI (by have := pj_i32 y1; have := pj_i32 (Int32.ofInt 1); omega) (by have := pj_i32 y1; have := pj_i32 (Int32.ofInt 1); omega)
        refine pj_X_of (fun r h => pj_T_pf hI rfl rfl rfl h) ?_
        show pj_X _ _ (pj_wv G 171 17 (.int z16)) 53 [(2, .int z15), (0, .ref 171), (1, .int dg), (3, .int v3)] [] _
        obtain ⟨G17, hG17⟩ : ∃ H, H = pj_wv G 171 17 (.int z16) := ⟨_, rfl⟩
        have iG17 : pj_Inv G17 := by rw [hG17]; exact pj_Inv_wi hI (ci := 12) rfl (fun q hq => by cases hq; exact ⟨by show (0 : Int) ≤ _; omega, by show _ ≤ (80 : Int); omega⟩)
        have kG17 : pj_kpt kc_186ex G0 G17 := by rw [hG17]; exact pj_kpt_v hK rfl
        rw [← hG17]
        rw [pj_nm_e]
        refine pj_X_of (fun r h => pj_R_to (G17, 56, [(3, .int (v3 + Int32.ofInt 1)), (2, .int z15), (0, .ref 171), (1, .int dg)], [], 0, 0) 56 2 (fun _ => rfl) h) ?_
        obtain ⟨z18, hz18⟩ : ∃ z : Int32, z = v3 + Int32.ofInt 1 := ⟨_, rfl⟩
        rw [← hz18]
        rw [pj_nm_e]
        have fz18_0 : z18.toInt = v3.toInt + (Int32.ofInt 1).toInt := by rw [hz18]; exact pj_addI (by have := pj_i32 v3; have := pj_i32 (Int32.ofInt 1); omega) (by have := pj_i32 v3; have := pj_i32 (Int32.ofInt 1); omega)
        refine pj_X_of (fun r h => pj_R_to (G17, 13, [(3, .int z18), (2, .int z15), (0, .ref 171), (1, .int dg)], [], 0, 0) 13 2 (fun _ => rfl) h) ?_
        have q19 : (pj_fi G17 171 17).toInt = z16.toInt := by rw [show pj_fi G17 171 17 = z16 from by rw [hG17]; exact pj_fi_wi hI.1 (ci := 12) rfl _]
        have q20 : (pj_fi G17 171 18).toInt = y2.toInt := by rw [show pj_fi G17 171 18 = y2 from by rw [hG17, pj_fi_wv_ne _ _ _ _ _ _ (by decide)]; exact hy2.symm]
        exact pj_X_sub [(0, .ref 171), (1, .int dg), (2, .int z15), (3, .int z18)] (show List.Nodup [0, 1, 2, 3] by decide) ⟨rfl, rfl, rfl, rfl, trivial⟩ (ih G17 iG17 kG17 z15 z18 ⟨by omega, by omega⟩ ⟨by omega, by omega⟩ (by omega) (by omega) (by omega) (by omega) (by omega) (by omega) (by omega) (by omega))
theorem ct_186ex (G0 : pj_G) (hI : pj_Inv G0) (dg : Int32) (rdg : (1 : Int) ≤ dg.toInt ∧ dg.toInt ≤ 3) : pj_Y 3 186 [.ref 171, .int dg] G0 (fun v' G' => ∃ y : Int32, v' = some (.int y) ∧ pj_Inv G' ∧ pj_kpt kc_186ex G0 G' ∧ ((-1 : Int) ≤ y.toInt ∧ y.toInt ≤ 999) ∧ (∀ H, G0 = H → ((dg.toInt = 1 → y.toInt ≤ 9) ∧ (dg.toInt = 2 → y.toInt ≤ 99) ∧ (pj_fi H 171 17).toInt ≤ (pj_fi G' 171 17).toInt ∧ (0 ≤ y.toInt → (pj_fi H 171 17).toInt + 1 ≤ (pj_fi G' 171 17).toInt) ∧ ((pj_fi H 171 17).toInt ≤ (pj_fi H 171 18).toInt → (pj_fi G' 171 17).toInt ≤ (pj_fi G' 171 18).toInt) ∧ ((pj_fi H 171 17).toInt < (pj_fi H 171 18).toInt ∧ 48 ≤ (pj_ai H 180 (pj_fi H 171 17).toInt.toNat).toInt ∧ (pj_ai H 180 (pj_fi H 171 17).toInt.toNat).toInt ≤ 57 → 0 ≤ y.toInt))) ∧ ((y, G') = F_187ex G0 dg)) := by
  have c0_ : ((Int8.ofInt 10).toInt32).toInt = 10 := by decide
  have c1_ : ((Int8.ofInt 48).toInt32).toInt = 48 := by decide
  have c2_ : (Int32.ofInt (-1)).toInt = -1 := by decide
  have c3_ : (Int32.ofInt 0).toInt = 0 := by decide
  have c4_ : (Int32.ofInt 1).toInt = 1 := by decide
  refine pj_Y_X (M := pj_m186) rfl rfl (Nat.le_of_ble_eq_true rfl) ?_
  have hK : pj_kpt kc_186ex G0 G0 := pj_kpt_r _ _
  show pj_X _ _ G0 0 [(0, .ref 171), (1, .int dg)] [] _
  rw [F_187ex_e]
  obtain ⟨y21, hy21⟩ : ∃ z : Int32, z = pj_fi G0 171 17 := ⟨_, rfl⟩
  have ey21 : (pj_fi G0 171 17).toInt = y21.toInt := by rw [hy21]
  have ry21 : (0 : Int) ≤ y21.toInt ∧ y21.toInt ≤ 80 := by rw [hy21]; exact hI.2.1 171 17 (0, 80) rfl
  obtain ⟨y22, hy22⟩ : ∃ z : Int32, z = pj_fi G0 171 18 := ⟨_, rfl⟩
  have ey22 : (pj_fi G0 171 18).toInt = y22.toInt := by rw [hy22]
  have ry22 : (0 : Int) ≤ y22.toInt ∧ y22.toInt ≤ 80 := by rw [hy22]; exact hI.2.1 171 18 (0, 80) rfl
  refine pj_X_of (fun r h => pj_R_to (G0, 1, [(0, .ref 171), (1, .int dg)], [.ref 171], 0, 0) 1 2 (fun _ => rfl) h) ?_
  have q23 : (pj_fi G0 171 17).toInt = y21.toInt := by rw [show pj_fi G0 171 17 = y21 from hy21.symm]
  have q24 : (pj_fi G0 171 18).toInt = y22.toInt := by rw [show pj_fi G0 171 18 = y22 from hy22.symm]
  refine pj_X_ca (vs := [.ref 171]) rfl (fun _ => rfl) ⟨Nat.le_of_ble_eq_true rfl, Nat.le_of_ble_eq_true rfl, pj_T_rcv hI rfl⟩ ⟨rfl, rfl⟩ (pj_Y_up (by decide) (ct_183x G0 hI)) ?_
  rintro _ _ ⟨y25, rfl, rfl, ry25, ey25, fy25⟩
  replace ey25 := ey25 _ rfl
  rw [← fy25, pj_nm_e]
  show pj_X _ _ G0 4 [(0, .ref 171), (1, .int dg)] [.int y25] _
  cases b26 : pj_c1 .ne y25 0 with
  | true =>
    rw [pj_cT]
    have ub26 := pj_u0_neT b26
    refine pj_X_of (fun r h => pj_R_ifT 9 rfl rfl b26 h) ?_
    refine pj_X_of (fun r h => pj_R_to (G0, 13, [(3, .int (Int32.ofInt 0)), (2, .int (Int32.ofInt 0)), (0, .ref 171), (1, .int dg)], [], 0, 0) 13 5 (fun _ => rfl) h) ?_
    have q27 : (pj_fi G0 171 17).toInt = y21.toInt := by rw [show pj_fi G0 171 17 = y21 from hy21.symm]
    have q28 : (pj_fi G0 171 18).toInt = y22.toInt := by rw [show pj_fi G0 171 18 = y22 from hy22.symm]
    exact pj_X_sub [(0, .ref 171), (1, .int dg), (2, .int (Int32.ofInt 0)), (3, .int (Int32.ofInt 0))] (show List.Nodup [0, 1, 2, 3] by decide) ⟨rfl, rfl, rfl, rfl, trivial⟩ ((lp_ct_186ex G0 hI dg rdg 4) G0 hI hK (Int32.ofInt 0) (Int32.ofInt 0) ⟨by omega, by omega⟩ ⟨by omega, by omega⟩ (by omega) (by omega) (by omega) (by omega) (by omega) (by omega) (by omega) (by omega))
  | false =>
    rw [pj_cF]
    have ub26 := pj_u0_neF b26
    refine pj_X_of (fun r h => pj_R_ifF rfl b26 h) ?_
    refine pj_X_of (fun r h => pj_R_to (G0, 8, [(0, .ref 171), (1, .int dg)], [.int (Int32.ofInt (-1))], 0, 0) 8 2 (fun _ => rfl) h) ?_
    have q29 : (pj_fi G0 171 17).toInt = y21.toInt := by rw [show pj_fi G0 171 17 = y21 from hy21.symm]
    have q30 : (pj_fi G0 171 18).toInt = y22.toInt := by rw [show pj_fi G0 171 18 = y22 from hy22.symm]
    exact pj_X_rt rfl rfl ⟨_, rfl, hI, hK, ⟨by omega, by omega⟩, (fun H hH => by subst hH; exact (by omega)), rfl⟩
theorem fr_187ex (G0 : pj_G) (hI : pj_Inv G0) (dg : Int32) (rdg : (1 : Int) ≤ dg.toInt ∧ dg.toInt ≤ 3) : pj_Inv (F_187ex G0 dg).2 ∧ pj_kpt kc_186ex G0 (F_187ex G0 dg).2 ∧ ((-1 : Int) ≤ (F_187ex G0 dg).1.toInt ∧ (F_187ex G0 dg).1.toInt ≤ 999) ∧ ((dg.toInt = 1 → (F_187ex G0 dg).1.toInt ≤ 9) ∧ (dg.toInt = 2 → (F_187ex G0 dg).1.toInt ≤ 99) ∧ (pj_fi G0 171 17).toInt ≤ (pj_fi (F_187ex G0 dg).2 171 17).toInt ∧ (0 ≤ (F_187ex G0 dg).1.toInt → (pj_fi G0 171 17).toInt + 1 ≤ (pj_fi (F_187ex G0 dg).2 171 17).toInt) ∧ ((pj_fi G0 171 17).toInt ≤ (pj_fi G0 171 18).toInt → (pj_fi (F_187ex G0 dg).2 171 17).toInt ≤ (pj_fi (F_187ex G0 dg).2 171 18).toInt) ∧ ((pj_fi G0 171 17).toInt < (pj_fi G0 171 18).toInt ∧ 48 ≤ (pj_ai G0 180 (pj_fi G0 171 17).toInt.toNat).toInt ∧ (pj_ai G0 180 (pj_fi G0 171 17).toInt.toNat).toInt ≤ 57 → 0 ≤ (F_187ex G0 dg).1.toInt)) := by
  obtain ⟨v, G', -, y, -, i, j, r, x, e⟩ := ct_186ex G0 hI dg rdg
  rw [← e]
  exact ⟨i, j, r, x _ rfl⟩
def kc_187x : pj_KT := ([(171, 17)], [171], [])
noncomputable def F_188x (G0 : pj_G) (many : Int32) : Int32 × pj_G := pj_nm (pj_fi G0 171 17) (fun y1 => pj_nm (pj_fi G0 171 18) (fun y2 => cond (pj_c1 .ge y1 y2) ((Int32.ofInt (-1), G0)) (pj_nm (pj_ai G0 180 y1.toInt.toNat) (fun z6 => pj_nm (((Int8.ofInt 97).toInt32) + many) (fun z7 => pj_nm (z7 - (Int32.ofInt 1)) (fun z8 => pj_nm (F_171x G0 z6.toInt64 (Int64.ofInt 97) z8.toInt64) (fun y14 => cond (pj_c1 .ne y14 0) (pj_nm (y1 + (Int32.ofInt 1)) (fun z16 => pj_nm (pj_wv G0 171 17 (.int z16)) (fun G17 => pj_nm (z16 - (Int32.ofInt 1)) (fun z18 => pj_nm (pj_ai G17 180 z18.toInt.toNat) (fun z19 => pj_nm (z19 - ((Int8.ofInt 97).toInt32)) (fun z20 => (z20, G17))))))) ((Int32.ofInt (-1), G0)))))))))
theorem F_188x_e (G0 : pj_G) (many : Int32) : F_188x G0 many = pj_nm (pj_fi G0 171 17) (fun y1 => pj_nm (pj_fi G0 171 18) (fun y2 => cond (pj_c1 .ge y1 y2) ((Int32.ofInt (-1), G0)) (pj_nm (pj_ai G0 180 y1.toInt.toNat) (fun z6 => pj_nm (((Int8.ofInt 97).toInt32) + many) (fun z7 => pj_nm (z7 - (Int32.ofInt 1)) (fun z8 => pj_nm (F_171x G0 z6.toInt64 (Int64.ofInt 97) z8.toInt64) (fun y14 => cond (pj_c1 .ne y14 0) (pj_nm (y1 + (Int32.ofInt 1)) (fun z16 => pj_nm (pj_wv G0 171 17 (.int z16)) (fun G17 => pj_nm (z16 - (Int32.ofInt 1)) (fun z18 => pj_nm (pj_ai G17 180 z18.toInt.toNat) (fun z19 => pj_nm (z19 - ((Int8.ofInt 97).toInt32)) (fun z20 => (z20, G17))))))) ((Int32.ofInt (-1), G0))))))))) := rfl
theorem ct_187x (G0 : pj_G) (hI : pj_Inv G0) (many : Int32) (rmany : (0 : Int) ≤ many.toInt ∧ many.toInt ≤ 8) : pj_Y 2 187 [.ref 171, .int many] G0 (fun v' G' => ∃ y : Int32, v' = some (.int y) ∧ pj_Inv G' ∧ pj_kpt kc_187x G0 G' ∧ ((-1 : Int) ≤ y.toInt ∧ y.toInt ≤ 7) ∧ (∀ H, G0 = H → ((y.toInt ≤ many.toInt - 1 ∧ (0 ≤ y.toInt → (pj_fi G' 171 17).toInt = (pj_fi H 171 17).toInt + 1) ∧ (y.toInt < 0 → (pj_fi G' 171 17).toInt = (pj_fi H 171 17).toInt)) ∧ ((((pj_fi H 171 17).toInt < (pj_fi H 171 18).toInt ∧ 97 ≤ (pj_ai H 180 (pj_fi H 171 17).toInt.toNat).toInt ∧ (pj_ai H 180 (pj_fi H 171 17).toInt.toNat).toInt ≤ 96 + many.toInt) → y.toInt = (pj_ai H 180 (pj_fi H 171 17).toInt.toNat).toInt - 97 ∧ (pj_fi G' 171 17).toInt = (pj_fi H 171 17).toInt + 1) ∧ (¬ ((pj_fi H 171 17).toInt < (pj_fi H 171 18).toInt ∧ 97 ≤ (pj_ai H 180 (pj_fi H 171 17).toInt.toNat).toInt ∧ (pj_ai H 180 (pj_fi H 171 17).toInt.toNat).toInt ≤ 96 + many.toInt) → y.toInt = -1 ∧ (pj_fi G' 171 17).toInt = (pj_fi H 171 17).toInt)))) ∧ ((y, G') = F_188x G0 many)) := by
  have c0_ : ((Int8.ofInt 97).toInt32).toInt = 97 := by decide
  have c1_ : (Int32.ofInt (-1)).toInt = -1 := by decide
  have c2_ : (Int32.ofInt 1).toInt = 1 := by decide
  refine pj_Y_X (M := pj_m187) rfl rfl (Nat.le_of_ble_eq_true rfl) ?_
  have hK : pj_kpt kc_187x G0 G0 := pj_kpt_r _ _
  show pj_X _ _ G0 0 [(0, .ref 171), (1, .int many)] [] _
  rw [F_188x_e]
  obtain ⟨y1, hy1⟩ : ∃ z : Int32, z = pj_fi G0 171 17 := ⟨_, rfl⟩
  have ey1 : (pj_fi G0 171 17).toInt = y1.toInt := by rw [hy1]
  have ry1 : (0 : Int) ≤ y1.toInt ∧ y1.toInt ≤ 80 := by rw [hy1]; exact hI.2.1 171 17 (0, 80) rfl
  obtain ⟨y2, hy2⟩ : ∃ z : Int32, z = pj_fi G0 171 18 := ⟨_, rfl⟩
  have ey2 : (pj_fi G0 171 18).toInt = y2.toInt := by rw [hy2]
  have ry2 : (0 : Int) ≤ y2.toInt ∧ y2.toInt ≤ 80 := by rw [hy2]; exact hI.2.1 171 18 (0, 80) rfl
  refine pj_X_of (fun r h => pj_R_to (G0, 1, [(0, .ref 171), (1, .int many)], [.ref 171], 0, 0) 1 2 (fun _ => rfl) h) ?_
  refine pj_X_of (fun r h => pj_T_gi hI rfl rfl h) ?_
  show pj_X _ _ G0 4 [(0, .ref 171), (1, .int many)] [.int (pj_fi G0 171 17)] _
  rw [← hy1, pj_nm_e]
  refine pj_X_of (fun r h => pj_R_to (G0, 5, [(0, .ref 171), (1, .int many)], [.ref 171, .int y1], 0, 0) 5 2 (fun _ => rfl) h) ?_
  refine pj_X_of (fun r h => pj_T_gi hI rfl rfl h) ?_
  show pj_X _ _ G0 8 [(0, .ref 171), (1, .int many)] [.int (pj_fi G0 171 18), .int y1] _
  rw [← hy2, pj_nm_e]
  cases b3 : pj_c1 .ge y1 y2 with
  | true =>
    rw [pj_cT]
    have ub3 := pj_u_geT b3
    refine pj_X_of (fun r h => pj_R_icT 37 rfl rfl b3 h) ?_
    refine pj_X_of (fun r h => pj_R_to (G0, 38, [(0, .ref 171), (1, .int many)], [.int (Int32.ofInt (-1))], 0, 0) 38 2 (fun _ => rfl) h) ?_
    have q4 : (pj_fi G0 171 17).toInt = y1.toInt := by rw [show pj_fi G0 171 17 = y1 from hy1.symm]
    have q5 : (pj_fi G0 171 18).toInt = y2.toInt := by rw [show pj_fi G0 171 18 = y2 from hy2.symm]
    exact pj_X_rt rfl rfl ⟨_, rfl, hI, hK, ⟨by omega, by omega⟩, (fun H hH => by subst hH; exact (⟨by omega, by omega⟩)), rfl⟩
  | false =>
    rw [pj_cF]
    have ub3 := pj_u_geF b3
    refine pj_X_of (fun r h => pj_R_icF rfl b3 h) ?_
    refine pj_X_of (fun r h => pj_R_to (G0, 12, [(0, .ref 171), (1, .int many)], [.ref 171], 0, 0) 12 2 (fun _ => rfl) h) ?_
    refine pj_X_of (fun r h => pj_T_gr hI rfl rfl rfl h) ?_
    refine pj_X_of (fun r h => pj_R_to (G0, 16, [(0, .ref 171), (1, .int many)], [.ref 171, .ref 180], 0, 0) 16 2 (fun _ => rfl) h) ?_
    refine pj_X_of (fun r h => pj_T_gi hI rfl rfl h) ?_
    show pj_X _ _ G0 19 [(0, .ref 171), (1, .int many)] [.int (pj_fi G0 171 17), .ref 180] _
    refine pj_X_eqi (show pj_fi G0 171 17 = y1 from hy1.symm) ?_
    refine pj_X_of (fun r h => pj_T_il hI rfl rfl (by omega) (by omega) h) ?_
    show pj_X _ _ G0 20 [(0, .ref 171), (1, .int many)] [.int (pj_ai G0 180 y1.toInt.toNat)] _
    obtain ⟨z6, hz6⟩ : ∃ z : Int32, z = pj_ai G0 180 y1.toInt.toNat := ⟨_, rfl⟩
    refine pj_X_eqi hz6.symm ?_
    rw [← hz6, pj_nm_e]
    have ez6 : (pj_ai G0 180 y1.toInt.toNat).toInt = z6.toInt := by rw [hz6]
    have fz6_0 : (0 : Int) ≤ z6.toInt ∧ z6.toInt ≤ 255 ∧ (z6.toInt ≤ 0 ∨ 0 ≤ z6.toInt) := by rw [hz6]; exact hI.2.2.1 180 (80, 0, 255, 0, 0) rfl _ (by show _ < 80; omega)
    have gz6 : (pj_ai G0 180 (pj_fi G0 171 17).toInt.toNat).toInt = z6.toInt := by rw [show pj_fi G0 171 17 = y1 from hy1.symm, hz6]
    refine pj_X_of (fun r h => pj_R_to (G0, 28, [(0, .ref 171), (1, .int many)], [.int (((Int8.ofInt 97).toInt32) + many), .long (Int64.ofInt 97), .long z6.toInt64], 0, 0) 28 6 (fun _ => rfl) h) ?_
    obtain ⟨z7, hz7⟩ : ∃ z : Int32, z = ((Int8.ofInt 97).toInt32) + many := ⟨_, rfl⟩
    refine pj_X_eqi hz7.symm ?_
    rw [← hz7, pj_nm_e]
    have fz7_0 : z7.toInt = ((Int8.ofInt 97).toInt32).toInt + many.toInt := by rw [hz7]; exact pj_addI (by have := pj_i32 ((Int8.ofInt 97).toInt32); have := pj_i32 many; omega) (by have := pj_i32 ((Int8.ofInt 97).toInt32); have := pj_i32 many; omega)
    refine pj_X_of (fun r h => pj_R_to (G0, 30, [(0, .ref 171), (1, .int many)], [.int (z7 - (Int32.ofInt 1)), .long (Int64.ofInt 97), .long z6.toInt64], 0, 0) 30 3 (fun _ => rfl) h) ?_
    obtain ⟨z8, hz8⟩ : ∃ z : Int32, z = z7 - (Int32.ofInt 1) := ⟨_, rfl⟩
    refine pj_X_eqi hz8.symm ?_
    rw [← hz8, pj_nm_e]
    have fz8_0 : z8.toInt = z7.toInt - (Int32.ofInt 1).toInt := by rw [hz8]; exact pj_subI (by have := pj_i32 z7; have := pj_i32 (Int32.ofInt 1); omega) (by have := pj_i32 z7; have := pj_i32 (Int32.ofInt 1); omega)
    refine pj_X_of (fun r h => pj_R_to (G0, 31, [(0, .ref 171), (1, .int many)], [.long z8.toInt64, .long (Int64.ofInt 97), .long z6.toInt64], 0, 0) 31 2 (fun _ => rfl) h) ?_
    have q9 : (pj_fi G0 171 17).toInt = y1.toInt := by rw [show pj_fi G0 171 17 = y1 from hy1.symm]
    have q10 : (pj_fi G0 171 18).toInt = y2.toInt := by rw [show pj_fi G0 171 18 = y2 from hy2.symm]
    have lc11 : (z6.toInt64).toInt = z6.toInt := Int32.toInt_toInt64 _
    have lc12 : (Int64.ofInt 97).toInt = 97 := by decide
    have lc13 : (z8.toInt64).toInt = z8.toInt := Int32.toInt_toInt64 _
    refine pj_X_ca (vs := [.long z6.toInt64, .long (Int64.ofInt 97), .long z8.toInt64]) rfl (fun _ => rfl) ⟨Nat.le_of_ble_eq_true rfl, Nat.le_of_ble_eq_true rfl, rfl⟩ ⟨rfl, rfl⟩ (pj_Y_up (by decide) (ct_170x G0 hI z6.toInt64 (Int64.ofInt 97) z8.toInt64)) ?_
    rintro _ _ ⟨y14, rfl, rfl, ry14, ey14, fy14⟩
    rw [← fy14, pj_nm_e]
    show pj_X _ _ G0 34 [(0, .ref 171), (1, .int many)] [.int y14] _
    cases b15 : pj_c1 .ne y14 0 with
    | true =>
      rw [pj_cT]
      have ub15 := pj_u0_neT b15
      refine pj_X_of (fun r h => pj_R_ifT 39 rfl rfl b15 h) ?_
      refine pj_X_of (fun r h => pj_R_to (G0, 41, [(0, .ref 171), (1, .int many)], [.ref 171, .ref 171], 0, 0) 41 3 (fun _ => rfl) h) ?_
      refine pj_X_of (fun r h => pj_T_gi hI rfl rfl h) ?_
      show pj_X _ _ G0 44 [(0, .ref 171), (1, .int many)] [.int (pj_fi G0 171 17), .ref 171] _
      refine pj_X_eqi (show pj_fi G0 171 17 = y1 from hy1.symm) ?_
      refine pj_X_of (fun r h => pj_R_to (G0, 46, [(0, .ref 171), (1, .int many)], [.int (y1 + (Int32.ofInt 1)), .ref 171], 0, 0) 46 3 (fun _ => rfl) h) ?_
      obtain ⟨z16, hz16⟩ : ∃ z : Int32, z = y1 + (Int32.ofInt 1) := ⟨_, rfl⟩
      refine pj_X_eqi hz16.symm ?_
      rw [← hz16, pj_nm_e]
      have fz16_0 : z16.toInt = y1.toInt + (Int32.ofInt 1).toInt := by rw [hz16]; exact pj_addI (by have := pj_i32 y1; have := pj_i32 (Int32.ofInt 1); omega) (by have := pj_i32 y1; have := pj_i32 (Int32.ofInt 1); omega)
      refine pj_X_of (fun r h => pj_T_pf hI rfl rfl rfl h) ?_
      show pj_X _ _ (pj_wv G0 171 17 (.int z16)) 49 [(0, .ref 171), (1, .int many)] [] _
      obtain ⟨G17, hG17⟩ : ∃ H, H = pj_wv G0 171 17 (.int z16) := ⟨_, rfl⟩
      have iG17 : pj_Inv G17 := by rw [hG17]; exact pj_Inv_wi hI (ci := 12) rfl (fun q hq => by cases hq; exact ⟨by show (0 : Int) ≤ _; omega, by show _ ≤ (80 : Int); omega⟩)
      have kG17 : pj_kpt kc_187x G0 G17 := by rw [hG17]; exact pj_kpt_v hK rfl
      rw [← hG17]
      rw [pj_nm_e]
      refine pj_X_of (fun r h => pj_R_to (G17, 50, [(0, .ref 171), (1, .int many)], [.ref 171], 0, 0) 50 2 (fun _ => rfl) h) ?_
      refine pj_X_of (fun r h => pj_T_gr iG17 rfl rfl rfl h) ?_
      refine pj_X_of (fun r h => pj_R_to (G17, 54, [(0, .ref 171), (1, .int many)], [.ref 171, .ref 180], 0, 0) 54 2 (fun _ => rfl) h) ?_
      refine pj_X_of (fun r h => pj_T_gi iG17 rfl rfl h) ?_
      show pj_X _ _ G17 57 [(0, .ref 171), (1, .int many)] [.int (pj_fi G17 171 17), .ref 180] _
      refine pj_X_eqi (show pj_fi G17 171 17 = z16 from by rw [hG17]; exact pj_fi_wi hI.1 (ci := 12) rfl _) ?_
      refine pj_X_of (fun r h => pj_R_to (G17, 59, [(0, .ref 171), (1, .int many)], [.int (z16 - (Int32.ofInt 1)), .ref 180], 0, 0) 59 3 (fun _ => rfl) h) ?_
      obtain ⟨z18, hz18⟩ : ∃ z : Int32, z = z16 - (Int32.ofInt 1) := ⟨_, rfl⟩
      refine pj_X_eqi hz18.symm ?_
      rw [← hz18, pj_nm_e]
      have fz18_0 : z18.toInt = z16.toInt - (Int32.ofInt 1).toInt := by rw [hz18]; exact pj_subI (by have := pj_i32 z16; have := pj_i32 (Int32.ofInt 1); omega) (by have := pj_i32 z16; have := pj_i32 (Int32.ofInt 1); omega)
      refine pj_X_of (fun r h => pj_T_il iG17 rfl rfl (by omega) (by omega) h) ?_
      show pj_X _ _ G17 60 [(0, .ref 171), (1, .int many)] [.int (pj_ai G17 180 z18.toInt.toNat)] _
      obtain ⟨z19, hz19⟩ : ∃ z : Int32, z = pj_ai G17 180 z18.toInt.toNat := ⟨_, rfl⟩
      refine pj_X_eqi hz19.symm ?_
      rw [← hz19, pj_nm_e]
      have ez19 : (pj_ai G17 180 z18.toInt.toNat).toInt = z19.toInt := by rw [hz19]
      have fz19_0 : (0 : Int) ≤ z19.toInt ∧ z19.toInt ≤ 255 ∧ (z19.toInt ≤ 0 ∨ 0 ≤ z19.toInt) := by rw [hz19]; exact iG17.2.2.1 180 (80, 0, 255, 0, 0) rfl _ (by show _ < 80; omega)
      have xz19_z6 : z19.toInt = z6.toInt := by rw [hz19, hG17, pj_ai_wv, show z18.toInt.toNat = y1.toInt.toNat by omega, hz6]
      refine pj_X_of (fun r h => pj_R_to (G17, 63, [(0, .ref 171), (1, .int many)], [.int (z19 - ((Int8.ofInt 97).toInt32))], 0, 0) 63 3 (fun _ => rfl) h) ?_
      obtain ⟨z20, hz20⟩ : ∃ z : Int32, z = z19 - ((Int8.ofInt 97).toInt32) := ⟨_, rfl⟩
      refine pj_X_eqi hz20.symm ?_
      rw [← hz20, pj_nm_e]
      have fz20_0 : z20.toInt = z19.toInt - ((Int8.ofInt 97).toInt32).toInt := by rw [hz20]; exact pj_subI (by have := pj_i32 z19; have := pj_i32 ((Int8.ofInt 97).toInt32); omega) (by have := pj_i32 z19; have := pj_i32 ((Int8.ofInt 97).toInt32); omega)
      have q21 : (pj_fi G17 171 17).toInt = z16.toInt := by rw [show pj_fi G17 171 17 = z16 from by rw [hG17]; exact pj_fi_wi hI.1 (ci := 12) rfl _]
      have q22 : (pj_fi G17 171 18).toInt = y2.toInt := by rw [show pj_fi G17 171 18 = y2 from by rw [hG17, pj_fi_wv_ne _ _ _ _ _ _ (by decide)]; exact hy2.symm]
      exact pj_X_rt rfl rfl ⟨_, rfl, iG17, kG17, ⟨by omega, by omega⟩, (fun H hH => by subst hH; exact (⟨by omega, by omega⟩)), rfl⟩
    | false =>
      rw [pj_cF]
      have ub15 := pj_u0_neF b15
      refine pj_X_of (fun r h => pj_R_ifF rfl b15 h) ?_
      refine pj_X_of (fun r h => pj_R_to (G0, 38, [(0, .ref 171), (1, .int many)], [.int (Int32.ofInt (-1))], 0, 0) 38 2 (fun _ => rfl) h) ?_
      have q23 : (pj_fi G0 171 17).toInt = y1.toInt := by rw [show pj_fi G0 171 17 = y1 from hy1.symm]
      have q24 : (pj_fi G0 171 18).toInt = y2.toInt := by rw [show pj_fi G0 171 18 = y2 from hy2.symm]
      exact pj_X_rt rfl rfl ⟨_, rfl, hI, hK, ⟨by omega, by omega⟩, (fun H hH => by subst hH; exact (⟨by omega, by omega⟩)), rfl⟩
theorem fr_188x (G0 : pj_G) (hI : pj_Inv G0) (many : Int32) (rmany : (0 : Int) ≤ many.toInt ∧ many.toInt ≤ 8) : pj_Inv (F_188x G0 many).2 ∧ pj_kpt kc_187x G0 (F_188x G0 many).2 ∧ ((-1 : Int) ≤ (F_188x G0 many).1.toInt ∧ (F_188x G0 many).1.toInt ≤ 7) ∧ (((F_188x G0 many).1.toInt ≤ many.toInt - 1 ∧ (0 ≤ (F_188x G0 many).1.toInt → (pj_fi (F_188x G0 many).2 171 17).toInt = (pj_fi G0 171 17).toInt + 1) ∧ ((F_188x G0 many).1.toInt < 0 → (pj_fi (F_188x G0 many).2 171 17).toInt = (pj_fi G0 171 17).toInt)) ∧ ((((pj_fi G0 171 17).toInt < (pj_fi G0 171 18).toInt ∧ 97 ≤ (pj_ai G0 180 (pj_fi G0 171 17).toInt.toNat).toInt ∧ (pj_ai G0 180 (pj_fi G0 171 17).toInt.toNat).toInt ≤ 96 + many.toInt) → (F_188x G0 many).1.toInt = (pj_ai G0 180 (pj_fi G0 171 17).toInt.toNat).toInt - 97 ∧ (pj_fi (F_188x G0 many).2 171 17).toInt = (pj_fi G0 171 17).toInt + 1) ∧ (¬ ((pj_fi G0 171 17).toInt < (pj_fi G0 171 18).toInt ∧ 97 ≤ (pj_ai G0 180 (pj_fi G0 171 17).toInt.toNat).toInt ∧ (pj_ai G0 180 (pj_fi G0 171 17).toInt.toNat).toInt ≤ 96 + many.toInt) → (F_188x G0 many).1.toInt = -1 ∧ (pj_fi (F_188x G0 many).2 171 17).toInt = (pj_fi G0 171 17).toInt))) := by
  obtain ⟨v, G', -, y, -, i, j, r, x, e⟩ := ct_187x G0 hI many rmany
  rw [← e]
  exact ⟨i, j, r, x _ rfl⟩
noncomputable def F_189x (G0 : pj_G) (n : Int32) (most : Int32) (is : Int32) : Int32 := cond (pj_c1 .eq is 0) (cond (pj_c1 .le n most) (pj_nm (pj_fi G0 171 17) (fun y1 => pj_nm ((Int32.ofInt (-1)) - y1) (fun z5 => z5))) (pj_nm (pj_fi G0 171 17) (fun y1 => cond (pj_c1 .lt y1 most) (pj_nm ((Int32.ofInt (-1)) - y1) (fun z9 => z9)) (pj_nm ((Int32.ofInt (-1)) - most) (fun z12 => z12))))) (pj_nm (pj_fi G0 171 17) (fun y1 => pj_nm (pj_fi G0 171 18) (fun y2 => cond (pj_c1 .ne y1 y2) (cond (pj_c1 .le n most) (pj_nm ((Int32.ofInt (-1)) - y1) (fun z17 => z17)) (cond (pj_c1 .lt y1 most) (pj_nm ((Int32.ofInt (-1)) - y1) (fun z21 => z21)) (pj_nm ((Int32.ofInt (-1)) - most) (fun z24 => z24)))) (cond (pj_c1 .le n most) (Int32.ofInt 0) (pj_nm ((Int32.ofInt (-1)) - most) (fun z30 => z30))))))
theorem F_189x_e (G0 : pj_G) (n : Int32) (most : Int32) (is : Int32) : F_189x G0 n most is = cond (pj_c1 .eq is 0) (cond (pj_c1 .le n most) (pj_nm (pj_fi G0 171 17) (fun y1 => pj_nm ((Int32.ofInt (-1)) - y1) (fun z5 => z5))) (pj_nm (pj_fi G0 171 17) (fun y1 => cond (pj_c1 .lt y1 most) (pj_nm ((Int32.ofInt (-1)) - y1) (fun z9 => z9)) (pj_nm ((Int32.ofInt (-1)) - most) (fun z12 => z12))))) (pj_nm (pj_fi G0 171 17) (fun y1 => pj_nm (pj_fi G0 171 18) (fun y2 => cond (pj_c1 .ne y1 y2) (cond (pj_c1 .le n most) (pj_nm ((Int32.ofInt (-1)) - y1) (fun z17 => z17)) (cond (pj_c1 .lt y1 most) (pj_nm ((Int32.ofInt (-1)) - y1) (fun z21 => z21)) (pj_nm ((Int32.ofInt (-1)) - most) (fun z24 => z24)))) (cond (pj_c1 .le n most) (Int32.ofInt 0) (pj_nm ((Int32.ofInt (-1)) - most) (fun z30 => z30)))))) := rfl
theorem ct_188x (G0 : pj_G) (hI : pj_Inv G0) (n : Int32) (most : Int32) (is : Int32) (rn : (0 : Int) ≤ n.toInt ∧ n.toInt ≤ 80) (rmost : (0 : Int) ≤ most.toInt ∧ most.toInt ≤ 80) (ris : (0 : Int) ≤ is.toInt ∧ is.toInt ≤ 1) : pj_Y 1 188 [.ref 171, .int n, .int most, .int is] G0 (fun v' G' => ∃ y : Int32, v' = some (.int y) ∧ G0 = G' ∧ ((-81 : Int) ≤ y.toInt ∧ y.toInt ≤ 0) ∧ (∀ H, G0 = H → ((0 ≤ y.toInt → 1 ≤ is.toInt ∧ (pj_fi H 171 17).toInt = (pj_fi H 171 18).toInt) ∧ (((most.toInt < n.toInt ∧ ((1 ≤ is.toInt ∧ (pj_fi H 171 17).toInt = (pj_fi H 171 18).toInt) ∨ most.toInt ≤ (pj_fi H 171 17).toInt)) → y.toInt = -1 - most.toInt) ∧ (¬ (most.toInt < n.toInt ∧ ((1 ≤ is.toInt ∧ (pj_fi H 171 17).toInt = (pj_fi H 171 18).toInt) ∨ most.toInt ≤ (pj_fi H 171 17).toInt)) → ((1 ≤ is.toInt ∧ (pj_fi H 171 17).toInt = (pj_fi H 171 18).toInt) → y.toInt = 0) ∧ (¬ (1 ≤ is.toInt ∧ (pj_fi H 171 17).toInt = (pj_fi H 171 18).toInt) → y.toInt = -1 - (pj_fi H 171 17).toInt))))) ∧ (y = F_189x G0 n most is)) := by
  have c0_ : (Int32.ofInt (-1)).toInt = -1 := by decide
  have c1_ : (Int32.ofInt 0).toInt = 0 := by decide
  have c2_ : (Int32.ofInt 1).toInt = 1 := by decide
  refine pj_Y_X (M := pj_m188) rfl rfl (Nat.le_of_ble_eq_true rfl) ?_
  have hK : pj_kpt ([], [], []) G0 G0 := pj_kpt_r _ _
  show pj_X _ _ G0 0 [(0, .ref 171), (1, .int n), (2, .int most), (3, .int is)] [] _
  rw [F_189x_e]
  obtain ⟨y1, hy1⟩ : ∃ z : Int32, z = pj_fi G0 171 17 := ⟨_, rfl⟩
  have ey1 : (pj_fi G0 171 17).toInt = y1.toInt := by rw [hy1]
  have ry1 : (0 : Int) ≤ y1.toInt ∧ y1.toInt ≤ 80 := by rw [hy1]; exact hI.2.1 171 17 (0, 80) rfl
  obtain ⟨y2, hy2⟩ : ∃ z : Int32, z = pj_fi G0 171 18 := ⟨_, rfl⟩
  have ey2 : (pj_fi G0 171 18).toInt = y2.toInt := by rw [hy2]
  have ry2 : (0 : Int) ≤ y2.toInt ∧ y2.toInt ≤ 80 := by rw [hy2]; exact hI.2.1 171 18 (0, 80) rfl
  refine pj_X_of (fun r h => pj_R_to (G0, 1, [(0, .ref 171), (1, .int n), (2, .int most), (3, .int is)], [.int is], 0, 0) 1 2 (fun _ => rfl) h) ?_
  cases b3 : pj_c1 .eq is 0 with
  | true =>
    rw [pj_cT]
    have ub3 := pj_u0_eqT b3
    refine pj_X_of (fun r h => pj_R_ifT 19 rfl rfl b3 h) ?_
    refine pj_X_of (fun r h => pj_R_to (G0, 24, [(4, .int (Int32.ofInt 0)), (0, .ref 171), (1, .int n), (2, .int most), (3, .int is)], [.int most, .int n], 0, 0) 24 5 (fun _ => rfl) h) ?_
    cases b4 : pj_c1 .le n most with
    | true =>
      rw [pj_cT]
      have ub4 := pj_u_leT b4
      refine pj_X_of (fun r h => pj_R_icT 44 rfl rfl b4 h) ?_
      refine pj_X_of (fun r h => pj_R_to (G0, 46, [(4, .int (Int32.ofInt 0)), (0, .ref 171), (1, .int n), (2, .int most), (3, .int is)], [.int (Int32.ofInt 0)], 0, 0) 46 2 (fun _ => rfl) h) ?_
      refine pj_X_of (fun r h => pj_R_ifT 53 rfl rfl (pj_b0_eqT (by omega)) h) ?_
      refine pj_X_of (fun r h => pj_R_to (G0, 55, [(4, .int (Int32.ofInt 0)), (0, .ref 171), (1, .int n), (2, .int most), (3, .int is)], [.ref 171, .int (Int32.ofInt (-1))], 0, 0) 55 3 (fun _ => rfl) h) ?_
      refine pj_X_of (fun r h => pj_T_gi hI rfl rfl h) ?_
      show pj_X _ _ G0 58 [(4, .int (Int32.ofInt 0)), (0, .ref 171), (1, .int n), (2, .int most), (3, .int is)] [.int (pj_fi G0 171 17), .int (Int32.ofInt (-1))] _
      rw [← hy1, pj_nm_e]
      refine pj_X_of (fun r h => pj_R_to (G0, 59, [(4, .int (Int32.ofInt 0)), (0, .ref 171), (1, .int n), (2, .int most), (3, .int is)], [.int ((Int32.ofInt (-1)) - y1)], 0, 0) 59 2 (fun _ => rfl) h) ?_
      obtain ⟨z5, hz5⟩ : ∃ z : Int32, z = (Int32.ofInt (-1)) - y1 := ⟨_, rfl⟩
      refine pj_X_eqi hz5.symm ?_
      rw [← hz5, pj_nm_e]
      have fz5_0 : z5.toInt = (Int32.ofInt (-1)).toInt - y1.toInt := by rw [hz5]; exact pj_subI (by have := pj_i32 (Int32.ofInt (-1)); have := pj_i32 y1; omega) (by have := pj_i32 (Int32.ofInt (-1)); have := pj_i32 y1; omega)
      have q6 : (pj_fi G0 171 17).toInt = y1.toInt := by rw [show pj_fi G0 171 17 = y1 from hy1.symm]
      have q7 : (pj_fi G0 171 18).toInt = y2.toInt := by rw [show pj_fi G0 171 18 = y2 from hy2.symm]
      exact pj_X_rt rfl rfl ⟨_, rfl, rfl, ⟨by omega, by omega⟩, (fun H hH => by subst hH; exact (⟨by omega, by omega⟩)), rfl⟩
    | false =>
      rw [pj_cF]
      have ub4 := pj_u_leF b4
      refine pj_X_of (fun r h => pj_R_icF rfl b4 h) ?_
      refine pj_X_of (fun r h => pj_R_to (G0, 29, [(4, .int (Int32.ofInt 0)), (0, .ref 171), (1, .int n), (2, .int most), (3, .int is)], [.int (Int32.ofInt 0)], 0, 0) 29 2 (fun _ => rfl) h) ?_
      refine pj_X_of (fun r h => pj_R_ifF rfl (pj_b0_neF (by omega)) h) ?_
      refine pj_X_of (fun r h => pj_R_to (G0, 33, [(4, .int (Int32.ofInt 0)), (0, .ref 171), (1, .int n), (2, .int most), (3, .int is)], [.ref 171], 0, 0) 33 2 (fun _ => rfl) h) ?_
      refine pj_X_of (fun r h => pj_T_gi hI rfl rfl h) ?_
      show pj_X _ _ G0 36 [(4, .int (Int32.ofInt 0)), (0, .ref 171), (1, .int n), (2, .int most), (3, .int is)] [.int (pj_fi G0 171 17)] _
      rw [← hy1, pj_nm_e]
      refine pj_X_of (fun r h => pj_R_to (G0, 37, [(4, .int (Int32.ofInt 0)), (0, .ref 171), (1, .int n), (2, .int most), (3, .int is)], [.int most, .int y1], 0, 0) 37 2 (fun _ => rfl) h) ?_
      cases b8 : pj_c1 .lt y1 most with
      | true =>
        rw [pj_cT]
        have ub8 := pj_u_ltT b8
        refine pj_X_of (fun r h => pj_R_icT 44 rfl rfl b8 h) ?_
        refine pj_X_of (fun r h => pj_R_to (G0, 46, [(4, .int (Int32.ofInt 0)), (0, .ref 171), (1, .int n), (2, .int most), (3, .int is)], [.int (Int32.ofInt 0)], 0, 0) 46 2 (fun _ => rfl) h) ?_
        refine pj_X_of (fun r h => pj_R_ifT 53 rfl rfl (pj_b0_eqT (by omega)) h) ?_
        refine pj_X_of (fun r h => pj_R_to (G0, 55, [(4, .int (Int32.ofInt 0)), (0, .ref 171), (1, .int n), (2, .int most), (3, .int is)], [.ref 171, .int (Int32.ofInt (-1))], 0, 0) 55 3 (fun _ => rfl) h) ?_
        refine pj_X_of (fun r h => pj_T_gi hI rfl rfl h) ?_
        show pj_X _ _ G0 58 [(4, .int (Int32.ofInt 0)), (0, .ref 171), (1, .int n), (2, .int most), (3, .int is)] [.int (pj_fi G0 171 17), .int (Int32.ofInt (-1))] _
        refine pj_X_eqi (show pj_fi G0 171 17 = y1 from hy1.symm) ?_
        refine pj_X_of (fun r h => pj_R_to (G0, 59, [(4, .int (Int32.ofInt 0)), (0, .ref 171), (1, .int n), (2, .int most), (3, .int is)], [.int ((Int32.ofInt (-1)) - y1)], 0, 0) 59 2 (fun _ => rfl) h) ?_
        obtain ⟨z9, hz9⟩ : ∃ z : Int32, z = (Int32.ofInt (-1)) - y1 := ⟨_, rfl⟩
        refine pj_X_eqi hz9.symm ?_
        rw [← hz9, pj_nm_e]
        have fz9_0 : z9.toInt = (Int32.ofInt (-1)).toInt - y1.toInt := by rw [hz9]; exact pj_subI (by have := pj_i32 (Int32.ofInt (-1)); have := pj_i32 y1; omega) (by have := pj_i32 (Int32.ofInt (-1)); have := pj_i32 y1; omega)
        have q10 : (pj_fi G0 171 17).toInt = y1.toInt := by rw [show pj_fi G0 171 17 = y1 from hy1.symm]
        have q11 : (pj_fi G0 171 18).toInt = y2.toInt := by rw [show pj_fi G0 171 18 = y2 from hy2.symm]
        exact pj_X_rt rfl rfl ⟨_, rfl, rfl, ⟨by omega, by omega⟩, (fun H hH => by subst hH; exact (⟨by omega, by omega⟩)), rfl⟩
      | false =>
        rw [pj_cF]
        have ub8 := pj_u_ltF b8
        refine pj_X_of (fun r h => pj_R_icF rfl b8 h) ?_
        refine pj_X_of (fun r h => pj_R_to (G0, 43, [(4, .int (Int32.ofInt 0)), (0, .ref 171), (1, .int n), (2, .int most), (3, .int is)], [.int ((Int32.ofInt (-1)) - most)], 0, 0) 43 4 (fun _ => rfl) h) ?_
        obtain ⟨z12, hz12⟩ : ∃ z : Int32, z = (Int32.ofInt (-1)) - most := ⟨_, rfl⟩
        refine pj_X_eqi hz12.symm ?_
        rw [← hz12, pj_nm_e]
        have fz12_0 : z12.toInt = (Int32.ofInt (-1)).toInt - most.toInt := by rw [hz12]; exact pj_subI (by have := pj_i32 (Int32.ofInt (-1)); have := pj_i32 most; omega) (by have := pj_i32 (Int32.ofInt (-1)); have := pj_i32 most; omega)
        have q13 : (pj_fi G0 171 17).toInt = y1.toInt := by rw [show pj_fi G0 171 17 = y1 from hy1.symm]
        have q14 : (pj_fi G0 171 18).toInt = y2.toInt := by rw [show pj_fi G0 171 18 = y2 from hy2.symm]
        exact pj_X_rt rfl rfl ⟨_, rfl, rfl, ⟨by omega, by omega⟩, (fun H hH => by subst hH; exact (⟨by omega, by omega⟩)), rfl⟩
  | false =>
    rw [pj_cF]
    have ub3 := pj_u0_eqF b3
    refine pj_X_of (fun r h => pj_R_ifF rfl b3 h) ?_
    refine pj_X_of (fun r h => pj_R_to (G0, 5, [(0, .ref 171), (1, .int n), (2, .int most), (3, .int is)], [.ref 171], 0, 0) 5 2 (fun _ => rfl) h) ?_
    refine pj_X_of (fun r h => pj_T_gi hI rfl rfl h) ?_
    show pj_X _ _ G0 8 [(0, .ref 171), (1, .int n), (2, .int most), (3, .int is)] [.int (pj_fi G0 171 17)] _
    rw [← hy1, pj_nm_e]
    refine pj_X_of (fun r h => pj_R_to (G0, 9, [(0, .ref 171), (1, .int n), (2, .int most), (3, .int is)], [.ref 171, .int y1], 0, 0) 9 2 (fun _ => rfl) h) ?_
    refine pj_X_of (fun r h => pj_T_gi hI rfl rfl h) ?_
    show pj_X _ _ G0 12 [(0, .ref 171), (1, .int n), (2, .int most), (3, .int is)] [.int (pj_fi G0 171 18), .int y1] _
    rw [← hy2, pj_nm_e]
    cases b15 : pj_c1 .ne y1 y2 with
    | true =>
      rw [pj_cT]
      have ub15 := pj_u_neT b15
      refine pj_X_of (fun r h => pj_R_icT 19 rfl rfl b15 h) ?_
      refine pj_X_of (fun r h => pj_R_to (G0, 24, [(4, .int (Int32.ofInt 0)), (0, .ref 171), (1, .int n), (2, .int most), (3, .int is)], [.int most, .int n], 0, 0) 24 5 (fun _ => rfl) h) ?_
      cases b16 : pj_c1 .le n most with
      | true =>
        rw [pj_cT]
        have ub16 := pj_u_leT b16
        refine pj_X_of (fun r h => pj_R_icT 44 rfl rfl b16 h) ?_
        refine pj_X_of (fun r h => pj_R_to (G0, 46, [(4, .int (Int32.ofInt 0)), (0, .ref 171), (1, .int n), (2, .int most), (3, .int is)], [.int (Int32.ofInt 0)], 0, 0) 46 2 (fun _ => rfl) h) ?_
        refine pj_X_of (fun r h => pj_R_ifT 53 rfl rfl (pj_b0_eqT (by omega)) h) ?_
        refine pj_X_of (fun r h => pj_R_to (G0, 55, [(4, .int (Int32.ofInt 0)), (0, .ref 171), (1, .int n), (2, .int most), (3, .int is)], [.ref 171, .int (Int32.ofInt (-1))], 0, 0) 55 3 (fun _ => rfl) h) ?_
        refine pj_X_of (fun r h => pj_T_gi hI rfl rfl h) ?_
        show pj_X _ _ G0 58 [(4, .int (Int32.ofInt 0)), (0, .ref 171), (1, .int n), (2, .int most), (3, .int is)] [.int (pj_fi G0 171 17), .int (Int32.ofInt (-1))] _
        refine pj_X_eqi (show pj_fi G0 171 17 = y1 from hy1.symm) ?_
        refine pj_X_of (fun r h => pj_R_to (G0, 59, [(4, .int (Int32.ofInt 0)), (0, .ref 171), (1, .int n), (2, .int most), (3, .int is)], [.int ((Int32.ofInt (-1)) - y1)], 0, 0) 59 2 (fun _ => rfl) h) ?_
        obtain ⟨z17, hz17⟩ : ∃ z : Int32, z = (Int32.ofInt (-1)) - y1 := ⟨_, rfl⟩
        refine pj_X_eqi hz17.symm ?_
        rw [← hz17, pj_nm_e]
        have fz17_0 : z17.toInt = (Int32.ofInt (-1)).toInt - y1.toInt := by rw [hz17]; exact pj_subI (by have := pj_i32 (Int32.ofInt (-1)); have := pj_i32 y1; omega) (by have := pj_i32 (Int32.ofInt (-1)); have := pj_i32 y1; omega)
        have q18 : (pj_fi G0 171 17).toInt = y1.toInt := by rw [show pj_fi G0 171 17 = y1 from hy1.symm]
        have q19 : (pj_fi G0 171 18).toInt = y2.toInt := by rw [show pj_fi G0 171 18 = y2 from hy2.symm]
        exact pj_X_rt rfl rfl ⟨_, rfl, rfl, ⟨by omega, by omega⟩, (fun H hH => by subst hH; exact (⟨by omega, by omega⟩)), rfl⟩
      | false =>
        rw [pj_cF]
        have ub16 := pj_u_leF b16
        refine pj_X_of (fun r h => pj_R_icF rfl b16 h) ?_
        refine pj_X_of (fun r h => pj_R_to (G0, 29, [(4, .int (Int32.ofInt 0)), (0, .ref 171), (1, .int n), (2, .int most), (3, .int is)], [.int (Int32.ofInt 0)], 0, 0) 29 2 (fun _ => rfl) h) ?_
        refine pj_X_of (fun r h => pj_R_ifF rfl (pj_b0_neF (by omega)) h) ?_
        refine pj_X_of (fun r h => pj_R_to (G0, 33, [(4, .int (Int32.ofInt 0)), (0, .ref 171), (1, .int n), (2, .int most), (3, .int is)], [.ref 171], 0, 0) 33 2 (fun _ => rfl) h) ?_
        refine pj_X_of (fun r h => pj_T_gi hI rfl rfl h) ?_
        show pj_X _ _ G0 36 [(4, .int (Int32.ofInt 0)), (0, .ref 171), (1, .int n), (2, .int most), (3, .int is)] [.int (pj_fi G0 171 17)] _
        refine pj_X_eqi (show pj_fi G0 171 17 = y1 from hy1.symm) ?_
        refine pj_X_of (fun r h => pj_R_to (G0, 37, [(4, .int (Int32.ofInt 0)), (0, .ref 171), (1, .int n), (2, .int most), (3, .int is)], [.int most, .int y1], 0, 0) 37 2 (fun _ => rfl) h) ?_
        cases b20 : pj_c1 .lt y1 most with
        | true =>
          rw [pj_cT]
          have ub20 := pj_u_ltT b20
          refine pj_X_of (fun r h => pj_R_icT 44 rfl rfl b20 h) ?_
          refine pj_X_of (fun r h => pj_R_to (G0, 46, [(4, .int (Int32.ofInt 0)), (0, .ref 171), (1, .int n), (2, .int most), (3, .int is)], [.int (Int32.ofInt 0)], 0, 0) 46 2 (fun _ => rfl) h) ?_
          refine pj_X_of (fun r h => pj_R_ifT 53 rfl rfl (pj_b0_eqT (by omega)) h) ?_
          refine pj_X_of (fun r h => pj_R_to (G0, 55, [(4, .int (Int32.ofInt 0)), (0, .ref 171), (1, .int n), (2, .int most), (3, .int is)], [.ref 171, .int (Int32.ofInt (-1))], 0, 0) 55 3 (fun _ => rfl) h) ?_
          refine pj_X_of (fun r h => pj_T_gi hI rfl rfl h) ?_
          show pj_X _ _ G0 58 [(4, .int (Int32.ofInt 0)), (0, .ref 171), (1, .int n), (2, .int most), (3, .int is)] [.int (pj_fi G0 171 17), .int (Int32.ofInt (-1))] _
          refine pj_X_eqi (show pj_fi G0 171 17 = y1 from hy1.symm) ?_
          refine pj_X_of (fun r h => pj_R_to (G0, 59, [(4, .int (Int32.ofInt 0)), (0, .ref 171), (1, .int n), (2, .int most), (3, .int is)], [.int ((Int32.ofInt (-1)) - y1)], 0, 0) 59 2 (fun _ => rfl) h) ?_
          obtain ⟨z21, hz21⟩ : ∃ z : Int32, z = (Int32.ofInt (-1)) - y1 := ⟨_, rfl⟩
          refine pj_X_eqi hz21.symm ?_
          rw [← hz21, pj_nm_e]
          have fz21_0 : z21.toInt = (Int32.ofInt (-1)).toInt - y1.toInt := by rw [hz21]; exact pj_subI (by have := pj_i32 (Int32.ofInt (-1)); have := pj_i32 y1; omega) (by have := pj_i32 (Int32.ofInt (-1)); have := pj_i32 y1; omega)
          have q22 : (pj_fi G0 171 17).toInt = y1.toInt := by rw [show pj_fi G0 171 17 = y1 from hy1.symm]
          have q23 : (pj_fi G0 171 18).toInt = y2.toInt := by rw [show pj_fi G0 171 18 = y2 from hy2.symm]
          exact pj_X_rt rfl rfl ⟨_, rfl, rfl, ⟨by omega, by omega⟩, (fun H hH => by subst hH; exact (⟨by omega, by omega⟩)), rfl⟩
        | false =>
          rw [pj_cF]
          have ub20 := pj_u_ltF b20
          refine pj_X_of (fun r h => pj_R_icF rfl b20 h) ?_
          refine pj_X_of (fun r h => pj_R_to (G0, 43, [(4, .int (Int32.ofInt 0)), (0, .ref 171), (1, .int n), (2, .int most), (3, .int is)], [.int ((Int32.ofInt (-1)) - most)], 0, 0) 43 4 (fun _ => rfl) h) ?_
          obtain ⟨z24, hz24⟩ : ∃ z : Int32, z = (Int32.ofInt (-1)) - most := ⟨_, rfl⟩
          refine pj_X_eqi hz24.symm ?_
          rw [← hz24, pj_nm_e]
          have fz24_0 : z24.toInt = (Int32.ofInt (-1)).toInt - most.toInt := by rw [hz24]; exact pj_subI (by have := pj_i32 (Int32.ofInt (-1)); have := pj_i32 most; omega) (by have := pj_i32 (Int32.ofInt (-1)); have := pj_i32 most; omega)
          have q25 : (pj_fi G0 171 17).toInt = y1.toInt := by rw [show pj_fi G0 171 17 = y1 from hy1.symm]
          have q26 : (pj_fi G0 171 18).toInt = y2.toInt := by rw [show pj_fi G0 171 18 = y2 from hy2.symm]
          exact pj_X_rt rfl rfl ⟨_, rfl, rfl, ⟨by omega, by omega⟩, (fun H hH => by subst hH; exact (⟨by omega, by omega⟩)), rfl⟩
    | false =>
      rw [pj_cF]
      have ub15 := pj_u_neF b15
      refine pj_X_of (fun r h => pj_R_icF rfl b15 h) ?_
      refine pj_X_of (fun r h => pj_R_to (G0, 24, [(4, .int (Int32.ofInt 1)), (0, .ref 171), (1, .int n), (2, .int most), (3, .int is)], [.int most, .int n], 0, 0) 24 6 (fun _ => rfl) h) ?_
      cases b27 : pj_c1 .le n most with
      | true =>
        rw [pj_cT]
        have ub27 := pj_u_leT b27
        refine pj_X_of (fun r h => pj_R_icT 44 rfl rfl b27 h) ?_
        refine pj_X_of (fun r h => pj_R_to (G0, 46, [(4, .int (Int32.ofInt 1)), (0, .ref 171), (1, .int n), (2, .int most), (3, .int is)], [.int (Int32.ofInt 1)], 0, 0) 46 2 (fun _ => rfl) h) ?_
        refine pj_X_of (fun r h => pj_R_ifF rfl (pj_b0_eqF (by omega)) h) ?_
        refine pj_X_of (fun r h => pj_R_to (G0, 59, [(4, .int (Int32.ofInt 1)), (0, .ref 171), (1, .int n), (2, .int most), (3, .int is)], [.int (Int32.ofInt 0)], 0, 0) 59 3 (fun _ => rfl) h) ?_
        have q28 : (pj_fi G0 171 17).toInt = y1.toInt := by rw [show pj_fi G0 171 17 = y1 from hy1.symm]
        have q29 : (pj_fi G0 171 18).toInt = y2.toInt := by rw [show pj_fi G0 171 18 = y2 from hy2.symm]
        exact pj_X_rt rfl rfl ⟨_, rfl, rfl, ⟨by omega, by omega⟩, (fun H hH => by subst hH; exact (⟨by omega, by omega⟩)), rfl⟩
      | false =>
        rw [pj_cF]
        have ub27 := pj_u_leF b27
        refine pj_X_of (fun r h => pj_R_icF rfl b27 h) ?_
        refine pj_X_of (fun r h => pj_R_to (G0, 29, [(4, .int (Int32.ofInt 1)), (0, .ref 171), (1, .int n), (2, .int most), (3, .int is)], [.int (Int32.ofInt 1)], 0, 0) 29 2 (fun _ => rfl) h) ?_
        refine pj_X_of (fun r h => pj_R_ifT 40 rfl rfl (pj_b0_neT (by omega)) h) ?_
        refine pj_X_of (fun r h => pj_R_to (G0, 43, [(4, .int (Int32.ofInt 1)), (0, .ref 171), (1, .int n), (2, .int most), (3, .int is)], [.int ((Int32.ofInt (-1)) - most)], 0, 0) 43 4 (fun _ => rfl) h) ?_
        obtain ⟨z30, hz30⟩ : ∃ z : Int32, z = (Int32.ofInt (-1)) - most := ⟨_, rfl⟩
        refine pj_X_eqi hz30.symm ?_
        rw [← hz30, pj_nm_e]
        have fz30_0 : z30.toInt = (Int32.ofInt (-1)).toInt - most.toInt := by rw [hz30]; exact pj_subI (by have := pj_i32 (Int32.ofInt (-1)); have := pj_i32 most; omega) (by have := pj_i32 (Int32.ofInt (-1)); have := pj_i32 most; omega)
        have q31 : (pj_fi G0 171 17).toInt = y1.toInt := by rw [show pj_fi G0 171 17 = y1 from hy1.symm]
        have q32 : (pj_fi G0 171 18).toInt = y2.toInt := by rw [show pj_fi G0 171 18 = y2 from hy2.symm]
        exact pj_X_rt rfl rfl ⟨_, rfl, rfl, ⟨by omega, by omega⟩, (fun H hH => by subst hH; exact (⟨by omega, by omega⟩)), rfl⟩
theorem fr_189x (G0 : pj_G) (hI : pj_Inv G0) (n : Int32) (most : Int32) (is : Int32) (rn : (0 : Int) ≤ n.toInt ∧ n.toInt ≤ 80) (rmost : (0 : Int) ≤ most.toInt ∧ most.toInt ≤ 80) (ris : (0 : Int) ≤ is.toInt ∧ is.toInt ≤ 1) : ((-81 : Int) ≤ (F_189x G0 n most is).toInt ∧ (F_189x G0 n most is).toInt ≤ 0) ∧ ((0 ≤ (F_189x G0 n most is).toInt → 1 ≤ is.toInt ∧ (pj_fi G0 171 17).toInt = (pj_fi G0 171 18).toInt) ∧ (((most.toInt < n.toInt ∧ ((1 ≤ is.toInt ∧ (pj_fi G0 171 17).toInt = (pj_fi G0 171 18).toInt) ∨ most.toInt ≤ (pj_fi G0 171 17).toInt)) → (F_189x G0 n most is).toInt = -1 - most.toInt) ∧ (¬ (most.toInt < n.toInt ∧ ((1 ≤ is.toInt ∧ (pj_fi G0 171 17).toInt = (pj_fi G0 171 18).toInt) ∨ most.toInt ≤ (pj_fi G0 171 17).toInt)) → ((1 ≤ is.toInt ∧ (pj_fi G0 171 17).toInt = (pj_fi G0 171 18).toInt) → (F_189x G0 n most is).toInt = 0) ∧ (¬ (1 ≤ is.toInt ∧ (pj_fi G0 171 17).toInt = (pj_fi G0 171 18).toInt) → (F_189x G0 n most is).toInt = -1 - (pj_fi G0 171 17).toInt)))) := by
  obtain ⟨v, G', -, y, -, rfl, r, x, e⟩ := ct_188x G0 hI n most is rn rmost ris
  rw [← e]
  exact ⟨r, x _ rfl⟩
