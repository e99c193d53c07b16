def kc_193_1x : pj_KT := ([(171, 17), (171, 22)], [171, 181], [181])
noncomputable def F_194_1x (G0 : pj_G) (is : Int32) : Int32 × pj_G := pj_nm (pj_fi G0 171 5) (fun y2 => pj_nm (pj_fi G0 171 22) (fun y1 => pj_nm (y2 + y1) (fun z4 => cond (pj_c1 .ne z4 ((Int8.ofInt 6).toInt32)) (pj_nm ((Int32.ofInt 2) * y1) (fun z6 => pj_bd (F_186_s9x G0) (fun y10 G11 => pj_nm ((Int32.ofInt 1) + y10) (fun z18 => pj_nm (pj_wa G11 181 z6.toInt.toNat z18) (fun G19 => pj_nm (pj_ai G19 181 z6.toInt.toNat) (fun z20 => cond (pj_c1 .eq z20 0) ((Int32.ofInt 0, G19)) (cond (pj_c1 .ge z20 0) (pj_nm (z6 + (Int32.ofInt 1)) (fun z27 => pj_bd (F_187ex G19 (Int32.ofInt 1)) (fun y31 G32 => pj_nm (pj_wa G32 181 z27.toInt.toNat y31) (fun G39 => pj_nm (pj_fi G32 171 22) (fun y36 => pj_nm (y36 + (Int32.ofInt 1)) (fun z40 => pj_nm (pj_wv G39 171 22 (.int z40)) (fun G41 => pj_nm (pj_ai G41 181 z27.toInt.toNat) (fun z42 => cond (pj_c1 .lt z42 0) ((Int32.ofInt 0, G41)) ((Int32.ofInt 1, G41)))))))))) ((Int32.ofInt 0, G19))))))))) ((Int32.ofInt 0, G0)))))
theorem F_194_1x_e (G0 : pj_G) (is : Int32) : F_194_1x G0 is = pj_nm (pj_fi G0 171 5) (fun y2 => pj_nm (pj_fi G0 171 22) (fun y1 => pj_nm (y2 + y1) (fun z4 => cond (pj_c1 .ne z4 ((Int8.ofInt 6).toInt32)) (pj_nm ((Int32.ofInt 2) * y1) (fun z6 => pj_bd (F_186_s9x G0) (fun y10 G11 => pj_nm ((Int32.ofInt 1) + y10) (fun z18 => pj_nm (pj_wa G11 181 z6.toInt.toNat z18) (fun G19 => pj_nm (pj_ai G19 181 z6.toInt.toNat) (fun z20 => cond (pj_c1 .eq z20 0) ((Int32.ofInt 0, G19)) (cond (pj_c1 .ge z20 0) (pj_nm (z6 + (Int32.ofInt 1)) (fun z27 => pj_bd (F_187ex G19 (Int32.ofInt 1)) (fun y31 G32 => pj_nm (pj_wa G32 181 z27.toInt.toNat y31) (fun G39 => pj_nm (pj_fi G32 171 22) (fun y36 => pj_nm (y36 + (Int32.ofInt 1)) (fun z40 => pj_nm (pj_wv G39 171 22 (.int z40)) (fun G41 => pj_nm (pj_ai G41 181 z27.toInt.toNat) (fun z42 => cond (pj_c1 .lt z42 0) ((Int32.ofInt 0, G41)) ((Int32.ofInt 1, G41)))))))))) ((Int32.ofInt 0, G19))))))))) ((Int32.ofInt 0, G0))))) := rfl
theorem ct_193_1x (G0 : pj_G) (hI : pj_Inv G0) (is : Int32) (ris : (1 : Int) ≤ is.toInt ∧ is.toInt ≤ 1) (p0_ : (pj_fi G0 171 5).toInt + (pj_fi G0 171 22).toInt ≤ 6) : pj_Y 17 193 [.ref 171, .int is] G0 (fun v' G' => ∃ y : Int32, v' = some (.int y) ∧ pj_Inv G' ∧ pj_kpt kc_193_1x G0 G' ∧ ((0 : Int) ≤ y.toInt ∧ y.toInt ≤ 1) ∧ (∀ H, G0 = H → (((pj_fi H 171 22).toInt ≤ (pj_fi G' 171 22).toInt ∧ (pj_fi G' 171 22).toInt ≤ (pj_fi H 171 22).toInt + 1 ∧ (pj_fi G' 171 5).toInt + (pj_fi G' 171 22).toInt ≤ 6) ∧ (1 ≤ y.toInt → (pj_fi G' 171 22).toInt = (pj_fi H 171 22).toInt + 1))) ∧ ((y, G') = F_194_1x G0 is)) := by
  have c0_ : ((Int8.ofInt 6).toInt32).toInt = 6 := by decide
  have c1_ : (Int32.ofInt 0).toInt = 0 := by decide
  have c2_ : (Int32.ofInt 1).toInt = 1 := by decide
  have c3_ : (Int32.ofInt 2).toInt = 2 := by decide
  refine pj_Y_X (M := pj_m193) rfl rfl (Nat.le_of_ble_eq_true rfl) ?_
  have hK : pj_kpt kc_193_1x G0 G0 := pj_kpt_r _ _
  show pj_X _ _ G0 0 [(0, .ref 171), (1, .int is)] [] _
  rw [F_194_1x_e]
  obtain ⟨y1, hy1⟩ : ∃ z : Int32, z = pj_fi G0 171 22 := ⟨_, rfl⟩
  have ey1 : (pj_fi G0 171 22).toInt = y1.toInt := by rw [hy1]
  have ry1 : (0 : Int) ≤ y1.toInt ∧ y1.toInt ≤ 10 := by rw [hy1]; exact hI.2.1 171 22 (0, 10) rfl
  obtain ⟨y2, hy2⟩ : ∃ z : Int32, z = pj_fi G0 171 5 := ⟨_, rfl⟩
  have ey2 : (pj_fi G0 171 5).toInt = y2.toInt := by rw [hy2]
  have ry2 : (0 : Int) ≤ y2.toInt ∧ y2.toInt ≤ 6 := by rw [hy2]; exact hI.2.1 171 5 (0, 6) rfl
  obtain ⟨y3, hy3⟩ : ∃ z : Int32, z = pj_fi G0 171 3 := ⟨_, rfl⟩
  have ey3 : (pj_fi G0 171 3).toInt = y3.toInt := by rw [hy3]
  have ry3 : (0 : Int) ≤ y3.toInt ∧ y3.toInt ≤ 8 := by rw [hy3]; exact hI.2.1 171 3 (0, 8) rfl
  refine pj_X_of (fun r h => pj_R_to (G0, 1, [(0, .ref 171), (1, .int is)], [.int is], 0, 0) 1 2 (fun _ => rfl) h) ?_
  refine pj_X_of (fun r h => pj_R_ifF rfl (pj_b0_eqF (by omega)) h) ?_
  refine pj_X_of (fun r h => pj_R_to (G0, 5, [(0, .ref 171), (1, .int is)], [.ref 171], 0, 0) 5 2 (fun _ => rfl) h) ?_
  refine pj_X_of (fun r h => pj_T_gi hI rfl rfl h) ?_
  show pj_X _ _ G0 8 [(0, .ref 171), (1, .int is)] [.int (pj_fi G0 171 5)] _
  rw [← hy2, pj_nm_e]
  refine pj_X_of (fun r h => pj_R_to (G0, 18, [(2, .int y2), (0, .ref 171), (1, .int is)], [.ref 171, .int y2], 0, 0) 18 5 (fun _ => rfl) h) ?_
  refine pj_X_of (fun r h => pj_T_gi hI rfl rfl h) ?_
  show pj_X _ _ G0 21 [(2, .int y2), (0, .ref 171), (1, .int is)] [.int (pj_fi G0 171 22), .int y2] _
  rw [← hy1, pj_nm_e]
  refine pj_X_of (fun r h => pj_R_to (G0, 22, [(2, .int y2), (0, .ref 171), (1, .int is)], [.int (y2 + y1)], 0, 0) 22 2 (fun _ => rfl) h) ?_
  obtain ⟨z4, hz4⟩ : ∃ z : Int32, z = y2 + y1 := ⟨_, rfl⟩
  refine pj_X_eqi hz4.symm ?_
  rw [← hz4, pj_nm_e]
  have fz4_0 : z4.toInt = y2.toInt + y1.toInt := by rw [hz4]; exact pj_addI (by have := pj_i32 y2; have := pj_i32 y1; omega) (by have := pj_i32 y2; have := pj_i32 y1; omega)
  refine pj_X_of (fun r h => pj_R_to (G0, 23, [(2, .int y2), (0, .ref 171), (1, .int is)], [.int is, .int z4], 0, 0) 23 2 (fun _ => rfl) h) ?_
  refine pj_X_of (fun r h => pj_R_ifF rfl (pj_b0_eqF (by omega)) h) ?_
  refine pj_X_of (fun r h => pj_R_to (G0, 33, [(2, .int y2), (0, .ref 171), (1, .int is)], [.int ((Int8.ofInt 6).toInt32), .int z4], 0, 0) 33 3 (fun _ => rfl) h) ?_
  cases b5 : pj_c1 .ne z4 ((Int8.ofInt 6).toInt32) with
  | true =>
    rw [pj_cT]
    have ub5 := pj_u_neT b5
    refine pj_X_of (fun r h => pj_R_icT 38 rfl rfl b5 h) ?_
    refine pj_X_of (fun r h => pj_R_to (G0, 40, [(2, .int y2), (0, .ref 171), (1, .int is)], [.ref 171, .int (Int32.ofInt 2)], 0, 0) 40 3 (fun _ => rfl) h) ?_
    refine pj_X_of (fun r h => pj_T_gi hI rfl rfl h) ?_
    show pj_X _ _ G0 43 [(2, .int y2), (0, .ref 171), (1, .int is)] [.int (pj_fi G0 171 22), .int (Int32.ofInt 2)] _
    refine pj_X_eqi (show pj_fi G0 171 22 = y1 from hy1.symm) ?_
    refine pj_X_of (fun r h => pj_R_to (G0, 44, [(2, .int y2), (0, .ref 171), (1, .int is)], [.int ((Int32.ofInt 2) * y1)], 0, 0) 44 2 (fun _ => rfl) h) ?_
    obtain ⟨z6, hz6⟩ : ∃ z : Int32, z = (Int32.ofInt 2) * y1 := ⟨_, rfl⟩
    refine pj_X_eqi hz6.symm ?_
    rw [← hz6, pj_nm_e]
    have fz6_0 : z6.toInt = 2 * y1.toInt := by rw [hz6]; exact pj_mulL (by decide) (by omega) (by omega)
    refine pj_X_of (fun r h => pj_R_to (G0, 46, [(3, .int z6), (2, .int y2), (0, .ref 171), (1, .int is)], [.ref 171], 0, 0) 46 3 (fun _ => rfl) h) ?_
    refine pj_X_of (fun r h => pj_T_gr hI rfl rfl rfl h) ?_
    refine pj_X_of (fun r h => pj_R_to (G0, 51, [(3, .int z6), (2, .int y2), (0, .ref 171), (1, .int is)], [.int is, .int z6, .ref 181], 0, 0) 51 3 (fun _ => rfl) h) ?_
    refine pj_X_of (fun r h => pj_R_ifF rfl (pj_b0_eqF (by omega)) h) ?_
    refine pj_X_of (fun r h => pj_R_to (G0, 58, [(3, .int z6), (2, .int y2), (0, .ref 171), (1, .int is)], [.retAddr 9, .ref 171, .int (Int32.ofInt 1), .int z6, .ref 181], 0, 0) 58 4 (fun _ => rfl) h) ?_
    have q7 : (pj_fi G0 171 22).toInt = y1.toInt := by rw [show pj_fi G0 171 22 = y1 from hy1.symm]
    have q8 : (pj_fi G0 171 5).toInt = y2.toInt := by rw [show pj_fi G0 171 5 = y2 from hy2.symm]
    have q9 : (pj_fi G0 171 3).toInt = y3.toInt := by rw [show pj_fi G0 171 3 = y3 from hy3.symm]
    refine pj_X_ca (vs := [.ref 171, .retAddr 9]) rfl (fun _ => rfl) ⟨Nat.le_of_ble_eq_true rfl, Nat.le_of_ble_eq_true rfl, pj_T_rcv hI rfl⟩ ⟨rfl, rfl⟩ (pj_Y_up (by decide) (ct_185_s9x G0 hI)) ?_
    rintro _ G11 ⟨y10, rfl, iG11, jG11, ry10, ey10, fy10⟩
    replace ey10 := ey10 _ rfl
    rw [← fy10, pj_bd_e]
    have kG11 : pj_kpt kc_193_1x G0 G11 := pj_kpt_t hK (pj_kpt_s jG11 rfl)
    have q12 : (pj_fi G11 171 22).toInt = (pj_fi G0 171 22).toInt := by rw [jG11.1 (171, 22) (by decide)]
    have q13 : (pj_fi G11 171 5).toInt = (pj_fi G0 171 5).toInt := by rw [jG11.1 (171, 5) (by decide)]
    have q14 : (pj_fi G11 171 3).toInt = (pj_fi G0 171 3).toInt := by rw [jG11.1 (171, 3) (by decide)]
    obtain ⟨y15, hy15⟩ : ∃ z : Int32, z = pj_fi G11 171 22 := ⟨_, rfl⟩
    have ey15 : (pj_fi G11 171 22).toInt = y15.toInt := by rw [hy15]
    have ry15 : (0 : Int) ≤ y15.toInt ∧ y15.toInt ≤ 10 := by rw [hy15]; exact iG11.2.1 171 22 (0, 10) rfl
    obtain ⟨y16, hy16⟩ : ∃ z : Int32, z = pj_fi G11 171 5 := ⟨_, rfl⟩
    have ey16 : (pj_fi G11 171 5).toInt = y16.toInt := by rw [hy16]
    have ry16 : (0 : Int) ≤ y16.toInt ∧ y16.toInt ≤ 6 := by rw [hy16]; exact iG11.2.1 171 5 (0, 6) rfl
    obtain ⟨y17, hy17⟩ : ∃ z : Int32, z = pj_fi G11 171 3 := ⟨_, rfl⟩
    have ey17 : (pj_fi G11 171 3).toInt = y17.toInt := by rw [hy17]
    have ry17 : (0 : Int) ≤ y17.toInt ∧ y17.toInt ≤ 8 := by rw [hy17]; exact iG11.2.1 171 3 (0, 8) rfl
    show pj_X _ _ G11 61 [(3, .int z6), (2, .int y2), (0, .ref 171), (1, .int is)] [.int y10, .int (Int32.ofInt 1), .int z6, .ref 181] _
    refine pj_X_of (fun r h => pj_R_to (G11, 62, [(3, .int z6), (2, .int y2), (0, .ref 171), (1, .int is)], [.int ((Int32.ofInt 1) + y10), .int z6, .ref 181], 0, 0) 62 2 (fun _ => rfl) h) ?_
    obtain ⟨z18, hz18⟩ : ∃ z : Int32, z = (Int32.ofInt 1) + y10 := ⟨_, rfl⟩
    refine pj_X_eqi hz18.symm ?_
    rw [← hz18, pj_nm_e]
    have fz18_0 : z18.toInt = (Int32.ofInt 1).toInt + y10.toInt := by rw [hz18]; exact pj_addI (by have := pj_i32 (Int32.ofInt 1); have := pj_i32 y10; omega) (by have := pj_i32 (Int32.ofInt 1); have := pj_i32 y10; omega)
    refine pj_X_of (fun r h => pj_R_to (G11, 73, [(3, .int z6), (2, .int y2), (0, .ref 171), (1, .int is)], [.int z18, .int z6, .ref 181], 0, 0) 73 2 (fun _ => rfl) h) ?_
    refine pj_X_of (fun r h => pj_T_is iG11 rfl rfl (by omega) (by omega) h) ?_
    show pj_X _ _ (pj_wa G11 181 z6.toInt.toNat z18) 74 [(3, .int z6), (2, .int y2), (0, .ref 171), (1, .int is)] [] _
    obtain ⟨G19, hG19⟩ : ∃ H, H = pj_wa G11 181 z6.toInt.toNat z18 := ⟨_, rfl⟩
    have iG19 : pj_Inv G19 := by rw [hG19]; exact pj_Inv_wa iG11 rfl (fun q hq => by cases hq; exact ⟨by show (-1 : Int) ≤ _; omega, by show _ ≤ (99 : Int); omega, by show _ ≤ (-1 : Int) ∨ (-1 : Int) ≤ _; omega⟩) (fun n hn => by cases hn)
    have kG19 : pj_kpt kc_193_1x G0 G19 := by rw [hG19]; exact pj_kpt_a kG11 rfl
    rw [← hG19]
    rw [pj_nm_e]
    refine pj_X_of (fun r h => pj_R_to (G19, 75, [(3, .int z6), (2, .int y2), (0, .ref 171), (1, .int is)], [.int is], 0, 0) 75 2 (fun _ => rfl) h) ?_
    refine pj_X_of (fun r h => pj_R_ifF rfl (pj_b0_eqF (by omega)) h) ?_
    refine pj_X_of (fun r h => pj_R_to (G19, 79, [(3, .int z6), (2, .int y2), (0, .ref 171), (1, .int is)], [.ref 171], 0, 0) 79 2 (fun _ => rfl) h) ?_
    refine pj_X_of (fun r h => pj_T_gr iG19 rfl rfl rfl h) ?_
    refine pj_X_of (fun r h => pj_R_to (G19, 83, [(3, .int z6), (2, .int y2), (0, .ref 171), (1, .int is)], [.int z6, .ref 181], 0, 0) 83 2 (fun _ => rfl) h) ?_
    refine pj_X_of (fun r h => pj_T_il iG19 rfl rfl (by omega) (by omega) h) ?_
    show pj_X _ _ G19 84 [(3, .int z6), (2, .int y2), (0, .ref 171), (1, .int is)] [.int (pj_ai G19 181 z6.toInt.toNat)] _
    obtain ⟨z20, hz20⟩ : ∃ z : Int32, z = pj_ai G19 181 z6.toInt.toNat := ⟨_, rfl⟩
    refine pj_X_eqi hz20.symm ?_
    rw [← hz20, pj_nm_e]
    have ez20 : (pj_ai G19 181 z6.toInt.toNat).toInt = z20.toInt := by rw [hz20]
    have fz20_0 : (-1 : Int) ≤ z20.toInt ∧ z20.toInt ≤ 99 ∧ (z20.toInt ≤ -1 ∨ -1 ≤ z20.toInt) := by rw [hz20]; exact iG19.2.2.1 181 (40, -1, 99, -1, -1) rfl _ (by show _ < 40; omega)
    have x21 : z20.toInt = z18.toInt := by rw [hz20, show z6.toInt.toNat = z6.toInt.toNat by omega, hG19, pj_ai_wa_eq iG11.1 rfl]
    cases b22 : pj_c1 .eq z20 0 with
    | true =>
      rw [pj_cT]
      have ub22 := pj_u0_eqT b22
      refine pj_X_of (fun r h => pj_R_ifT 96 rfl rfl b22 h) ?_
      refine pj_X_of (fun r h => pj_R_to (G19, 97, [(3, .int z6), (2, .int y2), (0, .ref 171), (1, .int is)], [.int (Int32.ofInt 0)], 0, 0) 97 2 (fun _ => rfl) h) ?_
      have q23 : (pj_fi G19 171 22).toInt = y15.toInt := by rw [show pj_fi G19 171 22 = y15 from by rw [hG19, pj_fi_wa]; exact hy15.symm]
      have q24 : (pj_fi G19 171 5).toInt = y16.toInt := by rw [show pj_fi G19 171 5 = y16 from by rw [hG19, pj_fi_wa]; exact hy16.symm]
      have q25 : (pj_fi G19 171 3).toInt = y17.toInt := by rw [show pj_fi G19 171 3 = y17 from by rw [hG19, pj_fi_wa]; exact hy17.symm]
      exact pj_X_rt rfl rfl ⟨_, rfl, iG19, kG19, ⟨by omega, by omega⟩, (fun H hH => by subst hH; exact (⟨by omega, fun q => by omega⟩)), rfl⟩
    | false =>
      rw [pj_cF]
      have ub22 := pj_u0_eqF b22
      refine pj_X_of (fun r h => pj_R_ifF rfl b22 h) ?_
      refine pj_X_of (fun r h => pj_R_to (G19, 88, [(3, .int z6), (2, .int y2), (0, .ref 171), (1, .int is)], [.ref 171], 0, 0) 88 2 (fun _ => rfl) h) ?_
      refine pj_X_of (fun r h => pj_T_gr iG19 rfl rfl rfl h) ?_
      refine pj_X_of (fun r h => pj_R_to (G19, 92, [(3, .int z6), (2, .int y2), (0, .ref 171), (1, .int is)], [.int z6, .ref 181], 0, 0) 92 2 (fun _ => rfl) h) ?_
      refine pj_X_of (fun r h => pj_T_il iG19 rfl rfl (by omega) (by omega) h) ?_
      show pj_X _ _ G19 93 [(3, .int z6), (2, .int y2), (0, .ref 171), (1, .int is)] [.int (pj_ai G19 181 z6.toInt.toNat)] _
      refine pj_X_eqi hz20.symm ?_
      cases b26 : pj_c1 .ge z20 0 with
      | true =>
        rw [pj_cT]
        have ub26 := pj_u0_geT b26
        refine pj_X_of (fun r h => pj_R_ifT 98 rfl rfl b26 h) ?_
        refine pj_X_of (fun r h => pj_R_to (G19, 99, [(3, .int z6), (2, .int y2), (0, .ref 171), (1, .int is)], [.ref 171], 0, 0) 99 2 (fun _ => rfl) h) ?_
        refine pj_X_of (fun r h => pj_T_gr iG19 rfl rfl rfl h) ?_
        refine pj_X_of (fun r h => pj_R_to (G19, 105, [(3, .int z6), (2, .int y2), (0, .ref 171), (1, .int is)], [.int (z6 + (Int32.ofInt 1)), .ref 181], 0, 0) 105 4 (fun _ => rfl) h) ?_
        obtain ⟨z27, hz27⟩ : ∃ z : Int32, z = z6 + (Int32.ofInt 1) := ⟨_, rfl⟩
        refine pj_X_eqi hz27.symm ?_
        rw [← hz27, pj_nm_e]
        have fz27_0 : z27.toInt = z6.toInt + (Int32.ofInt 1).toInt := by rw [hz27]; exact pj_addI (by have := pj_i32 z6; have := pj_i32 (Int32.ofInt 1); omega) (by have := pj_i32 z6; have := pj_i32 (Int32.ofInt 1); omega)
        refine pj_X_of (fun r h => pj_R_to (G19, 106, [(3, .int z6), (2, .int y2), (0, .ref 171), (1, .int is)], [.int is, .int z27, .ref 181], 0, 0) 106 2 (fun _ => rfl) h) ?_
        refine pj_X_of (fun r h => pj_R_ifF rfl (pj_b0_eqF (by omega)) h) ?_
        refine pj_X_of (fun r h => pj_R_to (G19, 111, [(3, .int z6), (2, .int y2), (0, .ref 171), (1, .int is)], [.int (Int32.ofInt 1), .ref 171, .int z27, .ref 181], 0, 0) 111 3 (fun _ => rfl) h) ?_
        have q28 : (pj_fi G19 171 22).toInt = y15.toInt := by rw [show pj_fi G19 171 22 = y15 from by rw [hG19, pj_fi_wa]; exact hy15.symm]
        have q29 : (pj_fi G19 171 5).toInt = y16.toInt := by rw [show pj_fi G19 171 5 = y16 from by rw [hG19, pj_fi_wa]; exact hy16.symm]
        have q30 : (pj_fi G19 171 3).toInt = y17.toInt := by rw [show pj_fi G19 171 3 = y17 from by rw [hG19, pj_fi_wa]; exact hy17.symm]
        refine pj_X_ca (vs := [.ref 171, .int (Int32.ofInt 1)]) rfl (fun _ => rfl) ⟨Nat.le_of_ble_eq_true rfl, Nat.le_of_ble_eq_true rfl, pj_T_rcv iG19 rfl⟩ ⟨rfl, rfl⟩ (pj_Y_up (by decide) (ct_186ex G19 iG19 (Int32.ofInt 1) ⟨by omega, by omega⟩)) ?_
        rintro _ G32 ⟨y31, rfl, iG32, jG32, ry31, ey31, fy31⟩
        replace ey31 := ey31 _ rfl
        rw [← fy31, pj_bd_e]
        have kG32 : pj_kpt kc_193_1x G0 G32 := pj_kpt_t kG19 (pj_kpt_s jG32 rfl)
        have q33 : (pj_fi G32 171 22).toInt = (pj_fi G19 171 22).toInt := by rw [jG32.1 (171, 22) (by decide)]
        have q34 : (pj_fi G32 171 5).toInt = (pj_fi G19 171 5).toInt := by rw [jG32.1 (171, 5) (by decide)]
        have q35 : (pj_fi G32 171 3).toInt = (pj_fi G19 171 3).toInt := by rw [jG32.1 (171, 3) (by decide)]
        obtain ⟨y36, hy36⟩ : ∃ z : Int32, z = pj_fi G32 171 22 := ⟨_, rfl⟩
        have ey36 : (pj_fi G32 171 22).toInt = y36.toInt := by rw [hy36]
        have ry36 : (0 : Int) ≤ y36.toInt ∧ y36.toInt ≤ 10 := by rw [hy36]; exact iG32.2.1 171 22 (0, 10) rfl
        obtain ⟨y37, hy37⟩ : ∃ z : Int32, z = pj_fi G32 171 5 := ⟨_, rfl⟩
        have ey37 : (pj_fi G32 171 5).toInt = y37.toInt := by rw [hy37]
        have ry37 : (0 : Int) ≤ y37.toInt ∧ y37.toInt ≤ 6 := by rw [hy37]; exact iG32.2.1 171 5 (0, 6) rfl
        obtain ⟨y38, hy38⟩ : ∃ z : Int32, z = pj_fi G32 171 3 := ⟨_, rfl⟩
        have ey38 : (pj_fi G32 171 3).toInt = y38.toInt := by rw [hy38]
        have ry38 : (0 : Int) ≤ y38.toInt ∧ y38.toInt ≤ 8 := by rw [hy38]; exact iG32.2.1 171 3 (0, 8) rfl
        show pj_X _ _ G32 114 [(3, .int z6), (2, .int y2), (0, .ref 171), (1, .int is)] [.int y31, .int z27, .ref 181] _
        refine pj_X_of (fun r h => pj_R_to (G32, 125, [(3, .int z6), (2, .int y2), (0, .ref 171), (1, .int is)], [.int y31, .int z27, .ref 181], 0, 0) 125 2 (fun _ => rfl) h) ?_
        refine pj_X_of (fun r h => pj_T_is iG32 rfl rfl (by omega) (by omega) h) ?_
        show pj_X _ _ (pj_wa G32 181 z27.toInt.toNat y31) 126 [(3, .int z6), (2, .int y2), (0, .ref 171), (1, .int is)] [] _
        obtain ⟨G39, hG39⟩ : ∃ H, H = pj_wa G32 181 z27.toInt.toNat y31 := ⟨_, rfl⟩
        have iG39 : pj_Inv G39 := by rw [hG39]; exact pj_Inv_wa iG32 rfl (fun q hq => by cases hq; exact ⟨by show (-1 : Int) ≤ _; omega, by show _ ≤ (99 : Int); omega, by show _ ≤ (-1 : Int) ∨ (-1 : Int) ≤ _; omega⟩) (fun n hn => by cases hn)
        have kG39 : pj_kpt kc_193_1x G0 G39 := by rw [hG39]; exact pj_kpt_a kG32 rfl
        rw [← hG39]
        rw [pj_nm_e]
        refine pj_X_of (fun r h => pj_R_to (G39, 128, [(3, .int z6), (2, .int y2), (0, .ref 171), (1, .int is)], [.ref 171, .ref 171], 0, 0) 128 3 (fun _ => rfl) h) ?_
        refine pj_X_of (fun r h => pj_T_gi iG39 rfl rfl h) ?_
        show pj_X _ _ G39 131 [(3, .int z6), (2, .int y2), (0, .ref 171), (1, .int is)] [.int (pj_fi G39 171 22), .ref 171] _
        rw [← hy36, pj_nm_e]
        refine pj_X_eqi (show pj_fi G39 171 22 = y36 from by rw [hG39, pj_fi_wa]; exact hy36.symm) ?_
        refine pj_X_of (fun r h => pj_R_to (G39, 133, [(3, .int z6), (2, .int y2), (0, .ref 171), (1, .int is)], [.int (y36 + (Int32.ofInt 1)), .ref 171], 0, 0) 133 3 (fun _ => rfl) h) ?_
        obtain ⟨z40, hz40⟩ : ∃ z : Int32, z = y36 + (Int32.ofInt 1) := ⟨_, rfl⟩
        refine pj_X_eqi hz40.symm ?_
        rw [← hz40, pj_nm_e]
        have fz40_0 : z40.toInt = y36.toInt + (Int32.ofInt 1).toInt := by rw [hz40]; exact pj_addI (by have := pj_i32 y36; have := pj_i32 (Int32.ofInt 1); omega) (by have := pj_i32 y36; have := pj_i32 (Int32.ofInt 1); omega)
        refine pj_X_of (fun r h => pj_T_pf iG39 rfl rfl rfl h) ?_
        show pj_X _ _ (pj_wv G39 171 22 (.int z40)) 136 [(3, .int z6), (2, .int y2), (0, .ref 171), (1, .int is)] [] _
        obtain ⟨G41, hG41⟩ : ∃ H, H = pj_wv G39 171 22 (.int z40) := ⟨_, rfl⟩
        have iG41 : pj_Inv G41 := by rw [hG41]; exact pj_Inv_wi iG39 (ci := 12) rfl (fun q hq => by cases hq; exact ⟨by show (0 : Int) ≤ _; omega, by show _ ≤ (10 : Int); omega⟩)
        have kG41 : pj_kpt kc_193_1x G0 G41 := by rw [hG41]; exact pj_kpt_v kG39 rfl
        rw [← hG41]
        rw [pj_nm_e]
        refine pj_X_of (fun r h => pj_R_to (G41, 137, [(3, .int z6), (2, .int y2), (0, .ref 171), (1, .int is)], [.int is], 0, 0) 137 2 (fun _ => rfl) h) ?_
        refine pj_X_of (fun r h => pj_R_ifF rfl (pj_b0_eqF (by omega)) h) ?_
        refine pj_X_of (fun r h => pj_R_to (G41, 141, [(3, .int z6), (2, .int y2), (0, .ref 171), (1, .int is)], [.ref 171], 0, 0) 141 2 (fun _ => rfl) h) ?_
        refine pj_X_of (fun r h => pj_T_gr iG41 rfl rfl rfl h) ?_
        refine pj_X_of (fun r h => pj_R_to (G41, 147, [(3, .int z6), (2, .int y2), (0, .ref 171), (1, .int is)], [.int (z6 + (Int32.ofInt 1)), .ref 181], 0, 0) 147 4 (fun _ => rfl) h) ?_
        refine pj_X_eqi hz27.symm ?_
        refine pj_X_of (fun r h => pj_T_il iG41 rfl rfl (by omega) (by omega) h) ?_
        show pj_X _ _ G41 148 [(3, .int z6), (2, .int y2), (0, .ref 171), (1, .int is)] [.int (pj_ai G41 181 z27.toInt.toNat)] _
        obtain ⟨z42, hz42⟩ : ∃ z : Int32, z = pj_ai G41 181 z27.toInt.toNat := ⟨_, rfl⟩
        refine pj_X_eqi hz42.symm ?_
        rw [← hz42, pj_nm_e]
        have ez42 : (pj_ai G41 181 z27.toInt.toNat).toInt = z42.toInt := by rw [hz42]
        have fz42_0 : (-1 : Int) ≤ z42.toInt ∧ z42.toInt ≤ 99 ∧ (z42.toInt ≤ -1 ∨ -1 ≤ z42.toInt) := by rw [hz42]; exact iG41.2.2.1 181 (40, -1, 99, -1, -1) rfl _ (by show _ < 40; omega)
        have x43 : z42.toInt = y31.toInt := by rw [hz42, hG41, pj_ai_wv, show z27.toInt.toNat = z27.toInt.toNat by omega, hG39, pj_ai_wa_eq iG32.1 rfl]
        cases b44 : pj_c1 .lt z42 0 with
        | true =>
          rw [pj_cT]
          have ub44 := pj_u0_ltT b44
          refine pj_X_of (fun r h => pj_R_ifT 155 rfl rfl b44 h) ?_
          refine pj_X_of (fun r h => pj_R_to (G41, 175, [(3, .int z6), (2, .int y2), (0, .ref 171), (1, .int is)], [.int (Int32.ofInt 0)], 0, 0) 175 3 (fun _ => rfl) h) ?_
          have q45 : (pj_fi G41 171 22).toInt = z40.toInt := by rw [show pj_fi G41 171 22 = z40 from by rw [hG41]; exact pj_fi_wi iG39.1 (ci := 12) rfl _]
          have q46 : (pj_fi G41 171 5).toInt = y37.toInt := by rw [show pj_fi G41 171 5 = y37 from by rw [hG41, pj_fi_wv_ne _ _ _ _ _ _ (by decide)]; exact (by rw [hG39, pj_fi_wa]; exact hy37.symm)]
          have q47 : (pj_fi G41 171 3).toInt = y38.toInt := by rw [show pj_fi G41 171 3 = y38 from by rw [hG41, pj_fi_wv_ne _ _ _ _ _ _ (by decide)]; exact (by rw [hG39, pj_fi_wa]; exact hy38.symm)]
          exact pj_X_rt rfl rfl ⟨_, rfl, iG41, kG41, ⟨by omega, by omega⟩, (fun H hH => by subst hH; exact (⟨by omega, fun q => by omega⟩)), rfl⟩
        | false =>
          rw [pj_cF]
          have ub44 := pj_u0_ltF b44
          refine pj_X_of (fun r h => pj_R_ifF rfl b44 h) ?_
          refine pj_X_of (fun r h => pj_R_to (G41, 175, [(3, .int z6), (2, .int y2), (0, .ref 171), (1, .int is)], [.int (Int32.ofInt 1)], 0, 0) 175 3 (fun _ => rfl) h) ?_
          have q48 : (pj_fi G41 171 22).toInt = z40.toInt := by rw [show pj_fi G41 171 22 = z40 from by rw [hG41]; exact pj_fi_wi iG39.1 (ci := 12) rfl _]
          have q49 : (pj_fi G41 171 5).toInt = y37.toInt := by rw [show pj_fi G41 171 5 = y37 from by rw [hG41, pj_fi_wv_ne _ _ _ _ _ _ (by decide)]; exact (by rw [hG39, pj_fi_wa]; exact hy37.symm)]
          have q50 : (pj_fi G41 171 3).toInt = y38.toInt := by rw [show pj_fi G41 171 3 = y38 from by rw [hG41, pj_fi_wv_ne _ _ _ _ _ _ (by decide)]; exact (by rw [hG39, pj_fi_wa]; exact hy38.symm)]
          exact pj_X_rt rfl rfl ⟨_, rfl, iG41, kG41, ⟨by omega, by omega⟩, (fun H hH => by subst hH; exact (⟨by omega, fun q => by omega⟩)), rfl⟩
      | false =>
        rw [pj_cF]
        have ub26 := pj_u0_geF b26
        refine pj_X_of (fun r h => pj_R_ifF rfl b26 h) ?_
        refine pj_X_of (fun r h => pj_R_to (G19, 97, [(3, .int z6), (2, .int y2), (0, .ref 171), (1, .int is)], [.int (Int32.ofInt 0)], 0, 0) 97 2 (fun _ => rfl) h) ?_
        have q51 : (pj_fi G19 171 22).toInt = y15.toInt := by rw [show pj_fi G19 171 22 = y15 from by rw [hG19, pj_fi_wa]; exact hy15.symm]
        have q52 : (pj_fi G19 171 5).toInt = y16.toInt := by rw [show pj_fi G19 171 5 = y16 from by rw [hG19, pj_fi_wa]; exact hy16.symm]
        have q53 : (pj_fi G19 171 3).toInt = y17.toInt := by rw [show pj_fi G19 171 3 = y17 from by rw [hG19, pj_fi_wa]; exact hy17.symm]
        exact pj_X_rt rfl rfl ⟨_, rfl, iG19, kG19, ⟨by omega, by omega⟩, (fun H hH => by subst hH; exact (⟨by omega, fun q => by omega⟩)), rfl⟩
  | false =>
    rw [pj_cF]
    have ub5 := pj_u_neF b5
    refine pj_X_of (fun r h => pj_R_icF rfl b5 h) ?_
    refine pj_X_of (fun r h => pj_R_to (G0, 37, [(2, .int y2), (0, .ref 171), (1, .int is)], [.int (Int32.ofInt 0)], 0, 0) 37 2 (fun _ => rfl) h) ?_
    have q54 : (pj_fi G0 171 22).toInt = y1.toInt := by rw [show pj_fi G0 171 22 = y1 from hy1.symm]
    have q55 : (pj_fi G0 171 5).toInt = y2.toInt := by rw [show pj_fi G0 171 5 = y2 from hy2.symm]
    have q56 : (pj_fi G0 171 3).toInt = y3.toInt := by rw [show pj_fi G0 171 3 = y3 from hy3.symm]
    exact pj_X_rt rfl rfl ⟨_, rfl, hI, hK, ⟨by omega, by omega⟩, (fun H hH => by subst hH; exact (⟨by omega, fun q => by omega⟩)), rfl⟩
theorem fr_194_1x (G0 : pj_G) (hI : pj_Inv G0) (is : Int32) (ris : (1 : Int) ≤ is.toInt ∧ is.toInt ≤ 1) (p0_ : (pj_fi G0 171 5).toInt + (pj_fi G0 171 22).toInt ≤ 6) : pj_Inv (F_194_1x G0 is).2 ∧ pj_kpt kc_193_1x G0 (F_194_1x G0 is).2 ∧ ((0 : Int) ≤ (F_194_1x G0 is).1.toInt ∧ (F_194_1x G0 is).1.toInt ≤ 1) ∧ (((pj_fi G0 171 22).toInt ≤ (pj_fi (F_194_1x G0 is).2 171 22).toInt ∧ (pj_fi (F_194_1x G0 is).2 171 22).toInt ≤ (pj_fi G0 171 22).toInt + 1 ∧ (pj_fi (F_194_1x G0 is).2 171 5).toInt + (pj_fi (F_194_1x G0 is).2 171 22).toInt ≤ 6) ∧ (1 ≤ (F_194_1x G0 is).1.toInt → (pj_fi (F_194_1x G0 is).2 171 22).toInt = (pj_fi G0 171 22).toInt + 1)) := by
  obtain ⟨v, G', -, y, -, i, j, r, x, e⟩ := ct_193_1x G0 hI is ris p0_
  rw [← e]
  exact ⟨i, j, r, x _ rfl⟩
def kc_193_0x : pj_KT := ([(171, 17), (171, 22)], [171, 181], [181])
noncomputable def F_194_0x (G0 : pj_G) (is : Int32) : Int32 × pj_G := pj_nm (pj_fi G0 171 6) (fun y2 => pj_nm (pj_fi G0 171 22) (fun y1 => pj_nm (y2 + y1) (fun z4 => cond (pj_c1 .ne z4 ((Int8.ofInt 6).toInt32)) (pj_nm ((Int32.ofInt 2) * y1) (fun z6 => pj_nm (pj_fi G0 171 3) (fun y3 => pj_bd (F_188x G0 y3) (fun y10 G11 => pj_nm (pj_wa G11 181 z6.toInt.toNat y10) (fun G18 => pj_nm (pj_ai G18 181 z6.toInt.toNat) (fun z19 => cond (pj_c1 .ge z19 0) (pj_nm (z6 + (Int32.ofInt 1)) (fun z22 => pj_bd (F_186_s9x G18) (fun y26 G27 => pj_nm ((Int32.ofInt 1) + y26) (fun z34 => pj_nm (pj_wa G27 181 z22.toInt.toNat z34) (fun G35 => pj_nm (pj_fi G27 171 22) (fun y31 => pj_nm (y31 + (Int32.ofInt 1)) (fun z36 => pj_nm (pj_wv G35 171 22 (.int z36)) (fun G37 => pj_nm (pj_ai G37 181 z22.toInt.toNat) (fun z38 => cond (pj_c1 .le z38 0) ((Int32.ofInt 0, G37)) ((Int32.ofInt 1, G37))))))))))) ((Int32.ofInt 0, G18)))))))) ((Int32.ofInt 0, G0)))))
theorem F_194_0x_e (G0 : pj_G) (is : Int32) : F_194_0x G0 is = pj_nm (pj_fi G0 171 6) (fun y2 => pj_nm (pj_fi G0 171 22) (fun y1 => pj_nm (y2 + y1) (fun z4 => cond (pj_c1 .ne z4 ((Int8.ofInt 6).toInt32)) (pj_nm ((Int32.ofInt 2) * y1) (fun z6 => pj_nm (pj_fi G0 171 3) (fun y3 => pj_bd (F_188x G0 y3) (fun y10 G11 => pj_nm (pj_wa G11 181 z6.toInt.toNat y10) (fun G18 => pj_nm (pj_ai G18 181 z6.toInt.toNat) (fun z19 => cond (pj_c1 .ge z19 0) (pj_nm (z6 + (Int32.ofInt 1)) (fun z22 => pj_bd (F_186_s9x G18) (fun y26 G27 => pj_nm ((Int32.ofInt 1) + y26) (fun z34 => pj_nm (pj_wa G27 181 z22.toInt.toNat z34) (fun G35 => pj_nm (pj_fi G27 171 22) (fun y31 => pj_nm (y31 + (Int32.ofInt 1)) (fun z36 => pj_nm (pj_wv G35 171 22 (.int z36)) (fun G37 => pj_nm (pj_ai G37 181 z22.toInt.toNat) (fun z38 => cond (pj_c1 .le z38 0) ((Int32.ofInt 0, G37)) ((Int32.ofInt 1, G37))))))))))) ((Int32.ofInt 0, G18)))))))) ((Int32.ofInt 0, G0))))) := rfl
theorem ct_193_0x (G0 : pj_G) (hI : pj_Inv G0) (is : Int32) (ris : (0 : Int) ≤ is.toInt ∧ is.toInt ≤ 0) (p0_ : (pj_fi G0 171 6).toInt + (pj_fi G0 171 22).toInt ≤ 6) : pj_Y 17 193 [.ref 171, .int is] G0 (fun v' G' => ∃ y : Int32, v' = some (.int y) ∧ pj_Inv G' ∧ pj_kpt kc_193_0x G0 G' ∧ ((0 : Int) ≤ y.toInt ∧ y.toInt ≤ 1) ∧ (∀ H, G0 = H → (((pj_fi H 171 22).toInt ≤ (pj_fi G' 171 22).toInt ∧ (pj_fi G' 171 22).toInt ≤ (pj_fi H 171 22).toInt + 1 ∧ (pj_fi G' 171 6).toInt + (pj_fi G' 171 22).toInt ≤ 6) ∧ (1 ≤ y.toInt → (pj_fi G' 171 22).toInt = (pj_fi H 171 22).toInt + 1 ∧ (pj_re H (pj_fi H 171 22).toInt → pj_re G' (pj_fi G' 171 22).toInt)))) ∧ ((y, G') = F_194_0x G0 is)) := by
  have c0_ : ((Int8.ofInt 6).toInt32).toInt = 6 := by decide
  have c1_ : (Int32.ofInt 0).toInt = 0 := by decide
  have c2_ : (Int32.ofInt 1).toInt = 1 := by decide
  have c3_ : (Int32.ofInt 2).toInt = 2 := by decide
  refine pj_Y_X (M := pj_m193) rfl rfl (Nat.le_of_ble_eq_true rfl) ?_
  have hK : pj_kpt kc_193_0x G0 G0 := pj_kpt_r _ _
  show pj_X _ _ G0 0 [(0, .ref 171), (1, .int is)] [] _
  rw [F_194_0x_e]
  obtain ⟨y1, hy1⟩ : ∃ z : Int32, z = pj_fi G0 171 22 := ⟨_, rfl⟩
  have ey1 : (pj_fi G0 171 22).toInt = y1.toInt := by rw [hy1]
  have ry1 : (0 : Int) ≤ y1.toInt ∧ y1.toInt ≤ 10 := by rw [hy1]; exact hI.2.1 171 22 (0, 10) rfl
  obtain ⟨y2, hy2⟩ : ∃ z : Int32, z = pj_fi G0 171 6 := ⟨_, rfl⟩
  have ey2 : (pj_fi G0 171 6).toInt = y2.toInt := by rw [hy2]
  have ry2 : (0 : Int) ≤ y2.toInt ∧ y2.toInt ≤ 6 := by rw [hy2]; exact hI.2.1 171 6 (0, 6) rfl
  obtain ⟨y3, hy3⟩ : ∃ z : Int32, z = pj_fi G0 171 3 := ⟨_, rfl⟩
  have ey3 : (pj_fi G0 171 3).toInt = y3.toInt := by rw [hy3]
  have ry3 : (0 : Int) ≤ y3.toInt ∧ y3.toInt ≤ 8 := by rw [hy3]; exact hI.2.1 171 3 (0, 8) rfl
  refine pj_X_of (fun r h => pj_R_to (G0, 1, [(0, .ref 171), (1, .int is)], [.int is], 0, 0) 1 2 (fun _ => rfl) h) ?_
  refine pj_X_of (fun r h => pj_R_ifT 11 rfl rfl (pj_b0_eqT (by omega)) h) ?_
  refine pj_X_of (fun r h => pj_R_to (G0, 12, [(0, .ref 171), (1, .int is)], [.ref 171], 0, 0) 12 2 (fun _ => rfl) h) ?_
  refine pj_X_of (fun r h => pj_T_gi hI rfl rfl h) ?_
  show pj_X _ _ G0 15 [(0, .ref 171), (1, .int is)] [.int (pj_fi G0 171 6)] _
  rw [← hy2, pj_nm_e]
  refine pj_X_of (fun r h => pj_R_to (G0, 18, [(2, .int y2), (0, .ref 171), (1, .int is)], [.ref 171, .int y2], 0, 0) 18 4 (fun _ => rfl) h) ?_
  refine pj_X_of (fun r h => pj_T_gi hI rfl rfl h) ?_
  show pj_X _ _ G0 21 [(2, .int y2), (0, .ref 171), (1, .int is)] [.int (pj_fi G0 171 22), .int y2] _
  rw [← hy1, pj_nm_e]
  refine pj_X_of (fun r h => pj_R_to (G0, 22, [(2, .int y2), (0, .ref 171), (1, .int is)], [.int (y2 + y1)], 0, 0) 22 2 (fun _ => rfl) h) ?_
  obtain ⟨z4, hz4⟩ : ∃ z : Int32, z = y2 + y1 := ⟨_, rfl⟩
  refine pj_X_eqi hz4.symm ?_
  rw [← hz4, pj_nm_e]
  have fz4_0 : z4.toInt = y2.toInt + y1.toInt := by rw [hz4]; exact pj_addI (by have := pj_i32 y2; have := pj_i32 y1; omega) (by have := pj_i32 y2; have := pj_i32 y1; omega)
  refine pj_X_of (fun r h => pj_R_to (G0, 23, [(2, .int y2), (0, .ref 171), (1, .int is)], [.int is, .int z4], 0, 0) 23 2 (fun _ => rfl) h) ?_
  refine pj_X_of (fun r h => pj_R_ifT 31 rfl rfl (pj_b0_eqT (by omega)) h) ?_
  refine pj_X_of (fun r h => pj_R_to (G0, 33, [(2, .int y2), (0, .ref 171), (1, .int is)], [.int ((Int8.ofInt 6).toInt32), .int z4], 0, 0) 33 2 (fun _ => rfl) h) ?_
  cases b5 : pj_c1 .ne z4 ((Int8.ofInt 6).toInt32) with
  | true =>
    rw [pj_cT]
    have ub5 := pj_u_neT b5
    refine pj_X_of (fun r h => pj_R_icT 38 rfl rfl b5 h) ?_
    refine pj_X_of (fun r h => pj_R_to (G0, 40, [(2, .int y2), (0, .ref 171), (1, .int is)], [.ref 171, .int (Int32.ofInt 2)], 0, 0) 40 3 (fun _ => rfl) h) ?_
    refine pj_X_of (fun r h => pj_T_gi hI rfl rfl h) ?_
    show pj_X _ _ G0 43 [(2, .int y2), (0, .ref 171), (1, .int is)] [.int (pj_fi G0 171 22), .int (Int32.ofInt 2)] _
    refine pj_X_eqi (show pj_fi G0 171 22 = y1 from hy1.symm) ?_
    refine pj_X_of (fun r h => pj_R_to (G0, 44, [(2, .int y2), (0, .ref 171), (1, .int is)], [.int ((Int32.ofInt 2) * y1)], 0, 0) 44 2 (fun _ => rfl) h) ?_
    obtain ⟨z6, hz6⟩ : ∃ z : Int32, z = (Int32.ofInt 2) * y1 := ⟨_, rfl⟩
    refine pj_X_eqi hz6.symm ?_
    rw [← hz6, pj_nm_e]
    have fz6_0 : z6.toInt = 2 * y1.toInt := by rw [hz6]; exact pj_mulL (by decide) (by omega) (by omega)
    refine pj_X_of (fun r h => pj_R_to (G0, 46, [(3, .int z6), (2, .int y2), (0, .ref 171), (1, .int is)], [.ref 171], 0, 0) 46 3 (fun _ => rfl) h) ?_
    refine pj_X_of (fun r h => pj_T_gr hI rfl rfl rfl h) ?_
    refine pj_X_of (fun r h => pj_R_to (G0, 51, [(3, .int z6), (2, .int y2), (0, .ref 171), (1, .int is)], [.int is, .int z6, .ref 181], 0, 0) 51 3 (fun _ => rfl) h) ?_
    refine pj_X_of (fun r h => pj_R_ifT 65 rfl rfl (pj_b0_eqT (by omega)) h) ?_
    refine pj_X_of (fun r h => pj_R_to (G0, 67, [(3, .int z6), (2, .int y2), (0, .ref 171), (1, .int is)], [.ref 171, .ref 171, .int z6, .ref 181], 0, 0) 67 3 (fun _ => rfl) h) ?_
    refine pj_X_of (fun r h => pj_T_gi hI rfl rfl h) ?_
    show pj_X _ _ G0 70 [(3, .int z6), (2, .int y2), (0, .ref 171), (1, .int is)] [.int (pj_fi G0 171 3), .ref 171, .int z6, .ref 181] _
    rw [← hy3, pj_nm_e]
    have q7 : (pj_fi G0 171 22).toInt = y1.toInt := by rw [show pj_fi G0 171 22 = y1 from hy1.symm]
    have q8 : (pj_fi G0 171 6).toInt = y2.toInt := by rw [show pj_fi G0 171 6 = y2 from hy2.symm]
    have q9 : (pj_fi G0 171 3).toInt = y3.toInt := by rw [show pj_fi G0 171 3 = y3 from hy3.symm]
    refine pj_X_ca (vs := [.ref 171, .int y3]) rfl (fun _ => rfl) ⟨Nat.le_of_ble_eq_true rfl, Nat.le_of_ble_eq_true rfl, pj_T_rcv hI rfl⟩ ⟨rfl, rfl⟩ (pj_Y_up (by decide) (ct_187x G0 hI y3 ⟨by omega, by omega⟩)) ?_
    rintro _ G11 ⟨y10, rfl, iG11, jG11, ry10, ey10, fy10⟩
    replace ey10 := ey10 _ rfl
    rw [← fy10, pj_bd_e]
    have kG11 : pj_kpt kc_193_0x G0 G11 := pj_kpt_t hK (pj_kpt_s jG11 rfl)
    have q12 : (pj_fi G11 171 22).toInt = (pj_fi G0 171 22).toInt := by rw [jG11.1 (171, 22) (by decide)]
    have q13 : (pj_fi G11 171 6).toInt = (pj_fi G0 171 6).toInt := by rw [jG11.1 (171, 6) (by decide)]
    have q14 : (pj_fi G11 171 3).toInt = (pj_fi G0 171 3).toInt := by rw [jG11.1 (171, 3) (by decide)]
    obtain ⟨y15, hy15⟩ : ∃ z : Int32, z = pj_fi G11 171 22 := ⟨_, rfl⟩
    have ey15 : (pj_fi G11 171 22).toInt = y15.toInt := by rw [hy15]
    have ry15 : (0 : Int) ≤ y15.toInt ∧ y15.toInt ≤ 10 := by rw [hy15]; exact iG11.2.1 171 22 (0, 10) rfl
    obtain ⟨y16, hy16⟩ : ∃ z : Int32, z = pj_fi G11 171 6 := ⟨_, rfl⟩
    have ey16 : (pj_fi G11 171 6).toInt = y16.toInt := by rw [hy16]
    have ry16 : (0 : Int) ≤ y16.toInt ∧ y16.toInt ≤ 6 := by rw [hy16]; exact iG11.2.1 171 6 (0, 6) rfl
    obtain ⟨y17, hy17⟩ : ∃ z : Int32, z = pj_fi G11 171 3 := ⟨_, rfl⟩
    have ey17 : (pj_fi G11 171 3).toInt = y17.toInt := by rw [hy17]
    have ry17 : (0 : Int) ≤ y17.toInt ∧ y17.toInt ≤ 8 := by rw [hy17]; exact iG11.2.1 171 3 (0, 8) rfl
    show pj_X _ _ G11 73 [(3, .int z6), (2, .int y2), (0, .ref 171), (1, .int is)] [.int y10, .int z6, .ref 181] _
    refine pj_X_of (fun r h => pj_T_is iG11 rfl rfl (by omega) (by omega) h) ?_
    show pj_X _ _ (pj_wa G11 181 z6.toInt.toNat y10) 74 [(3, .int z6), (2, .int y2), (0, .ref 171), (1, .int is)] [] _
    obtain ⟨G18, hG18⟩ : ∃ H, H = pj_wa G11 181 z6.toInt.toNat y10 := ⟨_, rfl⟩
    have iG18 : pj_Inv G18 := by rw [hG18]; exact pj_Inv_wa iG11 rfl (fun q hq => by cases hq; exact ⟨by show (-1 : Int) ≤ _; omega, by show _ ≤ (99 : Int); omega, by show _ ≤ (-1 : Int) ∨ (-1 : Int) ≤ _; omega⟩) (fun n hn => by cases hn)
    have kG18 : pj_kpt kc_193_0x G0 G18 := by rw [hG18]; exact pj_kpt_a kG11 rfl
    rw [← hG18]
    rw [pj_nm_e]
    refine pj_X_of (fun r h => pj_R_to (G18, 75, [(3, .int z6), (2, .int y2), (0, .ref 171), (1, .int is)], [.int is], 0, 0) 75 2 (fun _ => rfl) h) ?_
    refine pj_X_of (fun r h => pj_R_ifT 87 rfl rfl (pj_b0_eqT (by omega)) h) ?_
    refine pj_X_of (fun r h => pj_R_to (G18, 88, [(3, .int z6), (2, .int y2), (0, .ref 171), (1, .int is)], [.ref 171], 0, 0) 88 2 (fun _ => rfl) h) ?_
    refine pj_X_of (fun r h => pj_T_gr iG18 rfl rfl rfl h) ?_
    refine pj_X_of (fun r h => pj_R_to (G18, 92, [(3, .int z6), (2, .int y2), (0, .ref 171), (1, .int is)], [.int z6, .ref 181], 0, 0) 92 2 (fun _ => rfl) h) ?_
    refine pj_X_of (fun r h => pj_T_il iG18 rfl rfl (by omega) (by omega) h) ?_
    show pj_X _ _ G18 93 [(3, .int z6), (2, .int y2), (0, .ref 171), (1, .int is)] [.int (pj_ai G18 181 z6.toInt.toNat)] _
    obtain ⟨z19, hz19⟩ : ∃ z : Int32, z = pj_ai G18 181 z6.toInt.toNat := ⟨_, rfl⟩
    refine pj_X_eqi hz19.symm ?_
    rw [← hz19, pj_nm_e]
    have ez19 : (pj_ai G18 181 z6.toInt.toNat).toInt = z19.toInt := by rw [hz19]
    have fz19_0 : (-1 : Int) ≤ z19.toInt ∧ z19.toInt ≤ 99 ∧ (z19.toInt ≤ -1 ∨ -1 ≤ z19.toInt) := by rw [hz19]; exact iG18.2.2.1 181 (40, -1, 99, -1, -1) rfl _ (by show _ < 40; omega)
    have x20 : z19.toInt = y10.toInt := by rw [hz19, show z6.toInt.toNat = z6.toInt.toNat by omega, hG18, pj_ai_wa_eq iG11.1 rfl]
    cases b21 : pj_c1 .ge z19 0 with
    | true =>
      rw [pj_cT]
      have ub21 := pj_u0_geT b21
      refine pj_X_of (fun r h => pj_R_ifT 98 rfl rfl b21 h) ?_
      refine pj_X_of (fun r h => pj_R_to (G18, 99, [(3, .int z6), (2, .int y2), (0, .ref 171), (1, .int is)], [.ref 171], 0, 0) 99 2 (fun _ => rfl) h) ?_
      refine pj_X_of (fun r h => pj_T_gr iG18 rfl rfl rfl h) ?_
      refine pj_X_of (fun r h => pj_R_to (G18, 105, [(3, .int z6), (2, .int y2), (0, .ref 171), (1, .int is)], [.int (z6 + (Int32.ofInt 1)), .ref 181], 0, 0) 105 4 (fun _ => rfl) h) ?_
      obtain ⟨z22, hz22⟩ : ∃ z : Int32, z = z6 + (Int32.ofInt 1) := ⟨_, rfl⟩
      refine pj_X_eqi hz22.symm ?_
      rw [← hz22, pj_nm_e]
      have fz22_0 : z22.toInt = z6.toInt + (Int32.ofInt 1).toInt := by rw [hz22]; exact pj_addI (by have := pj_i32 z6; have := pj_i32 (Int32.ofInt 1); omega) (by have := pj_i32 z6; have := pj_i32 (Int32.ofInt 1); omega)
      refine pj_X_of (fun r h => pj_R_to (G18, 106, [(3, .int z6), (2, .int y2), (0, .ref 171), (1, .int is)], [.int is, .int z22, .ref 181], 0, 0) 106 2 (fun _ => rfl) h) ?_
      refine pj_X_of (fun r h => pj_R_ifT 117 rfl rfl (pj_b0_eqT (by omega)) h) ?_
      refine pj_X_of (fun r h => pj_R_to (G18, 121, [(3, .int z6), (2, .int y2), (0, .ref 171), (1, .int is)], [.retAddr 9, .ref 171, .int (Int32.ofInt 1), .int z22, .ref 181], 0, 0) 121 4 (fun _ => rfl) h) ?_
      have q23 : (pj_fi G18 171 22).toInt = y15.toInt := by rw [show pj_fi G18 171 22 = y15 from by rw [hG18, pj_fi_wa]; exact hy15.symm]
      have q24 : (pj_fi G18 171 6).toInt = y16.toInt := by rw [show pj_fi G18 171 6 = y16 from by rw [hG18, pj_fi_wa]; exact hy16.symm]
      have q25 : (pj_fi G18 171 3).toInt = y17.toInt := by rw [show pj_fi G18 171 3 = y17 from by rw [hG18, pj_fi_wa]; exact hy17.symm]
      refine pj_X_ca (vs := [.ref 171, .retAddr 9]) rfl (fun _ => rfl) ⟨Nat.le_of_ble_eq_true rfl, Nat.le_of_ble_eq_true rfl, pj_T_rcv iG18 rfl⟩ ⟨rfl, rfl⟩ (pj_Y_up (by decide) (ct_185_s9x G18 iG18)) ?_
      rintro _ G27 ⟨y26, rfl, iG27, jG27, ry26, ey26, fy26⟩
      replace ey26 := ey26 _ rfl
      rw [← fy26, pj_bd_e]
      have kG27 : pj_kpt kc_193_0x G0 G27 := pj_kpt_t kG18 (pj_kpt_s jG27 rfl)
      have q28 : (pj_fi G27 171 22).toInt = (pj_fi G18 171 22).toInt := by rw [jG27.1 (171, 22) (by decide)]
      have q29 : (pj_fi G27 171 6).toInt = (pj_fi G18 171 6).toInt := by rw [jG27.1 (171, 6) (by decide)]
      have q30 : (pj_fi G27 171 3).toInt = (pj_fi G18 171 3).toInt := by rw [jG27.1 (171, 3) (by decide)]
      obtain ⟨y31, hy31⟩ : ∃ z : Int32, z = pj_fi G27 171 22 := ⟨_, rfl⟩
      have ey31 : (pj_fi G27 171 22).toInt = y31.toInt := by rw [hy31]
      have ry31 : (0 : Int) ≤ y31.toInt ∧ y31.toInt ≤ 10 := by rw [hy31]; exact iG27.2.1 171 22 (0, 10) rfl
      obtain ⟨y32, hy32⟩ : ∃ z : Int32, z = pj_fi G27 171 6 := ⟨_, rfl⟩
      have ey32 : (pj_fi G27 171 6).toInt = y32.toInt := by rw [hy32]
      have ry32 : (0 : Int) ≤ y32.toInt ∧ y32.toInt ≤ 6 := by rw [hy32]; exact iG27.2.1 171 6 (0, 6) rfl
      obtain ⟨y33, hy33⟩ : ∃ z : Int32, z = pj_fi G27 171 3 := ⟨_, rfl⟩
      have ey33 : (pj_fi G27 171 3).toInt = y33.toInt := by rw [hy33]
      have ry33 : (0 : Int) ≤ y33.toInt ∧ y33.toInt ≤ 8 := by rw [hy33]; exact iG27.2.1 171 3 (0, 8) rfl
      show pj_X _ _ G27 124 [(3, .int z6), (2, .int y2), (0, .ref 171), (1, .int is)] [.int y26, .int (Int32.ofInt 1), .int z22, .ref 181] _
      refine pj_X_of (fun r h => pj_R_to (G27, 125, [(3, .int z6), (2, .int y2), (0, .ref 171), (1, .int is)], [.int ((Int32.ofInt 1) + y26), .int z22, .ref 181], 0, 0) 125 2 (fun _ => rfl) h) ?_
      obtain ⟨z34, hz34⟩ : ∃ z : Int32, z = (Int32.ofInt 1) + y26 := ⟨_, rfl⟩
      refine pj_X_eqi hz34.symm ?_
      rw [← hz34, pj_nm_e]
      have fz34_0 : z34.toInt = (Int32.ofInt 1).toInt + y26.toInt := by rw [hz34]; exact pj_addI (by have := pj_i32 (Int32.ofInt 1); have := pj_i32 y26; omega) (by have := pj_i32 (Int32.ofInt 1); have := pj_i32 y26; omega)
      refine pj_X_of (fun r h => pj_T_is iG27 rfl rfl (by omega) (by omega) h) ?_
      show pj_X _ _ (pj_wa G27 181 z22.toInt.toNat z34) 126 [(3, .int z6), (2, .int y2), (0, .ref 171), (1, .int is)] [] _
      obtain ⟨G35, hG35⟩ : ∃ H, H = pj_wa G27 181 z22.toInt.toNat z34 := ⟨_, rfl⟩
      have iG35 : pj_Inv G35 := by rw [hG35]; exact pj_Inv_wa iG27 rfl (fun q hq => by cases hq; exact ⟨by show (-1 : Int) ≤ _; omega, by show _ ≤ (99 : Int); omega, by show _ ≤ (-1 : Int) ∨ (-1 : Int) ≤ _; omega⟩) (fun n hn => by cases hn)
      have kG35 : pj_kpt kc_193_0x G0 G35 := by rw [hG35]; exact pj_kpt_a kG27 rfl
      rw [← hG35]
      rw [pj_nm_e]
      refine pj_X_of (fun r h => pj_R_to (G35, 128, [(3, .int z6), (2, .int y2), (0, .ref 171), (1, .int is)], [.ref 171, .ref 171], 0, 0) 128 3 (fun _ => rfl) h) ?_
      refine pj_X_of (fun r h => pj_T_gi iG35 rfl rfl h) ?_
      show pj_X _ _ G35 131 [(3, .int z6), (2, .int y2), (0, .ref 171), (1, .int is)] [.int (pj_fi G35 171 22), .ref 171] _
      rw [← hy31, pj_nm_e]
      refine pj_X_eqi (show pj_fi G35 171 22 = y31 from by rw [hG35, pj_fi_wa]; exact hy31.symm) ?_
      refine pj_X_of (fun r h => pj_R_to (G35, 133, [(3, .int z6), (2, .int y2), (0, .ref 171), (1, .int is)], [.int (y31 + (Int32.ofInt 1)), .ref 171], 0, 0) 133 3 (fun _ => rfl) h) ?_
      obtain ⟨z36, hz36⟩ : ∃ z : Int32, z = y31 + (Int32.ofInt 1) := ⟨_, rfl⟩
      refine pj_X_eqi hz36.symm ?_
      rw [← hz36, pj_nm_e]
      have fz36_0 : z36.toInt = y31.toInt + (Int32.ofInt 1).toInt := by rw [hz36]; exact pj_addI (by have := pj_i32 y31; have := pj_i32 (Int32.ofInt 1); omega) (by have := pj_i32 y31; have := pj_i32 (Int32.ofInt 1); omega)
      refine pj_X_of (fun r h => pj_T_pf iG35 rfl rfl rfl h) ?_
      show pj_X _ _ (pj_wv G35 171 22 (.int z36)) 136 [(3, .int z6), (2, .int y2), (0, .ref 171), (1, .int is)] [] _
      obtain ⟨G37, hG37⟩ : ∃ H, H = pj_wv G35 171 22 (.int z36) := ⟨_, rfl⟩
      have iG37 : pj_Inv G37 := by rw [hG37]; exact pj_Inv_wi iG35 (ci := 12) rfl (fun q hq => by cases hq; exact ⟨by show (0 : Int) ≤ _; omega, by show _ ≤ (10 : Int); omega⟩)
      have kG37 : pj_kpt kc_193_0x G0 G37 := by rw [hG37]; exact pj_kpt_v kG35 rfl
      rw [← hG37]
      rw [pj_nm_e]
      refine pj_X_of (fun r h => pj_R_to (G37, 137, [(3, .int z6), (2, .int y2), (0, .ref 171), (1, .int is)], [.int is], 0, 0) 137 2 (fun _ => rfl) h) ?_
      refine pj_X_of (fun r h => pj_R_ifT 159 rfl rfl (pj_b0_eqT (by omega)) h) ?_
      refine pj_X_of (fun r h => pj_R_to (G37, 160, [(3, .int z6), (2, .int y2), (0, .ref 171), (1, .int is)], [.ref 171], 0, 0) 160 2 (fun _ => rfl) h) ?_
      refine pj_X_of (fun r h => pj_T_gr iG37 rfl rfl rfl h) ?_
      refine pj_X_of (fun r h => pj_R_to (G37, 166, [(3, .int z6), (2, .int y2), (0, .ref 171), (1, .int is)], [.int (z6 + (Int32.ofInt 1)), .ref 181], 0, 0) 166 4 (fun _ => rfl) h) ?_
      refine pj_X_eqi hz22.symm ?_
      refine pj_X_of (fun r h => pj_T_il iG37 rfl rfl (by omega) (by omega) h) ?_
      show pj_X _ _ G37 167 [(3, .int z6), (2, .int y2), (0, .ref 171), (1, .int is)] [.int (pj_ai G37 181 z22.toInt.toNat)] _
      obtain ⟨z38, hz38⟩ : ∃ z : Int32, z = pj_ai G37 181 z22.toInt.toNat := ⟨_, rfl⟩
      refine pj_X_eqi hz38.symm ?_
      rw [← hz38, pj_nm_e]
      have ez38 : (pj_ai G37 181 z22.toInt.toNat).toInt = z38.toInt := by rw [hz38]
      have fz38_0 : (-1 : Int) ≤ z38.toInt ∧ z38.toInt ≤ 99 ∧ (z38.toInt ≤ -1 ∨ -1 ≤ z38.toInt) := by rw [hz38]; exact iG37.2.2.1 181 (40, -1, 99, -1, -1) rfl _ (by show _ < 40; omega)
      have x39 : z38.toInt = z34.toInt := by rw [hz38, hG37, pj_ai_wv, show z22.toInt.toNat = z22.toInt.toNat by omega, hG35, pj_ai_wa_eq iG27.1 rfl]
      cases b40 : pj_c1 .le z38 0 with
      | true =>
        rw [pj_cT]
        have ub40 := pj_u0_leT b40
        refine pj_X_of (fun r h => pj_R_ifT 174 rfl rfl b40 h) ?_
        refine pj_X_of (fun r h => pj_R_to (G37, 175, [(3, .int z6), (2, .int y2), (0, .ref 171), (1, .int is)], [.int (Int32.ofInt 0)], 0, 0) 175 2 (fun _ => rfl) h) ?_
        have q41 : (pj_fi G37 171 22).toInt = z36.toInt := by rw [show pj_fi G37 171 22 = z36 from by rw [hG37]; exact pj_fi_wi iG35.1 (ci := 12) rfl _]
        have q42 : (pj_fi G37 171 6).toInt = y32.toInt := by rw [show pj_fi G37 171 6 = y32 from by rw [hG37, pj_fi_wv_ne _ _ _ _ _ _ (by decide)]; exact (by rw [hG35, pj_fi_wa]; exact hy32.symm)]
        have q43 : (pj_fi G37 171 3).toInt = y33.toInt := by rw [show pj_fi G37 171 3 = y33 from by rw [hG37, pj_fi_wv_ne _ _ _ _ _ _ (by decide)]; exact (by rw [hG35, pj_fi_wa]; exact hy33.symm)]
        exact pj_X_rt rfl rfl ⟨_, rfl, iG37, kG37, ⟨by omega, by omega⟩, (fun H hH => by subst hH; exact (⟨by omega, fun q => absurd q (by omega)⟩)), rfl⟩
      | false =>
        rw [pj_cF]
        have ub40 := pj_u0_leF b40
        refine pj_X_of (fun r h => pj_R_ifF rfl b40 h) ?_
        refine pj_X_of (fun r h => pj_R_to (G37, 175, [(3, .int z6), (2, .int y2), (0, .ref 171), (1, .int is)], [.int (Int32.ofInt 1)], 0, 0) 175 3 (fun _ => rfl) h) ?_
        have q44 : (pj_fi G37 171 22).toInt = z36.toInt := by rw [show pj_fi G37 171 22 = z36 from by rw [hG37]; exact pj_fi_wi iG35.1 (ci := 12) rfl _]
        have q45 : (pj_fi G37 171 6).toInt = y32.toInt := by rw [show pj_fi G37 171 6 = y32 from by rw [hG37, pj_fi_wv_ne _ _ _ _ _ _ (by decide)]; exact (by rw [hG35, pj_fi_wa]; exact hy32.symm)]
        have q46 : (pj_fi G37 171 3).toInt = y33.toInt := by rw [show pj_fi G37 171 3 = y33 from by rw [hG37, pj_fi_wv_ne _ _ _ _ _ _ (by decide)]; exact (by rw [hG35, pj_fi_wa]; exact hy33.symm)]
        have hv0 : (pj_ai G37 181 (2 * y1.toInt.toNat)).toInt = y10.toInt := by rw [show 2 * y1.toInt.toNat = z6.toInt.toNat by omega, hG37, pj_ai_wv, hG35, pj_ai_wa_nj _ _ _ _ _ (by omega), jG27.2.2 181 (by decide), hG18, pj_ai_wa_eq iG11.1 rfl]
        have hold : ∀ j : Nat, j < 2 * y1.toInt.toNat → pj_ai G37 181 j = pj_ai G0 181 j := fun j hj => by rw [hG37, pj_ai_wv, hG35, pj_ai_wa_nj _ _ _ _ _ (by omega), jG27.2.2 181 (by decide), hG18, pj_ai_wa_nj _ _ _ _ _ (by omega), jG11.2.2 181 (by decide)]
        exact pj_X_rt rfl rfl ⟨_, rfl, iG37, kG37, ⟨by omega, by omega⟩, (fun H hH => by subst hH; exact (⟨by omega, fun _ => ⟨by omega, fun q => by rw [show (pj_fi G37 171 22).toInt = (pj_fi G0 171 22).toInt + 1 by omega]; exact pj_re_s q y1.toInt.toNat (by omega) hold (by omega)⟩⟩)), rfl⟩
    | false =>
      rw [pj_cF]
      have ub21 := pj_u0_geF b21
      refine pj_X_of (fun r h => pj_R_ifF rfl b21 h) ?_
      refine pj_X_of (fun r h => pj_R_to (G18, 97, [(3, .int z6), (2, .int y2), (0, .ref 171), (1, .int is)], [.int (Int32.ofInt 0)], 0, 0) 97 2 (fun _ => rfl) h) ?_
      have q47 : (pj_fi G18 171 22).toInt = y15.toInt := by rw [show pj_fi G18 171 22 = y15 from by rw [hG18, pj_fi_wa]; exact hy15.symm]
      have q48 : (pj_fi G18 171 6).toInt = y16.toInt := by rw [show pj_fi G18 171 6 = y16 from by rw [hG18, pj_fi_wa]; exact hy16.symm]
      have q49 : (pj_fi G18 171 3).toInt = y17.toInt := by rw [show pj_fi G18 171 3 = y17 from by rw [hG18, pj_fi_wa]; exact hy17.symm]
      exact pj_X_rt rfl rfl ⟨_, rfl, iG18, kG18, ⟨by omega, by omega⟩, (fun H hH => by subst hH; exact (⟨by omega, fun q => absurd q (by omega)⟩)), rfl⟩
  | false =>
    rw [pj_cF]
    have ub5 := pj_u_neF b5
    refine pj_X_of (fun r h => pj_R_icF rfl b5 h) ?_
    refine pj_X_of (fun r h => pj_R_to (G0, 37, [(2, .int y2), (0, .ref 171), (1, .int is)], [.int (Int32.ofInt 0)], 0, 0) 37 2 (fun _ => rfl) h) ?_
    have q50 : (pj_fi G0 171 22).toInt = y1.toInt := by rw [show pj_fi G0 171 22 = y1 from hy1.symm]
    have q51 : (pj_fi G0 171 6).toInt = y2.toInt := by rw [show pj_fi G0 171 6 = y2 from hy2.symm]
    have q52 : (pj_fi G0 171 3).toInt = y3.toInt := by rw [show pj_fi G0 171 3 = y3 from hy3.symm]
    exact pj_X_rt rfl rfl ⟨_, rfl, hI, hK, ⟨by omega, by omega⟩, (fun H hH => by subst hH; exact (⟨by omega, fun q => absurd q (by omega)⟩)), rfl⟩
theorem fr_194_0x (G0 : pj_G) (hI : pj_Inv G0) (is : Int32) (ris : (0 : Int) ≤ is.toInt ∧ is.toInt ≤ 0) (p0_ : (pj_fi G0 171 6).toInt + (pj_fi G0 171 22).toInt ≤ 6) : pj_Inv (F_194_0x G0 is).2 ∧ pj_kpt kc_193_0x G0 (F_194_0x G0 is).2 ∧ ((0 : Int) ≤ (F_194_0x G0 is).1.toInt ∧ (F_194_0x G0 is).1.toInt ≤ 1) ∧ (((pj_fi G0 171 22).toInt ≤ (pj_fi (F_194_0x G0 is).2 171 22).toInt ∧ (pj_fi (F_194_0x G0 is).2 171 22).toInt ≤ (pj_fi G0 171 22).toInt + 1 ∧ (pj_fi (F_194_0x G0 is).2 171 6).toInt + (pj_fi (F_194_0x G0 is).2 171 22).toInt ≤ 6) ∧ (1 ≤ (F_194_0x G0 is).1.toInt → (pj_fi (F_194_0x G0 is).2 171 22).toInt = (pj_fi G0 171 22).toInt + 1 ∧ (pj_re G0 (pj_fi G0 171 22).toInt → pj_re (F_194_0x G0 is).2 (pj_fi (F_194_0x G0 is).2 171 22).toInt))) := by
  obtain ⟨v, G', -, y, -, i, j, r, x, e⟩ := ct_193_0x G0 hI is ris p0_
  rw [← e]
  exact ⟨i, j, r, x _ rfl⟩
def kc_194_1tx : pj_KT := ([(171, 16), (171, 17), (171, 18), (171, 19), (171, 22)], [171, 181], [181])
noncomputable def L_195_1tx (G0 : pj_G) (is : Int32) (fu : Nat) : Int32 → Int32 → Int32 → pj_G → Int32 × pj_G := Nat.rec (motive := fun _ => Int32 → Int32 → Int32 → pj_G → Int32 × pj_G) (fun _ _ _ G => (0, G)) (fun _ ih v2 v3 v4 G => cond (pj_c1 .eq v4 0) (pj_nm (F_189x G v2 ((Int8.ofInt 17).toInt32) v3) (fun y8 => (y8, G))) (pj_bd (F_194_1x G is) (fun y15 G16 => cond (pj_c1 .eq y15 0) (ih v2 y15 (Int32.ofInt 0) G16) (pj_bd (F_183x G16 ((Int8.ofInt 59).toInt32)) (fun y29 G30 => cond (pj_c1 .eq y29 0) (ih v2 y15 (Int32.ofInt 0) G30) (ih v2 y15 (Int32.ofInt 1) G30)))))) fu
theorem L_195_1tx_s0 (G0 : pj_G) (is : Int32) (fu : Nat) (v2 : Int32) (v3 : Int32) (v4 : Int32) (G : pj_G) : L_195_1tx G0 is (fu + 1) v2 v3 v4 G = cond (pj_c1 .eq v4 0) (pj_nm (F_189x G v2 ((Int8.ofInt 17).toInt32) v3) (fun y8 => (y8, G))) (pj_bd (F_194_1x G is) (fun y15 G16 => cond (pj_c1 .eq y15 0) (L_195_1tx G0 is fu v2 y15 (Int32.ofInt 0) G16) (pj_bd (F_183x G16 ((Int8.ofInt 59).toInt32)) (fun y29 G30 => cond (pj_c1 .eq y29 0) (L_195_1tx G0 is fu v2 y15 (Int32.ofInt 0) G30) (L_195_1tx G0 is fu v2 y15 (Int32.ofInt 1) G30))))) := rfl
noncomputable def F_195_1tx (G0 : pj_G) (is : Int32) : Int32 × pj_G := pj_bd (F_182etx G0 ((Int8.ofInt 17).toInt32)) (fun y50 G51 => pj_nm (pj_wv G51 171 22 (.int (Int32.ofInt 0))) (fun G57 => cond (pj_c1 .le y50 0) (L_195_1tx G0 is 301 y50 (Int32.ofInt 1) (Int32.ofInt 0) G57) (L_195_1tx G0 is 301 y50 (Int32.ofInt 1) (Int32.ofInt 1) G57)))
theorem F_195_1tx_e (G0 : pj_G) (is : Int32) : F_195_1tx G0 is = pj_bd (F_182etx G0 ((Int8.ofInt 17).toInt32)) (fun y50 G51 => pj_nm (pj_wv G51 171 22 (.int (Int32.ofInt 0))) (fun G57 => cond (pj_c1 .le y50 0) (L_195_1tx G0 is 301 y50 (Int32.ofInt 1) (Int32.ofInt 0) G57) (L_195_1tx G0 is 301 y50 (Int32.ofInt 1) (Int32.ofInt 1) G57))) := rfl
theorem lp_ct_194_1tx (G0 : pj_G) (hI0 : pj_Inv G0) (is : Int32) (ris : (1 : Int) ≤ is.toInt ∧ is.toInt ≤ 1) : ∀ mn : Nat, (∀ (G : pj_G) (hI : pj_Inv G) (hK : pj_kpt kc_194_1tx G0 G) (v2 : Int32) (v3 : Int32) (v4 : Int32), ((0 : Int) ≤ v2.toInt ∧ v2.toInt ≤ 80) → ((0 : Int) ≤ v3.toInt ∧ v3.toInt ≤ 1) → ((0 : Int) ≤ v4.toInt ∧ v4.toInt ≤ 1) → ((pj_fi G 171 22).toInt ≤ 6) → ((pj_fi G 171 5).toInt + (pj_fi G 171 22).toInt ≤ 6) → (1 ≤ v4.toInt → 1 ≤ v3.toInt) → ((pj_fi G 171 16).toInt = 0) → 20 * (7 - (pj_fi G 171 22).toInt) + 10 * v4.toInt < (mn : Int) → pj_X 18 pj_m194 G 25 [(0, .ref 171), (1, .int is), (2, .int v2), (3, .int v3), (4, .int v4)] [] (fun v' G' => ∃ y : Int32, v' = some (.int y) ∧ pj_Inv G' ∧ pj_kpt kc_194_1tx G0 G' ∧ ((-81 : Int) ≤ y.toInt ∧ y.toInt ≤ 0) ∧ (((pj_fi G' 171 5).toInt + (pj_fi G' 171 22).toInt ≤ 6) ∧ (pj_fi G' 171 16).toInt = 0) ∧ ((y, G') = L_195_1tx G0 is mn v2 v3 v4 G))) := by
  have c0_ : ((Int8.ofInt 17).toInt32).toInt = 17 := by decide
  have c1_ : ((Int8.ofInt 59).toInt32).toInt = 59 := by decide
  have c2_ : (Int32.ofInt 0).toInt = 0 := by decide
  have c3_ : (Int32.ofInt 1).toInt = 1 := by decide
  intro mn
  induction mn with
  | zero =>
    intro G hI hK v2 v3 v4 rv2 rv3 rv4 x0_ x1_ x2_ x3_ hm
    exfalso
    omega
  | succ mn ih =>
    intro G hI hK v2 v3 v4 rv2 rv3 rv4 x0_ x1_ x2_ x3_ hm
    rw [L_195_1tx_s0]
    obtain ⟨y1, hy1⟩ : ∃ z : Int32, z = pj_fi G 171 22 := ⟨_, rfl⟩
    have ey1 : (pj_fi G 171 22).toInt = y1.toInt := by rw [hy1]
    have ry1 : (0 : Int) ≤ y1.toInt ∧ y1.toInt ≤ 10 := by rw [hy1]; exact hI.2.1 171 22 (0, 10) rfl
    obtain ⟨y2, hy2⟩ : ∃ z : Int32, z = pj_fi G 171 5 := ⟨_, rfl⟩
    have ey2 : (pj_fi G 171 5).toInt = y2.toInt := by rw [hy2]
    have ry2 : (0 : Int) ≤ y2.toInt ∧ y2.toInt ≤ 6 := by rw [hy2]; exact hI.2.1 171 5 (0, 6) rfl
    obtain ⟨y3, hy3⟩ : ∃ z : Int32, z = pj_fi G 171 16 := ⟨_, rfl⟩
    have ey3 : (pj_fi G 171 16).toInt = y3.toInt := by rw [hy3]
    have ry3 : (0 : Int) ≤ y3.toInt ∧ y3.toInt ≤ 80 := by rw [hy3]; exact hI.2.1 171 16 (0, 80) rfl
    refine pj_X_of (fun r h => pj_R_to (G, 27, [(0, .ref 171), (1, .int is), (2, .int v2), (3, .int v3), (4, .int v4)], [.int v4], 0, 0) 27 2 (fun _ => rfl) h) ?_
    cases b4 : pj_c1 .eq v4 0 with
    | true =>
      rw [pj_cT]
      have ub4 := pj_u0_eqT b4
      refine pj_X_of (fun r h => pj_R_ifT 59 rfl rfl b4 h) ?_
      refine pj_X_of (fun r h => pj_R_to (G, 64, [(0, .ref 171), (1, .int is), (2, .int v2), (3, .int v3), (4, .int v4)], [.int v3, .int ((Int8.ofInt 17).toInt32), .int v2, .ref 171], 0, 0) 64 5 (fun _ => rfl) h) ?_
      have q5 : (pj_fi G 171 22).toInt = y1.toInt := by rw [show pj_fi G 171 22 = y1 from hy1.symm]
      have q6 : (pj_fi G 171 5).toInt = y2.toInt := by rw [show pj_fi G 171 5 = y2 from hy2.symm]
      have q7 : (pj_fi G 171 16).toInt = y3.toInt := by rw [show pj_fi G 171 16 = y3 from hy3.symm]
      refine pj_X_ca (vs := [.ref 171, .int v2, .int ((Int8.ofInt 17).toInt32), .int v3]) rfl (fun _ => rfl) ⟨Nat.le_of_ble_eq_true rfl, Nat.le_of_ble_eq_true rfl, pj_T_rcv hI rfl⟩ ⟨rfl, rfl⟩ (pj_Y_up (by decide) (ct_188x G hI v2 ((Int8.ofInt 17).toInt32) v3 ⟨by omega, by omega⟩ ⟨by omega, by omega⟩ ⟨by omega, by omega⟩)) ?_
      rintro _ _ ⟨y8, rfl, rfl, ry8, ey8, fy8⟩
      replace ey8 := ey8 _ rfl
      rw [← fy8, pj_nm_e]
      show pj_X _ _ G 67 [(0, .ref 171), (1, .int is), (2, .int v2), (3, .int v3), (4, .int v4)] [.int y8] _
      have q9 : (pj_fi G 171 22).toInt = y1.toInt := by rw [show pj_fi G 171 22 = y1 from hy1.symm]
      have q10 : (pj_fi G 171 5).toInt = y2.toInt := by rw [show pj_fi G 171 5 = y2 from hy2.symm]
      have q11 : (pj_fi G 171 16).toInt = y3.toInt := by rw [show pj_fi G 171 16 = y3 from hy3.symm]
      exact pj_X_rt rfl rfl ⟨_, rfl, hI, hK, ⟨by omega, by omega⟩, by omega, rfl⟩
    | false =>
      rw [pj_cF]
      have ub4 := pj_u0_eqF b4
      refine pj_X_of (fun r h => pj_R_ifF rfl b4 h) ?_
      refine pj_X_of (fun r h => pj_R_to (G, 32, [(0, .ref 171), (1, .int is), (2, .int v2), (3, .int v3), (4, .int v4)], [.int is, .ref 171], 0, 0) 32 3 (fun _ => rfl) h) ?_
      have q12 : (pj_fi G 171 22).toInt = y1.toInt := by rw [show pj_fi G 171 22 = y1 from hy1.symm]
      have q13 : (pj_fi G 171 5).toInt = y2.toInt := by rw [show pj_fi G 171 5 = y2 from hy2.symm]
      have q14 : (pj_fi G 171 16).toInt = y3.toInt := by rw [show pj_fi G 171 16 = y3 from hy3.symm]
      refine pj_X_ca (vs := [.ref 171, .int is]) rfl (fun _ => rfl) ⟨Nat.le_of_ble_eq_true rfl, Nat.le_of_ble_eq_true rfl, pj_T_rcv hI rfl⟩ ⟨rfl, rfl⟩ (pj_Y_up (by decide) (ct_193_1x G hI is ⟨by omega, by omega⟩ (by omega))) ?_
      rintro _ G16 ⟨y15, rfl, iG16, jG16, ry15, ey15, fy15⟩
      replace ey15 := ey15 _ rfl
      rw [← fy15, pj_bd_e]
      have kG16 : pj_kpt kc_194_1tx G0 G16 := pj_kpt_t hK (pj_kpt_s jG16 rfl)
      have q17 : (pj_fi G16 171 5).toInt = (pj_fi G 171 5).toInt := by rw [jG16.1 (171, 5) (by decide)]
      have q18 : (pj_fi G16 171 16).toInt = (pj_fi G 171 16).toInt := by rw [jG16.1 (171, 16) (by decide)]
      obtain ⟨y19, hy19⟩ : ∃ z : Int32, z = pj_fi G16 171 22 := ⟨_, rfl⟩
      have ey19 : (pj_fi G16 171 22).toInt = y19.toInt := by rw [hy19]
      have ry19 : (0 : Int) ≤ y19.toInt ∧ y19.toInt ≤ 10 := by rw [hy19]; exact iG16.2.1 171 22 (0, 10) rfl
      obtain ⟨y20, hy20⟩ : ∃ z : Int32, z = pj_fi G16 171 5 := ⟨_, rfl⟩
      have ey20 : (pj_fi G16 171 5).toInt = y20.toInt := by rw [hy20]
      have ry20 : (0 : Int) ≤ y20.toInt ∧ y20.toInt ≤ 6 := by rw [hy20]; exact iG16.2.1 171 5 (0, 6) rfl
      obtain ⟨y21, hy21⟩ : ∃ z : Int32, z = pj_fi G16 171 16 := ⟨_, rfl⟩
      have ey21 : (pj_fi G16 171 16).toInt = y21.toInt := by rw [hy21]
      have ry21 : (0 : Int) ≤ y21.toInt ∧ y21.toInt ≤ 80 := by rw [hy21]; exact iG16.2.1 171 16 (0, 80) rfl
      show pj_X _ _ G16 35 [(0, .ref 171), (1, .int is), (2, .int v2), (3, .int v3), (4, .int v4)] [.int y15] _
      refine pj_X_of (fun r h => pj_R_to (G16, 37, [(3, .int y15), (0, .ref 171), (1, .int is), (2, .int v2), (4, .int v4)], [.int y15], 0, 0) 37 3 (fun _ => rfl) h) ?_
      cases b22 : pj_c1 .eq y15 0 with
      | true =>
        rw [pj_cT]
        have ub22 := pj_u0_eqT b22
        refine pj_X_of (fun r h => pj_R_ifT 53 rfl rfl b22 h) ?_
        refine pj_X_of (fun r h => pj_R_to (G16, 25, [(4, .int (Int32.ofInt 0)), (3, .int y15), (0, .ref 171), (1, .int is), (2, .int v2)], [], 0, 0) 25 4 (fun _ => rfl) h) ?_
        have q23 : (pj_fi G16 171 22).toInt = y19.toInt := by rw [show pj_fi G16 171 22 = y19 from hy19.symm]
        have q24 : (pj_fi G16 171 5).toInt = y20.toInt := by rw [show pj_fi G16 171 5 = y20 from hy20.symm]
        have q25 : (pj_fi G16 171 16).toInt = y21.toInt := by rw [show pj_fi G16 171 16 = y21 from hy21.symm]
        exact pj_X_sub [(0, .ref 171), (1, .int is), (2, .int v2), (3, .int y15), (4, .int (Int32.ofInt 0))] (show List.Nodup [0, 1, 2, 3, 4] by decide) ⟨rfl, rfl, rfl, rfl, rfl, trivial⟩ (ih G16 iG16 kG16 v2 y15 (Int32.ofInt 0) ⟨by omega, by omega⟩ ⟨by omega, by omega⟩ ⟨by omega, by omega⟩ (by omega) (by omega) (by omega) (by omega) (by omega))
      | false =>
        rw [pj_cF]
        have ub22 := pj_u0_eqF b22
        refine pj_X_of (fun r h => pj_R_ifF rfl b22 h) ?_
        refine pj_X_of (fun r h => pj_R_to (G16, 43, [(3, .int y15), (0, .ref 171), (1, .int is), (2, .int v2), (4, .int v4)], [.int ((Int8.ofInt 59).toInt32), .ref 171], 0, 0) 43 3 (fun _ => rfl) h) ?_
        have q26 : (pj_fi G16 171 22).toInt = y19.toInt := by rw [show pj_fi G16 171 22 = y19 from hy19.symm]
        have q27 : (pj_fi G16 171 5).toInt = y20.toInt := by rw [show pj_fi G16 171 5 = y20 from hy20.symm]
        have q28 : (pj_fi G16 171 16).toInt = y21.toInt := by rw [show pj_fi G16 171 16 = y21 from hy21.symm]
        refine pj_X_ca (vs := [.ref 171, .int ((Int8.ofInt 59).toInt32)]) rfl (fun _ => rfl) ⟨Nat.le_of_ble_eq_true rfl, Nat.le_of_ble_eq_true rfl, pj_T_rcv iG16 rfl⟩ ⟨rfl, rfl⟩ (pj_Y_up (by decide) (ct_182x G16 iG16 ((Int8.ofInt 59).toInt32) ⟨by omega, by omega⟩)) ?_
        rintro _ G30 ⟨y29, rfl, iG30, jG30, ry29, ey29, fy29⟩
        replace ey29 := ey29 _ rfl
        rw [← fy29, pj_bd_e]
        have kG30 : pj_kpt kc_194_1tx G0 G30 := pj_kpt_t kG16 (pj_kpt_s jG30 rfl)
        have q31 : (pj_fi G30 171 22).toInt = (pj_fi G16 171 22).toInt := by rw [jG30.1 (171, 22) (by decide)]
        have q32 : (pj_fi G30 171 5).toInt = (pj_fi G16 171 5).toInt := by rw [jG30.1 (171, 5) (by decide)]
        have q33 : (pj_fi G30 171 16).toInt = (pj_fi G16 171 16).toInt := by rw [jG30.1 (171, 16) (by decide)]
        obtain ⟨y34, hy34⟩ : ∃ z : Int32, z = pj_fi G30 171 22 := ⟨_, rfl⟩
        have ey34 : (pj_fi G30 171 22).toInt = y34.toInt := by rw [hy34]
        have ry34 : (0 : Int) ≤ y34.toInt ∧ y34.toInt ≤ 10 := by rw [hy34]; exact iG30.2.1 171 22 (0, 10) rfl
        obtain ⟨y35, hy35⟩ : ∃ z : Int32, z = pj_fi G30 171 5 := ⟨_, rfl⟩
        have ey35 : (pj_fi G30 171 5).toInt = y35.toInt := by rw [hy35]
        have ry35 : (0 : Int) ≤ y35.toInt ∧ y35.toInt ≤ 6 := by rw [hy35]; exact iG30.2.1 171 5 (0, 6) rfl
        obtain ⟨y36, hy36⟩ : ∃ z : Int32, z = pj_fi G30 171 16 := ⟨_, rfl⟩
        have ey36 : (pj_fi G30 171 16).toInt = y36.toInt := by rw [hy36]
        have ry36 : (0 : Int) ≤ y36.toInt ∧ y36.toInt ≤ 80 := by rw [hy36]; exact iG30.2.1 171 16 (0, 80) rfl
        show pj_X _ _ G30 46 [(3, .int y15), (0, .ref 171), (1, .int is), (2, .int v2), (4, .int v4)] [.int y29] _
        cases b37 : pj_c1 .eq y29 0 with
        | true =>
          rw [pj_cT]
          have ub37 := pj_u0_eqT b37
          refine pj_X_of (fun r h => pj_R_ifT 53 rfl rfl b37 h) ?_
          refine pj_X_of (fun r h => pj_R_to (G30, 25, [(4, .int (Int32.ofInt 0)), (3, .int y15), (0, .ref 171), (1, .int is), (2, .int v2)], [], 0, 0) 25 4 (fun _ => rfl) h) ?_
          have q38 : (pj_fi G30 171 22).toInt = y34.toInt := by rw [show pj_fi G30 171 22 = y34 from hy34.symm]
          have q39 : (pj_fi G30 171 5).toInt = y35.toInt := by rw [show pj_fi G30 171 5 = y35 from hy35.symm]
          have q40 : (pj_fi G30 171 16).toInt = y36.toInt := by rw [show pj_fi G30 171 16 = y36 from hy36.symm]
          exact pj_X_sub [(0, .ref 171), (1, .int is), (2, .int v2), (3, .int y15), (4, .int (Int32.ofInt 0))] (show List.Nodup [0, 1, 2, 3, 4] by decide) ⟨rfl, rfl, rfl, rfl, rfl, trivial⟩ (ih G30 iG30 kG30 v2 y15 (Int32.ofInt 0) ⟨by omega, by omega⟩ ⟨by omega, by omega⟩ ⟨by omega, by omega⟩ (by omega) (by omega) (by omega) (by omega) (by omega))
        | false =>
          rw [pj_cF]
          have ub37 := pj_u0_eqF b37
          refine pj_X_of (fun r h => pj_R_ifF rfl b37 h) ?_
          refine pj_X_of (fun r h => pj_R_to (G30, 25, [(4, .int (Int32.ofInt 1)), (3, .int y15), (0, .ref 171), (1, .int is), (2, .int v2)], [], 0, 0) 25 5 (fun _ => rfl) h) ?_
          have q41 : (pj_fi G30 171 22).toInt = y34.toInt := by rw [show pj_fi G30 171 22 = y34 from hy34.symm]
          have q42 : (pj_fi G30 171 5).toInt = y35.toInt := by rw [show pj_fi G30 171 5 = y35 from hy35.symm]
          have q43 : (pj_fi G30 171 16).toInt = y36.toInt := by rw [show pj_fi G30 171 16 = y36 from hy36.symm]
          exact pj_X_sub [(0, .ref 171), (1, .int is), (2, .int v2), (3, .int y15), (4, .int (Int32.ofInt 1))] (show List.Nodup [0, 1, 2, 3, 4] by decide) ⟨rfl, rfl, rfl, rfl, rfl, trivial⟩ (ih G30 iG30 kG30 v2 y15 (Int32.ofInt 1) ⟨by omega, by omega⟩ ⟨by omega, by omega⟩ ⟨by omega, by omega⟩ (by omega) (by omega) (by omega) (by omega) (by omega))
theorem ct_194_1tx (G0 : pj_G) (hI : pj_Inv G0) (is : Int32) (ris : (1 : Int) ≤ is.toInt ∧ is.toInt ≤ 1) : pj_Y 19 194 [.ref 171, .int is] G0 (fun v' G' => ∃ y : Int32, v' = some (.int y) ∧ pj_Inv G' ∧ pj_kpt kc_194_1tx G0 G' ∧ ((-81 : Int) ≤ y.toInt ∧ y.toInt ≤ 0) ∧ (((pj_fi G' 171 5).toInt + (pj_fi G' 171 22).toInt ≤ 6) ∧ (pj_fi G' 171 16).toInt = 0) ∧ ((y, G') = F_195_1tx G0 is)) := by
  have c0_ : ((Int8.ofInt 17).toInt32).toInt = 17 := by decide
  have c1_ : ((Int8.ofInt 59).toInt32).toInt = 59 := by decide
  have c2_ : (Int32.ofInt 0).toInt = 0 := by decide
  have c3_ : (Int32.ofInt 1).toInt = 1 := by decide
  refine pj_Y_X (M := pj_m194) rfl rfl (Nat.le_of_ble_eq_true rfl) ?_
  have hK : pj_kpt kc_194_1tx G0 G0 := pj_kpt_r _ _
  show pj_X _ _ G0 0 [(0, .ref 171), (1, .int is)] [] _
  rw [F_195_1tx_e]
  obtain ⟨y44, hy44⟩ : ∃ z : Int32, z = pj_fi G0 171 22 := ⟨_, rfl⟩
  have ey44 : (pj_fi G0 171 22).toInt = y44.toInt := by rw [hy44]
  have ry44 : (0 : Int) ≤ y44.toInt ∧ y44.toInt ≤ 10 := by rw [hy44]; exact hI.2.1 171 22 (0, 10) rfl
  obtain ⟨y45, hy45⟩ : ∃ z : Int32, z = pj_fi G0 171 5 := ⟨_, rfl⟩
  have ey45 : (pj_fi G0 171 5).toInt = y45.toInt := by rw [hy45]
  have ry45 : (0 : Int) ≤ y45.toInt ∧ y45.toInt ≤ 6 := by rw [hy45]; exact hI.2.1 171 5 (0, 6) rfl
  obtain ⟨y46, hy46⟩ : ∃ z : Int32, z = pj_fi G0 171 16 := ⟨_, rfl⟩
  have ey46 : (pj_fi G0 171 16).toInt = y46.toInt := by rw [hy46]
  have ry46 : (0 : Int) ≤ y46.toInt ∧ y46.toInt ≤ 80 := by rw [hy46]; exact hI.2.1 171 16 (0, 80) rfl
  refine pj_X_of (fun r h => pj_R_to (G0, 3, [(0, .ref 171), (1, .int is)], [.int ((Int8.ofInt 17).toInt32), .ref 171], 0, 0) 3 3 (fun _ => rfl) h) ?_
  have q47 : (pj_fi G0 171 22).toInt = y44.toInt := by rw [show pj_fi G0 171 22 = y44 from hy44.symm]
  have q48 : (pj_fi G0 171 5).toInt = y45.toInt := by rw [show pj_fi G0 171 5 = y45 from hy45.symm]
  have q49 : (pj_fi G0 171 16).toInt = y46.toInt := by rw [show pj_fi G0 171 16 = y46 from hy46.symm]
  refine pj_X_ca (vs := [.ref 171, .int ((Int8.ofInt 17).toInt32)]) rfl (fun _ => rfl) ⟨Nat.le_of_ble_eq_true rfl, Nat.le_of_ble_eq_true rfl, pj_T_rcv hI rfl⟩ ⟨rfl, rfl⟩ (pj_Y_up (by decide) (ct_181etx G0 hI ((Int8.ofInt 17).toInt32) ⟨by omega, by omega⟩)) ?_
  rintro _ G51 ⟨y50, rfl, iG51, jG51, ry50, ey50, fy50⟩
  replace ey50 := ey50 _ rfl
  rw [← fy50, pj_bd_e]
  have kG51 : pj_kpt kc_194_1tx G0 G51 := pj_kpt_t hK (pj_kpt_s jG51 rfl)
  have q52 : (pj_fi G51 171 22).toInt = (pj_fi G0 171 22).toInt := by rw [jG51.1 (171, 22) (by decide)]
  have q53 : (pj_fi G51 171 5).toInt = (pj_fi G0 171 5).toInt := by rw [jG51.1 (171, 5) (by decide)]
  obtain ⟨y54, hy54⟩ : ∃ z : Int32, z = pj_fi G51 171 22 := ⟨_, rfl⟩
  have ey54 : (pj_fi G51 171 22).toInt = y54.toInt := by rw [hy54]
  have ry54 : (0 : Int) ≤ y54.toInt ∧ y54.toInt ≤ 10 := by rw [hy54]; exact iG51.2.1 171 22 (0, 10) rfl
  obtain ⟨y55, hy55⟩ : ∃ z : Int32, z = pj_fi G51 171 5 := ⟨_, rfl⟩
  have ey55 : (pj_fi G51 171 5).toInt = y55.toInt := by rw [hy55]
  have ry55 : (0 : Int) ≤ y55.toInt ∧ y55.toInt ≤ 6 := by rw [hy55]; exact iG51.2.1 171 5 (0, 6) rfl
  obtain ⟨y56, hy56⟩ : ∃ z : Int32, z = pj_fi G51 171 16 := ⟨_, rfl⟩
  have ey56 : (pj_fi G51 171 16).toInt = y56.toInt := by rw [hy56]
  have ry56 : (0 : Int) ≤ y56.toInt ∧ y56.toInt ≤ 80 := by rw [hy56]; exact iG51.2.1 171 16 (0, 80) rfl
  show pj_X _ _ G51 6 [(0, .ref 171), (1, .int is)] [.int y50] _
  refine pj_X_of (fun r h => pj_R_to (G51, 9, [(2, .int y50), (0, .ref 171), (1, .int is)], [.int (Int32.ofInt 0), .ref 171], 0, 0) 9 4 (fun _ => rfl) h) ?_
  refine pj_X_of (fun r h => pj_T_pf iG51 rfl rfl rfl h) ?_
  show pj_X _ _ (pj_wv G51 171 22 (.int (Int32.ofInt 0))) 12 [(2, .int y50), (0, .ref 171), (1, .int is)] [] _
  obtain ⟨G57, hG57⟩ : ∃ H, H = pj_wv G51 171 22 (.int (Int32.ofInt 0)) := ⟨_, rfl⟩
  have iG57 : pj_Inv G57 := by rw [hG57]; exact pj_Inv_wi iG51 (ci := 12) rfl (fun q hq => by cases hq; exact ⟨by show (0 : Int) ≤ _; omega, by show _ ≤ (10 : Int); omega⟩)
  have kG57 : pj_kpt kc_194_1tx G0 G57 := by rw [hG57]; exact pj_kpt_v kG51 rfl
  rw [← hG57]
  rw [pj_nm_e]
  refine pj_X_of (fun r h => pj_R_to (G57, 15, [(3, .int (Int32.ofInt 1)), (2, .int y50), (0, .ref 171), (1, .int is)], [.int y50], 0, 0) 15 4 (fun _ => rfl) h) ?_
  cases b58 : pj_c1 .le y50 0 with
  | true =>
    rw [pj_cT]
    have ub58 := pj_u0_leT b58
    refine pj_X_of (fun r h => pj_R_ifT 22 rfl rfl b58 h) ?_
    refine pj_X_of (fun r h => pj_R_to (G57, 25, [(4, .int (Int32.ofInt 0)), (3, .int (Int32.ofInt 1)), (2, .int y50), (0, .ref 171), (1, .int is)], [], 0, 0) 25 3 (fun _ => rfl) h) ?_
    have q59 : (pj_fi G57 171 22).toInt = (Int32.ofInt 0).toInt := by rw [show pj_fi G57 171 22 = Int32.ofInt 0 from by rw [hG57]; exact pj_fi_wi iG51.1 (ci := 12) rfl _]
    have q60 : (pj_fi G57 171 5).toInt = y55.toInt := by rw [show pj_fi G57 171 5 = y55 from by rw [hG57, pj_fi_wv_ne _ _ _ _ _ _ (by decide)]; exact hy55.symm]
    have q61 : (pj_fi G57 171 16).toInt = y56.toInt := by rw [show pj_fi G57 171 16 = y56 from by rw [hG57, pj_fi_wv_ne _ _ _ _ _ _ (by decide)]; exact hy56.symm]
    exact pj_X_sub [(0, .ref 171), (1, .int is), (2, .int y50), (3, .int (Int32.ofInt 1)), (4, .int (Int32.ofInt 0))] (show List.Nodup [0, 1, 2, 3, 4] by decide) ⟨rfl, rfl, rfl, rfl, rfl, trivial⟩ ((lp_ct_194_1tx G0 hI is ris 301) G57 iG57 kG57 y50 (Int32.ofInt 1) (Int32.ofInt 0) ⟨by omega, by omega⟩ ⟨by omega, by omega⟩ ⟨by omega, by omega⟩ (by omega) (by omega) (by omega) (by omega) (by omega))
  | false =>
    rw [pj_cF]
    have ub58 := pj_u0_leF b58
    refine pj_X_of (fun r h => pj_R_ifF rfl b58 h) ?_
    refine pj_X_of (fun r h => pj_R_to (G57, 25, [(4, .int (Int32.ofInt 1)), (3, .int (Int32.ofInt 1)), (2, .int y50), (0, .ref 171), (1, .int is)], [], 0, 0) 25 4 (fun _ => rfl) h) ?_
    have q62 : (pj_fi G57 171 22).toInt = (Int32.ofInt 0).toInt := by rw [show pj_fi G57 171 22 = Int32.ofInt 0 from by rw [hG57]; exact pj_fi_wi iG51.1 (ci := 12) rfl _]
    have q63 : (pj_fi G57 171 5).toInt = y55.toInt := by rw [show pj_fi G57 171 5 = y55 from by rw [hG57, pj_fi_wv_ne _ _ _ _ _ _ (by decide)]; exact hy55.symm]
    have q64 : (pj_fi G57 171 16).toInt = y56.toInt := by rw [show pj_fi G57 171 16 = y56 from by rw [hG57, pj_fi_wv_ne _ _ _ _ _ _ (by decide)]; exact hy56.symm]
    exact pj_X_sub [(0, .ref 171), (1, .int is), (2, .int y50), (3, .int (Int32.ofInt 1)), (4, .int (Int32.ofInt 1))] (show List.Nodup [0, 1, 2, 3, 4] by decide) ⟨rfl, rfl, rfl, rfl, rfl, trivial⟩ ((lp_ct_194_1tx G0 hI is ris 301) G57 iG57 kG57 y50 (Int32.ofInt 1) (Int32.ofInt 1) ⟨by omega, by omega⟩ ⟨by omega, by omega⟩ ⟨by omega, by omega⟩ (by omega) (by omega) (by omega) (by omega) (by omega))
theorem fr_195_1tx (G0 : pj_G) (hI : pj_Inv G0) (is : Int32) (ris : (1 : Int) ≤ is.toInt ∧ is.toInt ≤ 1) : pj_Inv (F_195_1tx G0 is).2 ∧ pj_kpt kc_194_1tx G0 (F_195_1tx G0 is).2 ∧ ((-81 : Int) ≤ (F_195_1tx G0 is).1.toInt ∧ (F_195_1tx G0 is).1.toInt ≤ 0) ∧ (((pj_fi (F_195_1tx G0 is).2 171 5).toInt + (pj_fi (F_195_1tx G0 is).2 171 22).toInt ≤ 6) ∧ (pj_fi (F_195_1tx G0 is).2 171 16).toInt = 0) := by
  obtain ⟨v, G', -, y, -, i, j, r, x, e⟩ := ct_194_1tx G0 hI is ris
  rw [← e]
  exact ⟨i, j, r, x⟩
def kc_194_0tx : pj_KT := ([(171, 16), (171, 17), (171, 18), (171, 19), (171, 22)], [171, 181], [181])
noncomputable def L_195_0tx (G0 : pj_G) (is : Int32) (fu : Nat) : Int32 → Int32 → Int32 → pj_G → Int32 × pj_G := Nat.rec (motive := fun _ => Int32 → Int32 → Int32 → pj_G → Int32 × pj_G) (fun _ _ _ G => (0, G)) (fun _ ih v2 v3 v4 G => cond (pj_c1 .eq v4 0) (pj_nm (F_189x G v2 ((Int8.ofInt 17).toInt32) v3) (fun y8 => (y8, G))) (pj_bd (F_194_0x G is) (fun y15 G16 => cond (pj_c1 .eq y15 0) (ih v2 y15 (Int32.ofInt 0) G16) (pj_bd (F_183x G16 ((Int8.ofInt 59).toInt32)) (fun y29 G30 => cond (pj_c1 .eq y29 0) (ih v2 y15 (Int32.ofInt 0) G30) (ih v2 y15 (Int32.ofInt 1) G30)))))) fu
theorem L_195_0tx_s0 (G0 : pj_G) (is : Int32) (fu : Nat) (v2 : Int32) (v3 : Int32) (v4 : Int32) (G : pj_G) : L_195_0tx G0 is (fu + 1) v2 v3 v4 G = cond (pj_c1 .eq v4 0) (pj_nm (F_189x G v2 ((Int8.ofInt 17).toInt32) v3) (fun y8 => (y8, G))) (pj_bd (F_194_0x G is) (fun y15 G16 => cond (pj_c1 .eq y15 0) (L_195_0tx G0 is fu v2 y15 (Int32.ofInt 0) G16) (pj_bd (F_183x G16 ((Int8.ofInt 59).toInt32)) (fun y29 G30 => cond (pj_c1 .eq y29 0) (L_195_0tx G0 is fu v2 y15 (Int32.ofInt 0) G30) (L_195_0tx G0 is fu v2 y15 (Int32.ofInt 1) G30))))) := rfl
noncomputable def F_195_0tx (G0 : pj_G) (is : Int32) : Int32 × pj_G := pj_bd (F_182etx G0 ((Int8.ofInt 17).toInt32)) (fun y50 G51 => pj_nm (pj_wv G51 171 22 (.int (Int32.ofInt 0))) (fun G57 => cond (pj_c1 .le y50 0) (L_195_0tx G0 is 301 y50 (Int32.ofInt 1) (Int32.ofInt 0) G57) (L_195_0tx G0 is 301 y50 (Int32.ofInt 1) (Int32.ofInt 1) G57)))
theorem F_195_0tx_e (G0 : pj_G) (is : Int32) : F_195_0tx G0 is = pj_bd (F_182etx G0 ((Int8.ofInt 17).toInt32)) (fun y50 G51 => pj_nm (pj_wv G51 171 22 (.int (Int32.ofInt 0))) (fun G57 => cond (pj_c1 .le y50 0) (L_195_0tx G0 is 301 y50 (Int32.ofInt 1) (Int32.ofInt 0) G57) (L_195_0tx G0 is 301 y50 (Int32.ofInt 1) (Int32.ofInt 1) G57))) := rfl
theorem lp_ct_194_0tx (G0 : pj_G) (hI0 : pj_Inv G0) (is : Int32) (ris : (0 : Int) ≤ is.toInt ∧ is.toInt ≤ 0) : ∀ mn : Nat, (∀ (G : pj_G) (hI : pj_Inv G) (hK : pj_kpt kc_194_0tx G0 G) (v2 : Int32) (v3 : Int32) (v4 : Int32), ((0 : Int) ≤ v2.toInt ∧ v2.toInt ≤ 80) → ((0 : Int) ≤ v3.toInt ∧ v3.toInt ≤ 1) → ((0 : Int) ≤ v4.toInt ∧ v4.toInt ≤ 1) → (1 ≤ v3.toInt → pj_re G (pj_fi G 171 22).toInt) → ((pj_fi G 171 22).toInt ≤ 6) → ((pj_fi G 171 6).toInt + (pj_fi G 171 22).toInt ≤ 6) → (1 ≤ v4.toInt → 1 ≤ v3.toInt) → ((pj_fi G 171 16).toInt = 0) → 20 * (7 - (pj_fi G 171 22).toInt) + 10 * v4.toInt < (mn : Int) → pj_X 18 pj_m194 G 25 [(0, .ref 171), (1, .int is), (2, .int v2), (3, .int v3), (4, .int v4)] [] (fun v' G' => ∃ y : Int32, v' = some (.int y) ∧ pj_Inv G' ∧ pj_kpt kc_194_0tx G0 G' ∧ ((-81 : Int) ≤ y.toInt ∧ y.toInt ≤ 0) ∧ (((pj_fi G' 171 16).toInt = 0) ∧ ((pj_fi G' 171 6).toInt + (pj_fi G' 171 22).toInt ≤ 6 ∧ (0 ≤ y.toInt → pj_re G' (pj_fi G' 171 22).toInt))) ∧ ((y, G') = L_195_0tx G0 is mn v2 v3 v4 G))) := by
  have c0_ : ((Int8.ofInt 17).toInt32).toInt = 17 := by decide
  have c1_ : ((Int8.ofInt 59).toInt32).toInt = 59 := by decide
  have c2_ : (Int32.ofInt 0).toInt = 0 := by decide
  have c3_ : (Int32.ofInt 1).toInt = 1 := by decide
  intro mn
  induction mn with
  | zero =>
    intro G hI hK v2 v3 v4 rv2 rv3 rv4 x0_ x1_ x2_ x3_ x4_ hm
    exfalso
    omega
  | succ mn ih =>
    intro G hI hK v2 v3 v4 rv2 rv3 rv4 x0_ x1_ x2_ x3_ x4_ hm
    rw [L_195_0tx_s0]
    obtain ⟨y1, hy1⟩ : ∃ z : Int32, z = pj_fi G 171 22 := ⟨_, rfl⟩
    have ey1 : (pj_fi G 171 22).toInt = y1.toInt := by rw [hy1]
    have ry1 : (0 : Int) ≤ y1.toInt ∧ y1.toInt ≤ 10 := by rw [hy1]; exact hI.2.1 171 22 (0, 10) rfl
    obtain ⟨y2, hy2⟩ : ∃ z : Int32, z = pj_fi G 171 6 := ⟨_, rfl⟩
    have ey2 : (pj_fi G 171 6).toInt = y2.toInt := by rw [hy2]
    have ry2 : (0 : Int) ≤ y2.toInt ∧ y2.toInt ≤ 6 := by rw [hy2]; exact hI.2.1 171 6 (0, 6) rfl
    obtain ⟨y3, hy3⟩ : ∃ z : Int32, z = pj_fi G 171 16 := ⟨_, rfl⟩
    have ey3 : (pj_fi G 171 16).toInt = y3.toInt := by rw [hy3]
    have ry3 : (0 : Int) ≤ y3.toInt ∧ y3.toInt ≤ 80 := by rw [hy3]; exact hI.2.1 171 16 (0, 80) rfl
    refine pj_X_of (fun r h => pj_R_to (G, 27, [(0, .ref 171), (1, .int is), (2, .int v2), (3, .int v3), (4, .int v4)], [.int v4], 0, 0) 27 2 (fun _ => rfl) h) ?_
    cases b4 : pj_c1 .eq v4 0 with
    | true =>
      rw [pj_cT]
      have ub4 := pj_u0_eqT b4
      refine pj_X_of (fun r h => pj_R_ifT 59 rfl rfl b4 h) ?_
      refine pj_X_of (fun r h => pj_R_to (G, 64, [(0, .ref 171), (1, .int is), (2, .int v2), (3, .int v3), (4, .int v4)], [.int v3, .int ((Int8.ofInt 17).toInt32), .int v2, .ref 171], 0, 0) 64 5 (fun _ => rfl) h) ?_
      have q5 : (pj_fi G 171 22).toInt = y1.toInt := by rw [show pj_fi G 171 22 = y1 from hy1.symm]
      have q6 : (pj_fi G 171 6).toInt = y2.toInt := by rw [show pj_fi G 171 6 = y2 from hy2.symm]
      have q7 : (pj_fi G 171 16).toInt = y3.toInt := by rw [show pj_fi G 171 16 = y3 from hy3.symm]
      refine pj_X_ca (vs := [.ref 171, .int v2, .int ((Int8.ofInt 17).toInt32), .int v3]) rfl (fun _ => rfl) ⟨Nat.le_of_ble_eq_true rfl, Nat.le_of_ble_eq_true rfl, pj_T_rcv hI rfl⟩ ⟨rfl, rfl⟩ (pj_Y_up (by decide) (ct_188x G hI v2 ((Int8.ofInt 17).toInt32) v3 ⟨by omega, by omega⟩ ⟨by omega, by omega⟩ ⟨by omega, by omega⟩)) ?_
      rintro _ _ ⟨y8, rfl, rfl, ry8, ey8, fy8⟩
      replace ey8 := ey8 _ rfl
      rw [← fy8, pj_nm_e]
      show pj_X _ _ G 67 [(0, .ref 171), (1, .int is), (2, .int v2), (3, .int v3), (4, .int v4)] [.int y8] _
      have q9 : (pj_fi G 171 22).toInt = y1.toInt := by rw [show pj_fi G 171 22 = y1 from hy1.symm]
      have q10 : (pj_fi G 171 6).toInt = y2.toInt := by rw [show pj_fi G 171 6 = y2 from hy2.symm]
      have q11 : (pj_fi G 171 16).toInt = y3.toInt := by rw [show pj_fi G 171 16 = y3 from hy3.symm]
      exact pj_X_rt rfl rfl ⟨_, rfl, hI, hK, ⟨by omega, by omega⟩, ⟨by omega, by omega, fun q => x0_ (by omega)⟩, rfl⟩
    | false =>
      rw [pj_cF]
      have ub4 := pj_u0_eqF b4
      refine pj_X_of (fun r h => pj_R_ifF rfl b4 h) ?_
      refine pj_X_of (fun r h => pj_R_to (G, 32, [(0, .ref 171), (1, .int is), (2, .int v2), (3, .int v3), (4, .int v4)], [.int is, .ref 171], 0, 0) 32 3 (fun _ => rfl) h) ?_
      have q12 : (pj_fi G 171 22).toInt = y1.toInt := by rw [show pj_fi G 171 22 = y1 from hy1.symm]
      have q13 : (pj_fi G 171 6).toInt = y2.toInt := by rw [show pj_fi G 171 6 = y2 from hy2.symm]
      have q14 : (pj_fi G 171 16).toInt = y3.toInt := by rw [show pj_fi G 171 16 = y3 from hy3.symm]
      refine pj_X_ca (vs := [.ref 171, .int is]) rfl (fun _ => rfl) ⟨Nat.le_of_ble_eq_true rfl, Nat.le_of_ble_eq_true rfl, pj_T_rcv hI rfl⟩ ⟨rfl, rfl⟩ (pj_Y_up (by decide) (ct_193_0x G hI is ⟨by omega, by omega⟩ (by omega))) ?_
      rintro _ G16 ⟨y15, rfl, iG16, jG16, ry15, ey15, fy15⟩
      replace ey15 := ey15 _ rfl
      rw [← fy15, pj_bd_e]
      have kG16 : pj_kpt kc_194_0tx G0 G16 := pj_kpt_t hK (pj_kpt_s jG16 rfl)
      have q17 : (pj_fi G16 171 6).toInt = (pj_fi G 171 6).toInt := by rw [jG16.1 (171, 6) (by decide)]
      have q18 : (pj_fi G16 171 16).toInt = (pj_fi G 171 16).toInt := by rw [jG16.1 (171, 16) (by decide)]
      obtain ⟨y19, hy19⟩ : ∃ z : Int32, z = pj_fi G16 171 22 := ⟨_, rfl⟩
      have ey19 : (pj_fi G16 171 22).toInt = y19.toInt := by rw [hy19]
      have ry19 : (0 : Int) ≤ y19.toInt ∧ y19.toInt ≤ 10 := by rw [hy19]; exact iG16.2.1 171 22 (0, 10) rfl
      obtain ⟨y20, hy20⟩ : ∃ z : Int32, z = pj_fi G16 171 6 := ⟨_, rfl⟩
      have ey20 : (pj_fi G16 171 6).toInt = y20.toInt := by rw [hy20]
      have ry20 : (0 : Int) ≤ y20.toInt ∧ y20.toInt ≤ 6 := by rw [hy20]; exact iG16.2.1 171 6 (0, 6) rfl
      obtain ⟨y21, hy21⟩ : ∃ z : Int32, z = pj_fi G16 171 16 := ⟨_, rfl⟩
      have ey21 : (pj_fi G16 171 16).toInt = y21.toInt := by rw [hy21]
      have ry21 : (0 : Int) ≤ y21.toInt ∧ y21.toInt ≤ 80 := by rw [hy21]; exact iG16.2.1 171 16 (0, 80) rfl
      show pj_X _ _ G16 35 [(0, .ref 171), (1, .int is), (2, .int v2), (3, .int v3), (4, .int v4)] [.int y15] _
      refine pj_X_of (fun r h => pj_R_to (G16, 37, [(3, .int y15), (0, .ref 171), (1, .int is), (2, .int v2), (4, .int v4)], [.int y15], 0, 0) 37 3 (fun _ => rfl) h) ?_
      cases b22 : pj_c1 .eq y15 0 with
      | true =>
        rw [pj_cT]
        have ub22 := pj_u0_eqT b22
        refine pj_X_of (fun r h => pj_R_ifT 53 rfl rfl b22 h) ?_
        refine pj_X_of (fun r h => pj_R_to (G16, 25, [(4, .int (Int32.ofInt 0)), (3, .int y15), (0, .ref 171), (1, .int is), (2, .int v2)], [], 0, 0) 25 4 (fun _ => rfl) h) ?_
        have q23 : (pj_fi G16 171 22).toInt = y19.toInt := by rw [show pj_fi G16 171 22 = y19 from hy19.symm]
        have q24 : (pj_fi G16 171 6).toInt = y20.toInt := by rw [show pj_fi G16 171 6 = y20 from hy20.symm]
        have q25 : (pj_fi G16 171 16).toInt = y21.toInt := by rw [show pj_fi G16 171 16 = y21 from hy21.symm]
        exact pj_X_sub [(0, .ref 171), (1, .int is), (2, .int v2), (3, .int y15), (4, .int (Int32.ofInt 0))] (show List.Nodup [0, 1, 2, 3, 4] by decide) ⟨rfl, rfl, rfl, rfl, rfl, trivial⟩ (ih G16 iG16 kG16 v2 y15 (Int32.ofInt 0) ⟨by omega, by omega⟩ ⟨by omega, by omega⟩ ⟨by omega, by omega⟩ (fun q => (ey15.2 q).2 (x0_ (by omega))) (by omega) (by omega) (by omega) (by omega) (by omega))
      | false =>
        rw [pj_cF]
        have ub22 := pj_u0_eqF b22
        refine pj_X_of (fun r h => pj_R_ifF rfl b22 h) ?_
        refine pj_X_of (fun r h => pj_R_to (G16, 43, [(3, .int y15), (0, .ref 171), (1, .int is), (2, .int v2), (4, .int v4)], [.int ((Int8.ofInt 59).toInt32), .ref 171], 0, 0) 43 3 (fun _ => rfl) h) ?_
        have q26 : (pj_fi G16 171 22).toInt = y19.toInt := by rw [show pj_fi G16 171 22 = y19 from hy19.symm]
        have q27 : (pj_fi G16 171 6).toInt = y20.toInt := by rw [show pj_fi G16 171 6 = y20 from hy20.symm]
        have q28 : (pj_fi G16 171 16).toInt = y21.toInt := by rw [show pj_fi G16 171 16 = y21 from hy21.symm]
        refine pj_X_ca (vs := [.ref 171, .int ((Int8.ofInt 59).toInt32)]) rfl (fun _ => rfl) ⟨Nat.le_of_ble_eq_true rfl, Nat.le_of_ble_eq_true rfl, pj_T_rcv iG16 rfl⟩ ⟨rfl, rfl⟩ (pj_Y_up (by decide) (ct_182x G16 iG16 ((Int8.ofInt 59).toInt32) ⟨by omega, by omega⟩)) ?_
        rintro _ G30 ⟨y29, rfl, iG30, jG30, ry29, ey29, fy29⟩
        replace ey29 := ey29 _ rfl
        rw [← fy29, pj_bd_e]
        have kG30 : pj_kpt kc_194_0tx G0 G30 := pj_kpt_t kG16 (pj_kpt_s jG30 rfl)
        have q31 : (pj_fi G30 171 22).toInt = (pj_fi G16 171 22).toInt := by rw [jG30.1 (171, 22) (by decide)]
        have q32 : (pj_fi G30 171 6).toInt = (pj_fi G16 171 6).toInt := by rw [jG30.1 (171, 6) (by decide)]
        have q33 : (pj_fi G30 171 16).toInt = (pj_fi G16 171 16).toInt := by rw [jG30.1 (171, 16) (by decide)]
        obtain ⟨y34, hy34⟩ : ∃ z : Int32, z = pj_fi G30 171 22 := ⟨_, rfl⟩
        have ey34 : (pj_fi G30 171 22).toInt = y34.toInt := by rw [hy34]
        have ry34 : (0 : Int) ≤ y34.toInt ∧ y34.toInt ≤ 10 := by rw [hy34]; exact iG30.2.1 171 22 (0, 10) rfl
        obtain ⟨y35, hy35⟩ : ∃ z : Int32, z = pj_fi G30 171 6 := ⟨_, rfl⟩
        have ey35 : (pj_fi G30 171 6).toInt = y35.toInt := by rw [hy35]
        have ry35 : (0 : Int) ≤ y35.toInt ∧ y35.toInt ≤ 6 := by rw [hy35]; exact iG30.2.1 171 6 (0, 6) rfl
        obtain ⟨y36, hy36⟩ : ∃ z : Int32, z = pj_fi G30 171 16 := ⟨_, rfl⟩
        have ey36 : (pj_fi G30 171 16).toInt = y36.toInt := by rw [hy36]
        have ry36 : (0 : Int) ≤ y36.toInt ∧ y36.toInt ≤ 80 := by rw [hy36]; exact iG30.2.1 171 16 (0, 80) rfl
        show pj_X _ _ G30 46 [(3, .int y15), (0, .ref 171), (1, .int is), (2, .int v2), (4, .int v4)] [.int y29] _
        cases b37 : pj_c1 .eq y29 0 with
        | true =>
          rw [pj_cT]
          have ub37 := pj_u0_eqT b37
          refine pj_X_of (fun r h => pj_R_ifT 53 rfl rfl b37 h) ?_
          refine pj_X_of (fun r h => pj_R_to (G30, 25, [(4, .int (Int32.ofInt 0)), (3, .int y15), (0, .ref 171), (1, .int is), (2, .int v2)], [], 0, 0) 25 4 (fun _ => rfl) h) ?_
          have q38 : (pj_fi G30 171 22).toInt = y34.toInt := by rw [show pj_fi G30 171 22 = y34 from hy34.symm]
          have q39 : (pj_fi G30 171 6).toInt = y35.toInt := by rw [show pj_fi G30 171 6 = y35 from hy35.symm]
          have q40 : (pj_fi G30 171 16).toInt = y36.toInt := by rw [show pj_fi G30 171 16 = y36 from hy36.symm]
          exact pj_X_sub [(0, .ref 171), (1, .int is), (2, .int v2), (3, .int y15), (4, .int (Int32.ofInt 0))] (show List.Nodup [0, 1, 2, 3, 4] by decide) ⟨rfl, rfl, rfl, rfl, rfl, trivial⟩ (ih G30 iG30 kG30 v2 y15 (Int32.ofInt 0) ⟨by omega, by omega⟩ ⟨by omega, by omega⟩ ⟨by omega, by omega⟩ (fun q => by rw [show pj_fi G30 171 22 = pj_fi G16 171 22 from by rw [jG30.1 (171, 22) (by decide)]]; exact pj_re_k (fun j => by rw [jG30.2.2 181 (by decide)]) ((ey15.2 (by omega)).2 (x0_ (by omega)))) (by omega) (by omega) (by omega) (by omega) (by omega))
        | false =>
          rw [pj_cF]
          have ub37 := pj_u0_eqF b37
          refine pj_X_of (fun r h => pj_R_ifF rfl b37 h) ?_
          refine pj_X_of (fun r h => pj_R_to (G30, 25, [(4, .int (Int32.ofInt 1)), (3, .int y15), (0, .ref 171), (1, .int is), (2, .int v2)], [], 0, 0) 25 5 (fun _ => rfl) h) ?_
          have q41 : (pj_fi G30 171 22).toInt = y34.toInt := by rw [show pj_fi G30 171 22 = y34 from hy34.symm]
          have q42 : (pj_fi G30 171 6).toInt = y35.toInt := by rw [show pj_fi G30 171 6 = y35 from hy35.symm]
          have q43 : (pj_fi G30 171 16).toInt = y36.toInt := by rw [show pj_fi G30 171 16 = y36 from hy36.symm]
          exact pj_X_sub [(0, .ref 171), (1, .int is), (2, .int v2), (3, .int y15), (4, .int (Int32.ofInt 1))] (show List.Nodup [0, 1, 2, 3, 4] by decide) ⟨rfl, rfl, rfl, rfl, rfl, trivial⟩ (ih G30 iG30 kG30 v2 y15 (Int32.ofInt 1) ⟨by omega, by omega⟩ ⟨by omega, by omega⟩ ⟨by omega, by omega⟩ (fun q => by rw [show pj_fi G30 171 22 = pj_fi G16 171 22 from by rw [jG30.1 (171, 22) (by decide)]]; exact pj_re_k (fun j => by rw [jG30.2.2 181 (by decide)]) ((ey15.2 (by omega)).2 (x0_ (by omega)))) (by omega) (by omega) (by omega) (by omega) (by omega))
theorem ct_194_0tx (G0 : pj_G) (hI : pj_Inv G0) (is : Int32) (ris : (0 : Int) ≤ is.toInt ∧ is.toInt ≤ 0) : pj_Y 19 194 [.ref 171, .int is] G0 (fun v' G' => ∃ y : Int32, v' = some (.int y) ∧ pj_Inv G' ∧ pj_kpt kc_194_0tx G0 G' ∧ ((-81 : Int) ≤ y.toInt ∧ y.toInt ≤ 0) ∧ (((pj_fi G' 171 16).toInt = 0) ∧ ((pj_fi G' 171 6).toInt + (pj_fi G' 171 22).toInt ≤ 6 ∧ (0 ≤ y.toInt → pj_re G' (pj_fi G' 171 22).toInt))) ∧ ((y, G') = F_195_0tx G0 is)) := by
  have c0_ : ((Int8.ofInt 17).toInt32).toInt = 17 := by decide
  have c1_ : ((Int8.ofInt 59).toInt32).toInt = 59 := by decide
  have c2_ : (Int32.ofInt 0).toInt = 0 := by decide
  have c3_ : (Int32.ofInt 1).toInt = 1 := by decide
  refine pj_Y_X (M := pj_m194) rfl rfl (Nat.le_of_ble_eq_true rfl) ?_
  have hK : pj_kpt kc_194_0tx G0 G0 := pj_kpt_r _ _
  show pj_X _ _ G0 0 [(0, .ref 171), (1, .int is)] [] _
  rw [F_195_0tx_e]
  obtain ⟨y44, hy44⟩ : ∃ z : Int32, z = pj_fi G0 171 22 := ⟨_, rfl⟩
  have ey44 : (pj_fi G0 171 22).toInt = y44.toInt := by rw [hy44]
  have ry44 : (0 : Int) ≤ y44.toInt ∧ y44.toInt ≤ 10 := by rw [hy44]; exact hI.2.1 171 22 (0, 10) rfl
  obtain ⟨y45, hy45⟩ : ∃ z : Int32, z = pj_fi G0 171 6 := ⟨_, rfl⟩
  have ey45 : (pj_fi G0 171 6).toInt = y45.toInt := by rw [hy45]
  have ry45 : (0 : Int) ≤ y45.toInt ∧ y45.toInt ≤ 6 := by rw [hy45]; exact hI.2.1 171 6 (0, 6) rfl
  obtain ⟨y46, hy46⟩ : ∃ z : Int32, z = pj_fi G0 171 16 := ⟨_, rfl⟩
  have ey46 : (pj_fi G0 171 16).toInt = y46.toInt := by rw [hy46]
  have ry46 : (0 : Int) ≤ y46.toInt ∧ y46.toInt ≤ 80 := by rw [hy46]; exact hI.2.1 171 16 (0, 80) rfl
  refine pj_X_of (fun r h => pj_R_to (G0, 3, [(0, .ref 171), (1, .int is)], [.int ((Int8.ofInt 17).toInt32), .ref 171], 0, 0) 3 3 (fun _ => rfl) h) ?_
  have q47 : (pj_fi G0 171 22).toInt = y44.toInt := by rw [show pj_fi G0 171 22 = y44 from hy44.symm]
  have q48 : (pj_fi G0 171 6).toInt = y45.toInt := by rw [show pj_fi G0 171 6 = y45 from hy45.symm]
  have q49 : (pj_fi G0 171 16).toInt = y46.toInt := by rw [show pj_fi G0 171 16 = y46 from hy46.symm]
  refine pj_X_ca (vs := [.ref 171, .int ((Int8.ofInt 17).toInt32)]) rfl (fun _ => rfl) ⟨Nat.le_of_ble_eq_true rfl, Nat.le_of_ble_eq_true rfl, pj_T_rcv hI rfl⟩ ⟨rfl, rfl⟩ (pj_Y_up (by decide) (ct_181etx G0 hI ((Int8.ofInt 17).toInt32) ⟨by omega, by omega⟩)) ?_
  rintro _ G51 ⟨y50, rfl, iG51, jG51, ry50, ey50, fy50⟩
  replace ey50 := ey50 _ rfl
  rw [← fy50, pj_bd_e]
  have kG51 : pj_kpt kc_194_0tx G0 G51 := pj_kpt_t hK (pj_kpt_s jG51 rfl)
  have q52 : (pj_fi G51 171 22).toInt = (pj_fi G0 171 22).toInt := by rw [jG51.1 (171, 22) (by decide)]
  have q53 : (pj_fi G51 171 6).toInt = (pj_fi G0 171 6).toInt := by rw [jG51.1 (171, 6) (by decide)]
  obtain ⟨y54, hy54⟩ : ∃ z : Int32, z = pj_fi G51 171 22 := ⟨_, rfl⟩
  have ey54 : (pj_fi G51 171 22).toInt = y54.toInt := by rw [hy54]
  have ry54 : (0 : Int) ≤ y54.toInt ∧ y54.toInt ≤ 10 := by rw [hy54]; exact iG51.2.1 171 22 (0, 10) rfl
  obtain ⟨y55, hy55⟩ : ∃ z : Int32, z = pj_fi G51 171 6 := ⟨_, rfl⟩
  have ey55 : (pj_fi G51 171 6).toInt = y55.toInt := by rw [hy55]
  have ry55 : (0 : Int) ≤ y55.toInt ∧ y55.toInt ≤ 6 := by rw [hy55]; exact iG51.2.1 171 6 (0, 6) rfl
  obtain ⟨y56, hy56⟩ : ∃ z : Int32, z = pj_fi G51 171 16 := ⟨_, rfl⟩
  have ey56 : (pj_fi G51 171 16).toInt = y56.toInt := by rw [hy56]
  have ry56 : (0 : Int) ≤ y56.toInt ∧ y56.toInt ≤ 80 := by rw [hy56]; exact iG51.2.1 171 16 (0, 80) rfl
  show pj_X _ _ G51 6 [(0, .ref 171), (1, .int is)] [.int y50] _
  refine pj_X_of (fun r h => pj_R_to (G51, 9, [(2, .int y50), (0, .ref 171), (1, .int is)], [.int (Int32.ofInt 0), .ref 171], 0, 0) 9 4 (fun _ => rfl) h) ?_
  refine pj_X_of (fun r h => pj_T_pf iG51 rfl rfl rfl h) ?_
  show pj_X _ _ (pj_wv G51 171 22 (.int (Int32.ofInt 0))) 12 [(2, .int y50), (0, .ref 171), (1, .int is)] [] _
  obtain ⟨G57, hG57⟩ : ∃ H, H = pj_wv G51 171 22 (.int (Int32.ofInt 0)) := ⟨_, rfl⟩
  have iG57 : pj_Inv G57 := by rw [hG57]; exact pj_Inv_wi iG51 (ci := 12) rfl (fun q hq => by cases hq; exact ⟨by show (0 : Int) ≤ _; omega, by show _ ≤ (10 : Int); omega⟩)
  have kG57 : pj_kpt kc_194_0tx G0 G57 := by rw [hG57]; exact pj_kpt_v kG51 rfl
  rw [← hG57]
  rw [pj_nm_e]
  refine pj_X_of (fun r h => pj_R_to (G57, 15, [(3, .int (Int32.ofInt 1)), (2, .int y50), (0, .ref 171), (1, .int is)], [.int y50], 0, 0) 15 4 (fun _ => rfl) h) ?_
  cases b58 : pj_c1 .le y50 0 with
  | true =>
    rw [pj_cT]
    have ub58 := pj_u0_leT b58
    refine pj_X_of (fun r h => pj_R_ifT 22 rfl rfl b58 h) ?_
    refine pj_X_of (fun r h => pj_R_to (G57, 25, [(4, .int (Int32.ofInt 0)), (3, .int (Int32.ofInt 1)), (2, .int y50), (0, .ref 171), (1, .int is)], [], 0, 0) 25 3 (fun _ => rfl) h) ?_
    have q59 : (pj_fi G57 171 22).toInt = (Int32.ofInt 0).toInt := by rw [show pj_fi G57 171 22 = Int32.ofInt 0 from by rw [hG57]; exact pj_fi_wi iG51.1 (ci := 12) rfl _]
    have q60 : (pj_fi G57 171 6).toInt = y55.toInt := by rw [show pj_fi G57 171 6 = y55 from by rw [hG57, pj_fi_wv_ne _ _ _ _ _ _ (by decide)]; exact hy55.symm]
    have q61 : (pj_fi G57 171 16).toInt = y56.toInt := by rw [show pj_fi G57 171 16 = y56 from by rw [hG57, pj_fi_wv_ne _ _ _ _ _ _ (by decide)]; exact hy56.symm]
    exact pj_X_sub [(0, .ref 171), (1, .int is), (2, .int y50), (3, .int (Int32.ofInt 1)), (4, .int (Int32.ofInt 0))] (show List.Nodup [0, 1, 2, 3, 4] by decide) ⟨rfl, rfl, rfl, rfl, rfl, trivial⟩ ((lp_ct_194_0tx G0 hI is ris 301) G57 iG57 kG57 y50 (Int32.ofInt 1) (Int32.ofInt 0) ⟨by omega, by omega⟩ ⟨by omega, by omega⟩ ⟨by omega, by omega⟩ (fun _ => pj_re_0 (by omega)) (by omega) (by omega) (by omega) (by omega) (by omega))
  | false =>
    rw [pj_cF]
    have ub58 := pj_u0_leF b58
    refine pj_X_of (fun r h => pj_R_ifF rfl b58 h) ?_
    refine pj_X_of (fun r h => pj_R_to (G57, 25, [(4, .int (Int32.ofInt 1)), (3, .int (Int32.ofInt 1)), (2, .int y50), (0, .ref 171), (1, .int is)], [], 0, 0) 25 4 (fun _ => rfl) h) ?_
    have q62 : (pj_fi G57 171 22).toInt = (Int32.ofInt 0).toInt := by rw [show pj_fi G57 171 22 = Int32.ofInt 0 from by rw [hG57]; exact pj_fi_wi iG51.1 (ci := 12) rfl _]
    have q63 : (pj_fi G57 171 6).toInt = y55.toInt := by rw [show pj_fi G57 171 6 = y55 from by rw [hG57, pj_fi_wv_ne _ _ _ _ _ _ (by decide)]; exact hy55.symm]
    have q64 : (pj_fi G57 171 16).toInt = y56.toInt := by rw [show pj_fi G57 171 16 = y56 from by rw [hG57, pj_fi_wv_ne _ _ _ _ _ _ (by decide)]; exact hy56.symm]
    exact pj_X_sub [(0, .ref 171), (1, .int is), (2, .int y50), (3, .int (Int32.ofInt 1)), (4, .int (Int32.ofInt 1))] (show List.Nodup [0, 1, 2, 3, 4] by decide) ⟨rfl, rfl, rfl, rfl, rfl, trivial⟩ ((lp_ct_194_0tx G0 hI is ris 301) G57 iG57 kG57 y50 (Int32.ofInt 1) (Int32.ofInt 1) ⟨by omega, by omega⟩ ⟨by omega, by omega⟩ ⟨by omega, by omega⟩ (fun _ => pj_re_0 (by omega)) (by omega) (by omega) (by omega) (by omega) (by omega))
theorem fr_195_0tx (G0 : pj_G) (hI : pj_Inv G0) (is : Int32) (ris : (0 : Int) ≤ is.toInt ∧ is.toInt ≤ 0) : pj_Inv (F_195_0tx G0 is).2 ∧ pj_kpt kc_194_0tx G0 (F_195_0tx G0 is).2 ∧ ((-81 : Int) ≤ (F_195_0tx G0 is).1.toInt ∧ (F_195_0tx G0 is).1.toInt ≤ 0) ∧ (((pj_fi (F_195_0tx G0 is).2 171 16).toInt = 0) ∧ ((pj_fi (F_195_0tx G0 is).2 171 6).toInt + (pj_fi (F_195_0tx G0 is).2 171 22).toInt ≤ 6 ∧ (0 ≤ (F_195_0tx G0 is).1.toInt → pj_re (F_195_0tx G0 is).2 (pj_fi (F_195_0tx G0 is).2 171 22).toInt))) := by
  obtain ⟨v, G', -, y, -, i, j, r, x, e⟩ := ct_194_0tx G0 hI is ris
  rw [← e]
  exact ⟨i, j, r, x⟩
def kc_195tx : pj_KT := ([(171, 0), (171, 5), (171, 7), (171, 16), (171, 17), (171, 18), (171, 19), (171, 22), (171, 30)], [171, 177, 179, 181], [177, 179, 181])
noncomputable def L_196tx (G0 : pj_G) (fu : Nat) : Int32 → Int32 → pj_G → Int32 × pj_G := Nat.rec (motive := fun _ => Int32 → Int32 → pj_G → Int32 × pj_G) (fun _ _ G => (0, G)) (fun _ ih v1 v2 G => pj_nm (pj_fi G 171 22) (fun y3 => cond (pj_c1 .ge v2 y3) (cond (pj_c1 .le y3 0) ((y3, G)) (pj_nm (F_193x G) (fun G16 => pj_nm (pj_fi G16 171 22) (fun y22 => (y22, G16))))) (pj_nm (pj_fi G 171 5) (fun y2 => pj_nm ((Int32.ofInt 2) * v2) (fun z28 => pj_nm (pj_ai G 181 z28.toInt.toNat) (fun z29 => pj_nm (pj_wa G 177 y2.toInt.toNat z29) (fun G30 => pj_nm ((Int32.ofInt 4) * y2) (fun z31 => pj_nm (z31 + (Int32.ofInt 0)) (fun z32 => pj_nm (pj_wa G30 179 z32.toInt.toNat (Int32.ofInt (-1))) (fun G33 => pj_nm (z31 + (Int32.ofInt 1)) (fun z34 => pj_nm (pj_wa G33 179 z34.toInt.toNat (Int32.ofInt 0)) (fun G35 => pj_nm (z31 + (Int32.ofInt 2)) (fun z36 => pj_nm (pj_wa G35 179 z36.toInt.toNat (Int32.ofInt (-1))) (fun G37 => pj_nm (z31 + (Int32.ofInt 3)) (fun z38 => pj_nm (z28 + (Int32.ofInt 1)) (fun z39 => pj_nm (pj_ai G37 181 z39.toInt.toNat) (fun z40 => pj_nm (pj_wa G37 179 z38.toInt.toNat z40) (fun G41 => pj_nm (y2 + (Int32.ofInt 1)) (fun z42 => pj_nm (pj_wv G41 171 5 (.int z42)) (fun G43 => pj_nm (v2 + Int32.ofInt 1) (fun z44 => ih v1 z44 G43))))))))))))))))))))) fu
theorem L_196tx_s0 (G0 : pj_G) (fu : Nat) (v1 : Int32) (v2 : Int32) (G : pj_G) : L_196tx G0 (fu + 1) v1 v2 G = pj_nm (pj_fi G 171 22) (fun y3 => cond (pj_c1 .ge v2 y3) (cond (pj_c1 .le y3 0) ((y3, G)) (pj_nm (F_193x G) (fun G16 => pj_nm (pj_fi G16 171 22) (fun y22 => (y22, G16))))) (pj_nm (pj_fi G 171 5) (fun y2 => pj_nm ((Int32.ofInt 2) * v2) (fun z28 => pj_nm (pj_ai G 181 z28.toInt.toNat) (fun z29 => pj_nm (pj_wa G 177 y2.toInt.toNat z29) (fun G30 => pj_nm ((Int32.ofInt 4) * y2) (fun z31 => pj_nm (z31 + (Int32.ofInt 0)) (fun z32 => pj_nm (pj_wa G30 179 z32.toInt.toNat (Int32.ofInt (-1))) (fun G33 => pj_nm (z31 + (Int32.ofInt 1)) (fun z34 => pj_nm (pj_wa G33 179 z34.toInt.toNat (Int32.ofInt 0)) (fun G35 => pj_nm (z31 + (Int32.ofInt 2)) (fun z36 => pj_nm (pj_wa G35 179 z36.toInt.toNat (Int32.ofInt (-1))) (fun G37 => pj_nm (z31 + (Int32.ofInt 3)) (fun z38 => pj_nm (z28 + (Int32.ofInt 1)) (fun z39 => pj_nm (pj_ai G37 181 z39.toInt.toNat) (fun z40 => pj_nm (pj_wa G37 179 z38.toInt.toNat z40) (fun G41 => pj_nm (y2 + (Int32.ofInt 1)) (fun z42 => pj_nm (pj_wv G41 171 5 (.int z42)) (fun G43 => pj_nm (v2 + Int32.ofInt 1) (fun z44 => L_196tx G0 fu v1 z44 G43)))))))))))))))))))) := rfl
noncomputable def F_196tx (G0 : pj_G) : Int32 × pj_G := pj_nm (pj_wv G0 171 0 (.int (Int32.ofInt 0))) (fun G53 => pj_bd (F_195_1tx G53 (Int32.ofInt 1)) (fun y58 G59 => cond (pj_c1 .ge y58 0) (L_196tx G0 7 y58 (Int32.ofInt 0) G59) ((y58, G59))))
theorem F_196tx_e (G0 : pj_G) : F_196tx G0 = pj_nm (pj_wv G0 171 0 (.int (Int32.ofInt 0))) (fun G53 => pj_bd (F_195_1tx G53 (Int32.ofInt 1)) (fun y58 G59 => cond (pj_c1 .ge y58 0) (L_196tx G0 7 y58 (Int32.ofInt 0) G59) ((y58, G59)))) := rfl
theorem lp_ct_195tx (G0 : pj_G) (hI0 : pj_Inv G0) (p0_ : (pj_fi G0 171 30).toInt ≤ 15) : ∀ mn : Nat, (∀ (G : pj_G) (hI : pj_Inv G) (hK : pj_kpt kc_195tx G0 G) (v1 : Int32) (v2 : Int32), ((-81 : Int) ≤ v1.toInt ∧ v1.toInt ≤ 0) → ((0 : Int) ≤ v2.toInt ∧ v2.toInt ≤ 6) → ((pj_fi G 171 30).toInt ≤ 15) → ((pj_fi G 171 5).toInt + (pj_fi G 171 22).toInt - v2.toInt ≤ 6) → (v2.toInt ≤ (pj_fi G 171 22).toInt) → ((pj_fi G 171 22).toInt ≤ 6) → ((pj_fi G 171 16).toInt = 0) → 6 - v2.toInt < (mn : Int) → pj_X 20 pj_m195 G 19 [(0, .ref 171), (1, .int v1), (2, .int v2)] [] (fun v' G' => ∃ y : Int32, v' = some (.int y) ∧ pj_Inv G' ∧ pj_kpt kc_195tx G0 G' ∧ ((-2147483648 : Int) ≤ y.toInt ∧ y.toInt ≤ 2147483647) ∧ (((pj_fi G' 171 30).toInt ≤ 15) ∧ (pj_fi G' 171 16).toInt = 0) ∧ ((y, G') = L_196tx G0 mn v1 v2 G))) := by
  have c0_ : (Int32.ofInt (-1)).toInt = -1 := by decide
  have c1_ : (Int32.ofInt 0).toInt = 0 := by decide
  have c2_ : (Int32.ofInt 1).toInt = 1 := by decide
  have c3_ : (Int32.ofInt 2).toInt = 2 := by decide
  have c4_ : (Int32.ofInt 3).toInt = 3 := by decide
  have c5_ : (Int32.ofInt 4).toInt = 4 := by decide
  intro mn
  induction mn with
  | zero =>
    intro G hI hK v1 v2 rv1 rv2 x0_ x1_ x2_ x3_ x4_ hm
    exfalso
    omega
  | succ mn ih =>
    intro G hI hK v1 v2 rv1 rv2 x0_ x1_ x2_ x3_ x4_ hm
    rw [L_196tx_s0]
    obtain ⟨y1, hy1⟩ : ∃ z : Int32, z = pj_fi G 171 30 := ⟨_, rfl⟩
    have ey1 : (pj_fi G 171 30).toInt = y1.toInt := by rw [hy1]
    have ry1 : (0 : Int) ≤ y1.toInt ∧ y1.toInt ≤ 16 := by rw [hy1]; exact hI.2.1 171 30 (0, 16) rfl
    obtain ⟨y2, hy2⟩ : ∃ z : Int32, z = pj_fi G 171 5 := ⟨_, rfl⟩
    have ey2 : (pj_fi G 171 5).toInt = y2.toInt := by rw [hy2]
    have ry2 : (0 : Int) ≤ y2.toInt ∧ y2.toInt ≤ 6 := by rw [hy2]; exact hI.2.1 171 5 (0, 6) rfl
    obtain ⟨y3, hy3⟩ : ∃ z : Int32, z = pj_fi G 171 22 := ⟨_, rfl⟩
    have ey3 : (pj_fi G 171 22).toInt = y3.toInt := by rw [hy3]
    have ry3 : (0 : Int) ≤ y3.toInt ∧ y3.toInt ≤ 10 := by rw [hy3]; exact hI.2.1 171 22 (0, 10) rfl
    obtain ⟨y4, hy4⟩ : ∃ z : Int32, z = pj_fi G 171 16 := ⟨_, rfl⟩
    have ey4 : (pj_fi G 171 16).toInt = y4.toInt := by rw [hy4]
    have ry4 : (0 : Int) ≤ y4.toInt ∧ y4.toInt ≤ 80 := by rw [hy4]; exact hI.2.1 171 16 (0, 80) rfl
    refine pj_X_of (fun r h => pj_R_to (G, 21, [(0, .ref 171), (1, .int v1), (2, .int v2)], [.ref 171, .int v2], 0, 0) 21 3 (fun _ => rfl) h) ?_
    refine pj_X_of (fun r h => pj_T_gi hI rfl rfl h) ?_
    show pj_X _ _ G 24 [(0, .ref 171), (1, .int v1), (2, .int v2)] [.int (pj_fi G 171 22), .int v2] _
    rw [← hy3, pj_nm_e]
    cases b5 : pj_c1 .ge v2 y3 with
    | true =>
      rw [pj_cT]
      have ub5 := pj_u_geT b5
      refine pj_X_of (fun r h => pj_R_icT 125 rfl rfl b5 h) ?_
      refine pj_X_of (fun r h => pj_R_to (G, 126, [(0, .ref 171), (1, .int v1), (2, .int v2)], [.ref 171], 0, 0) 126 2 (fun _ => rfl) h) ?_
      refine pj_X_of (fun r h => pj_T_gi hI rfl rfl h) ?_
      show pj_X _ _ G 129 [(0, .ref 171), (1, .int v1), (2, .int v2)] [.int (pj_fi G 171 22)] _
      refine pj_X_eqi (show pj_fi G 171 22 = y3 from hy3.symm) ?_
      cases b6 : pj_c1 .le y3 0 with
      | true =>
        rw [pj_cT]
        have ub6 := pj_u0_leT b6
        refine pj_X_of (fun r h => pj_R_ifT 136 rfl rfl b6 h) ?_
        refine pj_X_of (fun r h => pj_R_to (G, 137, [(0, .ref 171), (1, .int v1), (2, .int v2)], [.ref 171], 0, 0) 137 2 (fun _ => rfl) h) ?_
        refine pj_X_of (fun r h => pj_T_gi hI rfl rfl h) ?_
        show pj_X _ _ G 140 [(0, .ref 171), (1, .int v1), (2, .int v2)] [.int (pj_fi G 171 22)] _
        refine pj_X_eqi (show pj_fi G 171 22 = y3 from hy3.symm) ?_
        have q7 : (pj_fi G 171 30).toInt = y1.toInt := by rw [show pj_fi G 171 30 = y1 from hy1.symm]
        have q8 : (pj_fi G 171 5).toInt = y2.toInt := by rw [show pj_fi G 171 5 = y2 from hy2.symm]
        have q9 : (pj_fi G 171 22).toInt = y3.toInt := by rw [show pj_fi G 171 22 = y3 from hy3.symm]
        have q10 : (pj_fi G 171 16).toInt = y4.toInt := by rw [show pj_fi G 171 16 = y4 from hy4.symm]
        exact pj_X_rt rfl rfl ⟨_, rfl, hI, hK, pj_i32 _, by omega, rfl⟩
      | false =>
        rw [pj_cF]
        have ub6 := pj_u0_leF b6
        refine pj_X_of (fun r h => pj_R_ifF rfl b6 h) ?_
        refine pj_X_of (fun r h => pj_R_to (G, 133, [(0, .ref 171), (1, .int v1), (2, .int v2)], [.ref 171], 0, 0) 133 2 (fun _ => rfl) h) ?_
        have q11 : (pj_fi G 171 30).toInt = y1.toInt := by rw [show pj_fi G 171 30 = y1 from hy1.symm]
        have q12 : (pj_fi G 171 5).toInt = y2.toInt := by rw [show pj_fi G 171 5 = y2 from hy2.symm]
        have q13 : (pj_fi G 171 22).toInt = y3.toInt := by rw [show pj_fi G 171 22 = y3 from hy3.symm]
        have q14 : (pj_fi G 171 16).toInt = y4.toInt := by rw [show pj_fi G 171 16 = y4 from hy4.symm]
        refine pj_X_ca (vs := [.ref 171]) rfl (fun _ => rfl) ⟨Nat.le_of_ble_eq_true rfl, Nat.le_of_ble_eq_true rfl, pj_T_rcv hI rfl⟩ ⟨rfl, rfl⟩ (pj_Y_up (by decide) (ct_192x G hI)) ?_
        rintro _ G16 ⟨rfl, iG16, jG16, eG16, fy15⟩
        rw [← fy15, pj_nm_e]
        have kG16 : pj_kpt kc_195tx G0 G16 := pj_kpt_t hK (pj_kpt_s jG16 rfl)
        have q17 : (pj_fi G16 171 5).toInt = (pj_fi G 171 5).toInt := by rw [jG16.1 (171, 5) (by decide)]
        have q18 : (pj_fi G16 171 22).toInt = (pj_fi G 171 22).toInt := by rw [jG16.1 (171, 22) (by decide)]
        have q19 : (pj_fi G16 171 16).toInt = (pj_fi G 171 16).toInt := by rw [jG16.1 (171, 16) (by decide)]
        obtain ⟨y20, hy20⟩ : ∃ z : Int32, z = pj_fi G16 171 30 := ⟨_, rfl⟩
        have ey20 : (pj_fi G16 171 30).toInt = y20.toInt := by rw [hy20]
        have ry20 : (0 : Int) ≤ y20.toInt ∧ y20.toInt ≤ 16 := by rw [hy20]; exact iG16.2.1 171 30 (0, 16) rfl
        obtain ⟨y21, hy21⟩ : ∃ z : Int32, z = pj_fi G16 171 5 := ⟨_, rfl⟩
        have ey21 : (pj_fi G16 171 5).toInt = y21.toInt := by rw [hy21]
        have ry21 : (0 : Int) ≤ y21.toInt ∧ y21.toInt ≤ 6 := by rw [hy21]; exact iG16.2.1 171 5 (0, 6) rfl
        obtain ⟨y22, hy22⟩ : ∃ z : Int32, z = pj_fi G16 171 22 := ⟨_, rfl⟩
        have ey22 : (pj_fi G16 171 22).toInt = y22.toInt := by rw [hy22]
        have ry22 : (0 : Int) ≤ y22.toInt ∧ y22.toInt ≤ 10 := by rw [hy22]; exact iG16.2.1 171 22 (0, 10) rfl
        obtain ⟨y23, hy23⟩ : ∃ z : Int32, z = pj_fi G16 171 16 := ⟨_, rfl⟩
        have ey23 : (pj_fi G16 171 16).toInt = y23.toInt := by rw [hy23]
        have ry23 : (0 : Int) ≤ y23.toInt ∧ y23.toInt ≤ 80 := by rw [hy23]; exact iG16.2.1 171 16 (0, 80) rfl
        show pj_X _ _ G16 136 [(0, .ref 171), (1, .int v1), (2, .int v2)] [] _
        refine pj_X_of (fun r h => pj_R_to (G16, 137, [(0, .ref 171), (1, .int v1), (2, .int v2)], [.ref 171], 0, 0) 137 2 (fun _ => rfl) h) ?_
        refine pj_X_of (fun r h => pj_T_gi iG16 rfl rfl h) ?_
        show pj_X _ _ G16 140 [(0, .ref 171), (1, .int v1), (2, .int v2)] [.int (pj_fi G16 171 22)] _
        rw [← hy22, pj_nm_e]
        have q24 : (pj_fi G16 171 30).toInt = y20.toInt := by rw [show pj_fi G16 171 30 = y20 from hy20.symm]
        have q25 : (pj_fi G16 171 5).toInt = y21.toInt := by rw [show pj_fi G16 171 5 = y21 from hy21.symm]
        have q26 : (pj_fi G16 171 22).toInt = y22.toInt := by rw [show pj_fi G16 171 22 = y22 from hy22.symm]
        have q27 : (pj_fi G16 171 16).toInt = y23.toInt := by rw [show pj_fi G16 171 16 = y23 from hy23.symm]
        exact pj_X_rt rfl rfl ⟨_, rfl, iG16, kG16, pj_i32 _, by omega, rfl⟩
    | false =>
      rw [pj_cF]
      have ub5 := pj_u_geF b5
      refine pj_X_of (fun r h => pj_R_icF rfl b5 h) ?_
      refine pj_X_of (fun r h => pj_R_to (G, 28, [(0, .ref 171), (1, .int v1), (2, .int v2)], [.ref 171], 0, 0) 28 2 (fun _ => rfl) h) ?_
      refine pj_X_of (fun r h => pj_T_gr hI rfl rfl rfl h) ?_
      refine pj_X_of (fun r h => pj_R_to (G, 32, [(0, .ref 171), (1, .int v1), (2, .int v2)], [.ref 171, .ref 177], 0, 0) 32 2 (fun _ => rfl) h) ?_
      refine pj_X_of (fun r h => pj_T_gi hI rfl rfl h) ?_
      show pj_X _ _ G 35 [(0, .ref 171), (1, .int v1), (2, .int v2)] [.int (pj_fi G 171 5), .ref 177] _
      rw [← hy2, pj_nm_e]
      refine pj_X_of (fun r h => pj_R_to (G, 36, [(0, .ref 171), (1, .int v1), (2, .int v2)], [.ref 171, .int y2, .ref 177], 0, 0) 36 2 (fun _ => rfl) h) ?_
      refine pj_X_of (fun r h => pj_T_gr hI rfl rfl rfl h) ?_
      refine pj_X_of (fun r h => pj_R_to (G, 42, [(0, .ref 171), (1, .int v1), (2, .int v2)], [.int ((Int32.ofInt 2) * v2), .ref 181, .int y2, .ref 177], 0, 0) 42 4 (fun _ => rfl) h) ?_
      obtain ⟨z28, hz28⟩ : ∃ z : Int32, z = (Int32.ofInt 2) * v2 := ⟨_, rfl⟩
      refine pj_X_eqi hz28.symm ?_
      rw [← hz28, pj_nm_e]
      have fz28_0 : z28.toInt = 2 * v2.toInt := by rw [hz28]; exact pj_mulL (by decide) (by omega) (by omega)
      refine pj_X_of (fun r h => pj_T_il hI rfl rfl (by omega) (by omega) h) ?_
      show pj_X _ _ G 43 [(0, .ref 171), (1, .int v1), (2, .int v2)] [.int (pj_ai G 181 z28.toInt.toNat), .int y2, .ref 177] _
      obtain ⟨z29, hz29⟩ : ∃ z : Int32, z = pj_ai G 181 z28.toInt.toNat := ⟨_, rfl⟩
      refine pj_X_eqi hz29.symm ?_
      rw [← hz29, pj_nm_e]
      have ez29 : (pj_ai G 181 z28.toInt.toNat).toInt = z29.toInt := by rw [hz29]
      have fz29_0 : (-1 : Int) ≤ z29.toInt ∧ z29.toInt ≤ 99 ∧ (z29.toInt ≤ -1 ∨ -1 ≤ z29.toInt) := by rw [hz29]; exact hI.2.2.1 181 (40, -1, 99, -1, -1) rfl _ (by show _ < 40; omega)
      refine pj_X_of (fun r h => pj_T_is hI rfl rfl (by omega) (by omega) h) ?_
      show pj_X _ _ (pj_wa G 177 y2.toInt.toNat z29) 44 [(0, .ref 171), (1, .int v1), (2, .int v2)] [] _
      obtain ⟨G30, hG30⟩ : ∃ H, H = pj_wa G 177 y2.toInt.toNat z29 := ⟨_, rfl⟩
      have iG30 : pj_Inv G30 := by rw [hG30]; exact pj_Inv_wa hI rfl (fun q hq => by cases hq) (fun n hn => by cases hn)
      have kG30 : pj_kpt kc_195tx G0 G30 := by rw [hG30]; exact pj_kpt_a hK rfl
      rw [← hG30]
      rw [pj_nm_e]
      refine pj_X_of (fun r h => pj_R_to (G30, 45, [(0, .ref 171), (1, .int v1), (2, .int v2)], [.ref 171], 0, 0) 45 2 (fun _ => rfl) h) ?_
      refine pj_X_of (fun r h => pj_T_gr iG30 rfl rfl rfl h) ?_
      refine pj_X_of (fun r h => pj_R_to (G30, 50, [(0, .ref 171), (1, .int v1), (2, .int v2)], [.ref 171, .int (Int32.ofInt 4), .ref 179], 0, 0) 50 3 (fun _ => rfl) h) ?_
      refine pj_X_of (fun r h => pj_T_gi iG30 rfl rfl h) ?_
      show pj_X _ _ G30 53 [(0, .ref 171), (1, .int v1), (2, .int v2)] [.int (pj_fi G30 171 5), .int (Int32.ofInt 4), .ref 179] _
      refine pj_X_eqi (show pj_fi G30 171 5 = y2 from by rw [hG30, pj_fi_wa]; exact hy2.symm) ?_
      refine pj_X_of (fun r h => pj_R_to (G30, 54, [(0, .ref 171), (1, .int v1), (2, .int v2)], [.int ((Int32.ofInt 4) * y2), .ref 179], 0, 0) 54 2 (fun _ => rfl) h) ?_
      obtain ⟨z31, hz31⟩ : ∃ z : Int32, z = (Int32.ofInt 4) * y2 := ⟨_, rfl⟩
      refine pj_X_eqi hz31.symm ?_
      rw [← hz31, pj_nm_e]
      have fz31_0 : z31.toInt = 4 * y2.toInt := by rw [hz31]; exact pj_mulL (by decide) (by omega) (by omega)
      refine pj_X_of (fun r h => pj_R_to (G30, 56, [(0, .ref 171), (1, .int v1), (2, .int v2)], [.int (z31 + (Int32.ofInt 0)), .ref 179], 0, 0) 56 3 (fun _ => rfl) h) ?_
      obtain ⟨z32, hz32⟩ : ∃ z : Int32, z = z31 + (Int32.ofInt 0) := ⟨_, rfl⟩
      refine pj_X_eqi hz32.symm ?_
      rw [← hz32, pj_nm_e]
      have fz32_0 : z32.toInt = z31.toInt + (Int32.ofInt 0).toInt := by rw [hz32]; exact pj_addI (by have := pj_i32 z31; have := pj_i32 (Int32.ofInt 0); omega) (by have := pj_i32 z31; have := pj_i32 (Int32.ofInt 0); omega)
      refine pj_X_of (fun r h => pj_R_to (G30, 57, [(0, .ref 171), (1, .int v1), (2, .int v2)], [.int (Int32.ofInt (-1)), .int z32, .ref 179], 0, 0) 57 2 (fun _ => rfl) h) ?_
      refine pj_X_of (fun r h => pj_T_is iG30 rfl rfl (by omega) (by omega) h) ?_
      show pj_X _ _ (pj_wa G30 179 z32.toInt.toNat (Int32.ofInt (-1))) 58 [(0, .ref 171), (1, .int v1), (2, .int v2)] [] _
      obtain ⟨G33, hG33⟩ : ∃ H, H = pj_wa G30 179 z32.toInt.toNat (Int32.ofInt (-1)) := ⟨_, rfl⟩
      have iG33 : pj_Inv G33 := by rw [hG33]; exact pj_Inv_wa iG30 rfl (fun q hq => by cases hq) (fun n hn => ⟨fun h1 => ⟨fun h2 => by omega, fun h2 => by omega⟩, fun h1 => by omega⟩)
      have kG33 : pj_kpt kc_195tx G0 G33 := by rw [hG33]; exact pj_kpt_a kG30 rfl
      rw [← hG33]
      rw [pj_nm_e]
      refine pj_X_of (fun r h => pj_R_to (G33, 59, [(0, .ref 171), (1, .int v1), (2, .int v2)], [.ref 171], 0, 0) 59 2 (fun _ => rfl) h) ?_
      refine pj_X_of (fun r h => pj_T_gr iG33 rfl rfl rfl h) ?_
      refine pj_X_of (fun r h => pj_R_to (G33, 64, [(0, .ref 171), (1, .int v1), (2, .int v2)], [.ref 171, .int (Int32.ofInt 4), .ref 179], 0, 0) 64 3 (fun _ => rfl) h) ?_
      refine pj_X_of (fun r h => pj_T_gi iG33 rfl rfl h) ?_
      show pj_X _ _ G33 67 [(0, .ref 171), (1, .int v1), (2, .int v2)] [.int (pj_fi G33 171 5), .int (Int32.ofInt 4), .ref 179] _
      refine pj_X_eqi (show pj_fi G33 171 5 = y2 from by rw [hG33, pj_fi_wa]; exact (by rw [hG30, pj_fi_wa]; exact hy2.symm)) ?_
      refine pj_X_of (fun r h => pj_R_to (G33, 68, [(0, .ref 171), (1, .int v1), (2, .int v2)], [.int ((Int32.ofInt 4) * y2), .ref 179], 0, 0) 68 2 (fun _ => rfl) h) ?_
      refine pj_X_eqi hz31.symm ?_
      refine pj_X_of (fun r h => pj_R_to (G33, 70, [(0, .ref 171), (1, .int v1), (2, .int v2)], [.int (z31 + (Int32.ofInt 1)), .ref 179], 0, 0) 70 3 (fun _ => rfl) h) ?_
      obtain ⟨z34, hz34⟩ : ∃ z : Int32, z = z31 + (Int32.ofInt 1) := ⟨_, rfl⟩
      refine pj_X_eqi hz34.symm ?_
      rw [← hz34, pj_nm_e]
      have fz34_0 : z34.toInt = z31.toInt + (Int32.ofInt 1).toInt := by rw [hz34]; exact pj_addI (by have := pj_i32 z31; have := pj_i32 (Int32.ofInt 1); omega) (by have := pj_i32 z31; have := pj_i32 (Int32.ofInt 1); omega)
      refine pj_X_of (fun r h => pj_R_to (G33, 71, [(0, .ref 171), (1, .int v1), (2, .int v2)], [.int (Int32.ofInt 0), .int z34, .ref 179], 0, 0) 71 2 (fun _ => rfl) h) ?_
      refine pj_X_of (fun r h => pj_T_is iG33 rfl rfl (by omega) (by omega) h) ?_
      show pj_X _ _ (pj_wa G33 179 z34.toInt.toNat (Int32.ofInt 0)) 72 [(0, .ref 171), (1, .int v1), (2, .int v2)] [] _
      obtain ⟨G35, hG35⟩ : ∃ H, H = pj_wa G33 179 z34.toInt.toNat (Int32.ofInt 0) := ⟨_, rfl⟩
      have iG35 : pj_Inv G35 := by rw [hG35]; exact pj_Inv_wa iG33 rfl (fun q hq => by cases hq) (fun n hn => ⟨fun h1 => ⟨fun h2 => by omega, fun h2 => by omega⟩, fun h1 => by omega⟩)
      have kG35 : pj_kpt kc_195tx G0 G35 := by rw [hG35]; exact pj_kpt_a kG33 rfl
      rw [← hG35]
      rw [pj_nm_e]
      refine pj_X_of (fun r h => pj_R_to (G35, 73, [(0, .ref 171), (1, .int v1), (2, .int v2)], [.ref 171], 0, 0) 73 2 (fun _ => rfl) h) ?_
      refine pj_X_of (fun r h => pj_T_gr iG35 rfl rfl rfl h) ?_
      refine pj_X_of (fun r h => pj_R_to (G35, 78, [(0, .ref 171), (1, .int v1), (2, .int v2)], [.ref 171, .int (Int32.ofInt 4), .ref 179], 0, 0) 78 3 (fun _ => rfl) h) ?_
      refine pj_X_of (fun r h => pj_T_gi iG35 rfl rfl h) ?_
      show pj_X _ _ G35 81 [(0, .ref 171), (1, .int v1), (2, .int v2)] [.int (pj_fi G35 171 5), .int (Int32.ofInt 4), .ref 179] _
      refine pj_X_eqi (show pj_fi G35 171 5 = y2 from by rw [hG35, pj_fi_wa]; exact (by rw [hG33, pj_fi_wa]; exact (by rw [hG30, pj_fi_wa]; exact hy2.symm))) ?_
      refine pj_X_of (fun r h => pj_R_to (G35, 82, [(0, .ref 171), (1, .int v1), (2, .int v2)], [.int ((Int32.ofInt 4) * y2), .ref 179], 0, 0) 82 2 (fun _ => rfl) h) ?_
      refine pj_X_eqi hz31.symm ?_
      refine pj_X_of (fun r h => pj_R_to (G35, 84, [(0, .ref 171), (1, .int v1), (2, .int v2)], [.int (z31 + (Int32.ofInt 2)), .ref 179], 0, 0) 84 3 (fun _ => rfl) h) ?_
      obtain ⟨z36, hz36⟩ : ∃ z : Int32, z = z31 + (Int32.ofInt 2) := ⟨_, rfl⟩
      refine pj_X_eqi hz36.symm ?_
      rw [← hz36, pj_nm_e]
      have fz36_0 : z36.toInt = z31.toInt + (Int32.ofInt 2).toInt := by rw [hz36]; exact pj_addI (by have := pj_i32 z31; have := pj_i32 (Int32.ofInt 2); omega) (by have := pj_i32 z31; have := pj_i32 (Int32.ofInt 2); omega)
      refine pj_X_of (fun r h => pj_R_to (G35, 85, [(0, .ref 171), (1, .int v1), (2, .int v2)], [.int (Int32.ofInt (-1)), .int z36, .ref 179], 0, 0) 85 2 (fun _ => rfl) h) ?_
      refine pj_X_of (fun r h => pj_T_is iG35 rfl rfl (by omega) (by omega) h) ?_
      show pj_X _ _ (pj_wa G35 179 z36.toInt.toNat (Int32.ofInt (-1))) 86 [(0, .ref 171), (1, .int v1), (2, .int v2)] [] _
      obtain ⟨G37, hG37⟩ : ∃ H, H = pj_wa G35 179 z36.toInt.toNat (Int32.ofInt (-1)) := ⟨_, rfl⟩
      have iG37 : pj_Inv G37 := by rw [hG37]; exact pj_Inv_wa iG35 rfl (fun q hq => by cases hq) (fun n hn => ⟨fun h1 => ⟨fun h2 => by omega, fun h2 => by omega⟩, fun h1 => by omega⟩)
      have kG37 : pj_kpt kc_195tx G0 G37 := by rw [hG37]; exact pj_kpt_a kG35 rfl
      rw [← hG37]
      rw [pj_nm_e]
      refine pj_X_of (fun r h => pj_R_to (G37, 87, [(0, .ref 171), (1, .int v1), (2, .int v2)], [.ref 171], 0, 0) 87 2 (fun _ => rfl) h) ?_
      refine pj_X_of (fun r h => pj_T_gr iG37 rfl rfl rfl h) ?_
      refine pj_X_of (fun r h => pj_R_to (G37, 92, [(0, .ref 171), (1, .int v1), (2, .int v2)], [.ref 171, .int (Int32.ofInt 4), .ref 179], 0, 0) 92 3 (fun _ => rfl) h) ?_
      refine pj_X_of (fun r h => pj_T_gi iG37 rfl rfl h) ?_
      show pj_X _ _ G37 95 [(0, .ref 171), (1, .int v1), (2, .int v2)] [.int (pj_fi G37 171 5), .int (Int32.ofInt 4), .ref 179] _
      refine pj_X_eqi (show pj_fi G37 171 5 = y2 from by rw [hG37, pj_fi_wa]; exact (by rw [hG35, pj_fi_wa]; exact (by rw [hG33, pj_fi_wa]; exact (by rw [hG30, pj_fi_wa]; exact hy2.symm)))) ?_
      refine pj_X_of (fun r h => pj_R_to (G37, 96, [(0, .ref 171), (1, .int v1), (2, .int v2)], [.int ((Int32.ofInt 4) * y2), .ref 179], 0, 0) 96 2 (fun _ => rfl) h) ?_
      refine pj_X_eqi hz31.symm ?_
      refine pj_X_of (fun r h => pj_R_to (G37, 98, [(0, .ref 171), (1, .int v1), (2, .int v2)], [.int (z31 + (Int32.ofInt 3)), .ref 179], 0, 0) 98 3 (fun _ => rfl) h) ?_
      obtain ⟨z38, hz38⟩ : ∃ z : Int32, z = z31 + (Int32.ofInt 3) := ⟨_, rfl⟩
      refine pj_X_eqi hz38.symm ?_
      rw [← hz38, pj_nm_e]
      have fz38_0 : z38.toInt = z31.toInt + (Int32.ofInt 3).toInt := by rw [hz38]; exact pj_addI (by have := pj_i32 z31; have := pj_i32 (Int32.ofInt 3); omega) (by have := pj_i32 z31; have := pj_i32 (Int32.ofInt 3); omega)
      refine pj_X_of (fun r h => pj_R_to (G37, 99, [(0, .ref 171), (1, .int v1), (2, .int v2)], [.ref 171, .int z38, .ref 179], 0, 0) 99 2 (fun _ => rfl) h) ?_
      refine pj_X_of (fun r h => pj_T_gr iG37 rfl rfl rfl h) ?_
      refine pj_X_of (fun r h => pj_R_to (G37, 105, [(0, .ref 171), (1, .int v1), (2, .int v2)], [.int ((Int32.ofInt 2) * v2), .ref 181, .int z38, .ref 179], 0, 0) 105 4 (fun _ => rfl) h) ?_
      refine pj_X_eqi hz28.symm ?_
      refine pj_X_of (fun r h => pj_R_to (G37, 107, [(0, .ref 171), (1, .int v1), (2, .int v2)], [.int (z28 + (Int32.ofInt 1)), .ref 181, .int z38, .ref 179], 0, 0) 107 3 (fun _ => rfl) h) ?_
      obtain ⟨z39, hz39⟩ : ∃ z : Int32, z = z28 + (Int32.ofInt 1) := ⟨_, rfl⟩
      refine pj_X_eqi hz39.symm ?_
      rw [← hz39, pj_nm_e]
      have fz39_0 : z39.toInt = z28.toInt + (Int32.ofInt 1).toInt := by rw [hz39]; exact pj_addI (by have := pj_i32 z28; have := pj_i32 (Int32.ofInt 1); omega) (by have := pj_i32 z28; have := pj_i32 (Int32.ofInt 1); omega)
      refine pj_X_of (fun r h => pj_T_il iG37 rfl rfl (by omega) (by omega) h) ?_
      show pj_X _ _ G37 108 [(0, .ref 171), (1, .int v1), (2, .int v2)] [.int (pj_ai G37 181 z39.toInt.toNat), .int z38, .ref 179] _
      obtain ⟨z40, hz40⟩ : ∃ z : Int32, z = pj_ai G37 181 z39.toInt.toNat := ⟨_, rfl⟩
      refine pj_X_eqi hz40.symm ?_
      rw [← hz40, pj_nm_e]
      have ez40 : (pj_ai G37 181 z39.toInt.toNat).toInt = z40.toInt := by rw [hz40]
      have fz40_0 : (-1 : Int) ≤ z40.toInt ∧ z40.toInt ≤ 99 ∧ (z40.toInt ≤ -1 ∨ -1 ≤ z40.toInt) := by rw [hz40]; exact iG37.2.2.1 181 (40, -1, 99, -1, -1) rfl _ (by show _ < 40; omega)
      refine pj_X_of (fun r h => pj_T_is iG37 rfl rfl (by omega) (by omega) h) ?_
      show pj_X _ _ (pj_wa G37 179 z38.toInt.toNat z40) 109 [(0, .ref 171), (1, .int v1), (2, .int v2)] [] _
      obtain ⟨G41, hG41⟩ : ∃ H, H = pj_wa G37 179 z38.toInt.toNat z40 := ⟨_, rfl⟩
      have iG41 : pj_Inv G41 := by rw [hG41]; exact pj_Inv_wa iG37 rfl (fun q hq => by cases hq) (fun n hn => ⟨fun h1 => ⟨fun h2 => by omega, fun h2 => by omega⟩, fun h1 => by omega⟩)
      have kG41 : pj_kpt kc_195tx G0 G41 := by rw [hG41]; exact pj_kpt_a kG37 rfl
      rw [← hG41]
      rw [pj_nm_e]
      refine pj_X_of (fun r h => pj_R_to (G41, 111, [(0, .ref 171), (1, .int v1), (2, .int v2)], [.ref 171, .ref 171], 0, 0) 111 3 (fun _ => rfl) h) ?_
      refine pj_X_of (fun r h => pj_T_gi iG41 rfl rfl h) ?_
      show pj_X _ _ G41 114 [(0, .ref 171), (1, .int v1), (2, .int v2)] [.int (pj_fi G41 171 5), .ref 171] _
      refine pj_X_eqi (show pj_fi G41 171 5 = y2 from by rw [hG41, pj_fi_wa]; exact (by rw [hG37, pj_fi_wa]; exact (by rw [hG35, pj_fi_wa]; exact (by rw [hG33, pj_fi_wa]; exact (by rw [hG30, pj_fi_wa]; exact hy2.symm))))) ?_
      refine pj_X_of (fun r h => pj_R_to (G41, 116, [(0, .ref 171), (1, .int v1), (2, .int v2)], [.int (y2 + (Int32.ofInt 1)), .ref 171], 0, 0) 116 3 (fun _ => rfl) h) ?_
      obtain ⟨z42, hz42⟩ : ∃ z : Int32, z = y2 + (Int32.ofInt 1) := ⟨_, rfl⟩
      refine pj_X_eqi hz42.symm ?_
      rw [← hz42, pj_nm_e]
      have fz42_0 : z42.toInt = y2.toInt + (Int32.ofInt 1).toInt := by rw [hz42]; exact pj_addI (by have := pj_i32 y2; have := pj_i32 (Int32.ofInt 1); omega) (by have := pj_i32 y2; have := pj_i32 (Int32.ofInt 1); omega)
      refine pj_X_of (fun r h => pj_T_pf iG41 rfl rfl rfl h) ?_
      show pj_X _ _ (pj_wv G41 171 5 (.int z42)) 119 [(0, .ref 171), (1, .int v1), (2, .int v2)] [] _
      obtain ⟨G43, hG43⟩ : ∃ H, H = pj_wv G41 171 5 (.int z42) := ⟨_, rfl⟩
      have iG43 : pj_Inv G43 := by rw [hG43]; exact pj_Inv_wi iG41 (ci := 12) rfl (fun q hq => by cases hq; exact ⟨by show (0 : Int) ≤ _; omega, by show _ ≤ (6 : Int); omega⟩)
      have kG43 : pj_kpt kc_195tx G0 G43 := by rw [hG43]; exact pj_kpt_v kG41 rfl
      rw [← hG43]
      rw [pj_nm_e]
      refine pj_X_of (fun r h => pj_R_to (G43, 122, [(2, .int (v2 + Int32.ofInt 1)), (0, .ref 171), (1, .int v1)], [], 0, 0) 122 2 (fun _ => rfl) h) ?_
      obtain ⟨z44, hz44⟩ : ∃ z : Int32, z = v2 + Int32.ofInt 1 := ⟨_, rfl⟩
      rw [← hz44]
      rw [pj_nm_e]
      have fz44_0 : z44.toInt = v2.toInt + (Int32.ofInt 1).toInt := by rw [hz44]; exact pj_addI (by have := pj_i32 v2; have := pj_i32 (Int32.ofInt 1); omega) (by have := pj_i32 v2; have := pj_i32 (Int32.ofInt 1); omega)
      refine pj_X_of (fun r h => pj_R_to (G43, 19, [(2, .int z44), (0, .ref 171), (1, .int v1)], [], 0, 0) 19 2 (fun _ => rfl) h) ?_
      have q45 : (pj_fi G43 171 30).toInt = y1.toInt := by rw [show pj_fi G43 171 30 = y1 from by rw [hG43, pj_fi_wv_ne _ _ _ _ _ _ (by decide)]; exact (by rw [hG41, pj_fi_wa]; exact (by rw [hG37, pj_fi_wa]; exact (by rw [hG35, pj_fi_wa]; exact (by rw [hG33, pj_fi_wa]; exact (by rw [hG30, pj_fi_wa]; exact hy1.symm)))))]
      have q46 : (pj_fi G43 171 5).toInt = z42.toInt := by rw [show pj_fi G43 171 5 = z42 from by rw [hG43]; exact pj_fi_wi iG41.1 (ci := 12) rfl _]
      have q47 : (pj_fi G43 171 22).toInt = y3.toInt := by rw [show pj_fi G43 171 22 = y3 from by rw [hG43, pj_fi_wv_ne _ _ _ _ _ _ (by decide)]; exact (by rw [hG41, pj_fi_wa]; exact (by rw [hG37, pj_fi_wa]; exact (by rw [hG35, pj_fi_wa]; exact (by rw [hG33, pj_fi_wa]; exact (by rw [hG30, pj_fi_wa]; exact hy3.symm)))))]
      have q48 : (pj_fi G43 171 16).toInt = y4.toInt := by rw [show pj_fi G43 171 16 = y4 from by rw [hG43, pj_fi_wv_ne _ _ _ _ _ _ (by decide)]; exact (by rw [hG41, pj_fi_wa]; exact (by rw [hG37, pj_fi_wa]; exact (by rw [hG35, pj_fi_wa]; exact (by rw [hG33, pj_fi_wa]; exact (by rw [hG30, pj_fi_wa]; exact hy4.symm)))))]
      exact pj_X_sub [(0, .ref 171), (1, .int v1), (2, .int z44)] (show List.Nodup [0, 1, 2] by decide) ⟨rfl, rfl, rfl, trivial⟩ (ih G43 iG43 kG43 v1 z44 ⟨by omega, by omega⟩ ⟨by omega, by omega⟩ (by omega) (by omega) (by omega) (by omega) (by omega) (by omega))
theorem ct_195tx (G0 : pj_G) (hI : pj_Inv G0) (p0_ : (pj_fi G0 171 30).toInt ≤ 15) : pj_Y 21 195 [.ref 171] G0 (fun v' G' => ∃ y : Int32, v' = some (.int y) ∧ pj_Inv G' ∧ pj_kpt kc_195tx G0 G' ∧ ((-2147483648 : Int) ≤ y.toInt ∧ y.toInt ≤ 2147483647) ∧ (((pj_fi G' 171 30).toInt ≤ 15) ∧ (pj_fi G' 171 16).toInt = 0) ∧ ((y, G') = F_196tx G0)) := by
  have c0_ : (Int32.ofInt (-1)).toInt = -1 := by decide
  have c1_ : (Int32.ofInt 0).toInt = 0 := by decide
  have c2_ : (Int32.ofInt 1).toInt = 1 := by decide
  have c3_ : (Int32.ofInt 2).toInt = 2 := by decide
  have c4_ : (Int32.ofInt 3).toInt = 3 := by decide
  have c5_ : (Int32.ofInt 4).toInt = 4 := by decide
  refine pj_Y_X (M := pj_m195) rfl rfl (Nat.le_of_ble_eq_true rfl) ?_
  have hK : pj_kpt kc_195tx G0 G0 := pj_kpt_r _ _
  show pj_X _ _ G0 0 [(0, .ref 171)] [] _
  rw [F_196tx_e]
  obtain ⟨y49, hy49⟩ : ∃ z : Int32, z = pj_fi G0 171 30 := ⟨_, rfl⟩
  have ey49 : (pj_fi G0 171 30).toInt = y49.toInt := by rw [hy49]
  have ry49 : (0 : Int) ≤ y49.toInt ∧ y49.toInt ≤ 16 := by rw [hy49]; exact hI.2.1 171 30 (0, 16) rfl
  obtain ⟨y50, hy50⟩ : ∃ z : Int32, z = pj_fi G0 171 5 := ⟨_, rfl⟩
  have ey50 : (pj_fi G0 171 5).toInt = y50.toInt := by rw [hy50]
  have ry50 : (0 : Int) ≤ y50.toInt ∧ y50.toInt ≤ 6 := by rw [hy50]; exact hI.2.1 171 5 (0, 6) rfl
  obtain ⟨y51, hy51⟩ : ∃ z : Int32, z = pj_fi G0 171 22 := ⟨_, rfl⟩
  have ey51 : (pj_fi G0 171 22).toInt = y51.toInt := by rw [hy51]
  have ry51 : (0 : Int) ≤ y51.toInt ∧ y51.toInt ≤ 10 := by rw [hy51]; exact hI.2.1 171 22 (0, 10) rfl
  obtain ⟨y52, hy52⟩ : ∃ z : Int32, z = pj_fi G0 171 16 := ⟨_, rfl⟩
  have ey52 : (pj_fi G0 171 16).toInt = y52.toInt := by rw [hy52]
  have ry52 : (0 : Int) ≤ y52.toInt ∧ y52.toInt ≤ 80 := by rw [hy52]; exact hI.2.1 171 16 (0, 80) rfl
  refine pj_X_of (fun r h => pj_R_to (G0, 2, [(0, .ref 171)], [.int (Int32.ofInt 0), .ref 171], 0, 0) 2 3 (fun _ => rfl) h) ?_
  refine pj_X_of (fun r h => pj_T_pf hI rfl rfl rfl h) ?_
  show pj_X _ _ (pj_wv G0 171 0 (.int (Int32.ofInt 0))) 5 [(0, .ref 171)] [] _
  obtain ⟨G53, hG53⟩ : ∃ H, H = pj_wv G0 171 0 (.int (Int32.ofInt 0)) := ⟨_, rfl⟩
  have iG53 : pj_Inv G53 := by rw [hG53]; exact pj_Inv_wi hI (ci := 12) rfl (fun q hq => by cases hq)
  have kG53 : pj_kpt kc_195tx G0 G53 := by rw [hG53]; exact pj_kpt_v hK rfl
  rw [← hG53]
  rw [pj_nm_e]
  refine pj_X_of (fun r h => pj_R_to (G53, 7, [(0, .ref 171)], [.int (Int32.ofInt 1), .ref 171], 0, 0) 7 3 (fun _ => rfl) h) ?_
  have q54 : (pj_fi G53 171 30).toInt = y49.toInt := by rw [show pj_fi G53 171 30 = y49 from by rw [hG53, pj_fi_wv_ne _ _ _ _ _ _ (by decide)]; exact hy49.symm]
  have q55 : (pj_fi G53 171 5).toInt = y50.toInt := by rw [show pj_fi G53 171 5 = y50 from by rw [hG53, pj_fi_wv_ne _ _ _ _ _ _ (by decide)]; exact hy50.symm]
  have q56 : (pj_fi G53 171 22).toInt = y51.toInt := by rw [show pj_fi G53 171 22 = y51 from by rw [hG53, pj_fi_wv_ne _ _ _ _ _ _ (by decide)]; exact hy51.symm]
  have q57 : (pj_fi G53 171 16).toInt = y52.toInt := by rw [show pj_fi G53 171 16 = y52 from by rw [hG53, pj_fi_wv_ne _ _ _ _ _ _ (by decide)]; exact hy52.symm]
  refine pj_X_ca (vs := [.ref 171, .int (Int32.ofInt 1)]) rfl (fun _ => rfl) ⟨Nat.le_of_ble_eq_true rfl, Nat.le_of_ble_eq_true rfl, pj_T_rcv iG53 rfl⟩ ⟨rfl, rfl⟩ (pj_Y_up (by decide) (ct_194_1tx G53 iG53 (Int32.ofInt 1) ⟨by omega, by omega⟩)) ?_
  rintro _ G59 ⟨y58, rfl, iG59, jG59, ry58, ey58, fy58⟩
  rw [← fy58, pj_bd_e]
  have kG59 : pj_kpt kc_195tx G0 G59 := pj_kpt_t kG53 (pj_kpt_s jG59 rfl)
  have q60 : (pj_fi G59 171 30).toInt = (pj_fi G53 171 30).toInt := by rw [jG59.1 (171, 30) (by decide)]
  have q61 : (pj_fi G59 171 5).toInt = (pj_fi G53 171 5).toInt := by rw [jG59.1 (171, 5) (by decide)]
  obtain ⟨y62, hy62⟩ : ∃ z : Int32, z = pj_fi G59 171 30 := ⟨_, rfl⟩
  have ey62 : (pj_fi G59 171 30).toInt = y62.toInt := by rw [hy62]
  have ry62 : (0 : Int) ≤ y62.toInt ∧ y62.toInt ≤ 16 := by rw [hy62]; exact iG59.2.1 171 30 (0, 16) rfl
  obtain ⟨y63, hy63⟩ : ∃ z : Int32, z = pj_fi G59 171 5 := ⟨_, rfl⟩
  have ey63 : (pj_fi G59 171 5).toInt = y63.toInt := by rw [hy63]
  have ry63 : (0 : Int) ≤ y63.toInt ∧ y63.toInt ≤ 6 := by rw [hy63]; exact iG59.2.1 171 5 (0, 6) rfl
  obtain ⟨y64, hy64⟩ : ∃ z : Int32, z = pj_fi G59 171 22 := ⟨_, rfl⟩
  have ey64 : (pj_fi G59 171 22).toInt = y64.toInt := by rw [hy64]
  have ry64 : (0 : Int) ≤ y64.toInt ∧ y64.toInt ≤ 10 := by rw [hy64]; exact iG59.2.1 171 22 (0, 10) rfl
  obtain ⟨y65, hy65⟩ : ∃ z : Int32, z = pj_fi G59 171 16 := ⟨_, rfl⟩
  have ey65 : (pj_fi G59 171 16).toInt = y65.toInt := by rw [hy65]
  have ry65 : (0 : Int) ≤ y65.toInt ∧ y65.toInt ≤ 80 := by rw [hy65]; exact iG59.2.1 171 16 (0, 80) rfl
  show pj_X _ _ G59 10 [(0, .ref 171)] [.int y58] _
  refine pj_X_of (fun r h => pj_R_to (G59, 12, [(1, .int y58), (0, .ref 171)], [.int y58], 0, 0) 12 3 (fun _ => rfl) h) ?_
  cases b66 : pj_c1 .ge y58 0 with
  | true =>
    rw [pj_cT]
    have ub66 := pj_u0_geT b66
    refine pj_X_of (fun r h => pj_R_ifT 17 rfl rfl b66 h) ?_
    refine pj_X_of (fun r h => pj_R_to (G59, 19, [(2, .int (Int32.ofInt 0)), (1, .int y58), (0, .ref 171)], [], 0, 0) 19 3 (fun _ => rfl) h) ?_
    have q67 : (pj_fi G59 171 30).toInt = y62.toInt := by rw [show pj_fi G59 171 30 = y62 from hy62.symm]
    have q68 : (pj_fi G59 171 5).toInt = y63.toInt := by rw [show pj_fi G59 171 5 = y63 from hy63.symm]
    have q69 : (pj_fi G59 171 22).toInt = y64.toInt := by rw [show pj_fi G59 171 22 = y64 from hy64.symm]
    have q70 : (pj_fi G59 171 16).toInt = y65.toInt := by rw [show pj_fi G59 171 16 = y65 from hy65.symm]
    exact pj_X_sub [(0, .ref 171), (1, .int y58), (2, .int (Int32.ofInt 0))] (show List.Nodup [0, 1, 2] by decide) ⟨rfl, rfl, rfl, trivial⟩ ((lp_ct_195tx G0 hI   p0_ 7) G59 iG59 kG59 y58 (Int32.ofInt 0) ⟨by omega, by omega⟩ ⟨by omega, by omega⟩ (by omega) (by omega) (by omega) (by omega) (by omega) (by omega))
  | false =>
    rw [pj_cF]
    have ub66 := pj_u0_geF b66
    refine pj_X_of (fun r h => pj_R_ifF rfl b66 h) ?_
    refine pj_X_of (fun r h => pj_R_to (G59, 16, [(1, .int y58), (0, .ref 171)], [.int y58], 0, 0) 16 2 (fun _ => rfl) h) ?_
    have q71 : (pj_fi G59 171 30).toInt = y62.toInt := by rw [show pj_fi G59 171 30 = y62 from hy62.symm]
    have q72 : (pj_fi G59 171 5).toInt = y63.toInt := by rw [show pj_fi G59 171 5 = y63 from hy63.symm]
    have q73 : (pj_fi G59 171 22).toInt = y64.toInt := by rw [show pj_fi G59 171 22 = y64 from hy64.symm]
    have q74 : (pj_fi G59 171 16).toInt = y65.toInt := by rw [show pj_fi G59 171 16 = y65 from hy65.symm]
    exact pj_X_rt rfl rfl ⟨_, rfl, iG59, kG59, pj_i32 _, by omega, rfl⟩
theorem fr_196tx (G0 : pj_G) (hI : pj_Inv G0) (p0_ : (pj_fi G0 171 30).toInt ≤ 15) : pj_Inv (F_196tx G0).2 ∧ pj_kpt kc_195tx G0 (F_196tx G0).2 ∧ (((pj_fi (F_196tx G0).2 171 30).toInt ≤ 15) ∧ (pj_fi (F_196tx G0).2 171 16).toInt = 0) := by
  obtain ⟨v, G', -, y, -, i, j, r, x, e⟩ := ct_195tx G0 hI p0_
  rw [← e]
  exact ⟨i, j, x⟩
def kc_196tx : pj_KT := ([(171, 0), (171, 6), (171, 7), (171, 16), (171, 17), (171, 18), (171, 19), (171, 22), (171, 30)], [171, 178, 179, 181], [178, 179, 181])
noncomputable def L_197tx (G0 : pj_G) (fu : Nat) : Int32 → Int32 → pj_G → Int32 × pj_G := Nat.rec (motive := fun _ => Int32 → Int32 → pj_G → Int32 × pj_G) (fun _ _ G => (0, G)) (fun _ ih v1 v2 G => pj_nm (pj_fi G 171 22) (fun y3 => cond (pj_c1 .ge v2 y3) (cond (pj_c1 .le y3 0) ((y3, G)) (pj_nm (F_193x G) (fun G16 => pj_nm (pj_fi G16 171 22) (fun y22 => (y22, G16))))) (pj_nm (pj_fi G 171 6) (fun y2 => pj_nm (((Int8.ofInt 24).toInt32) + y2) (fun z28 => pj_nm ((Int32.ofInt 2) * v2) (fun z29 => pj_nm (pj_ai G 181 z29.toInt.toNat) (fun z30 => pj_nm (pj_wa G 179 z28.toInt.toNat z30) (fun G32 => pj_nm (z29 + (Int32.ofInt 1)) (fun z33 => pj_nm (pj_ai G32 181 z33.toInt.toNat) (fun z34 => pj_nm (pj_wa G32 178 y2.toInt.toNat z34) (fun G35 => pj_nm (y2 + (Int32.ofInt 1)) (fun z36 => pj_nm (pj_wv G35 171 6 (.int z36)) (fun G37 => pj_nm (v2 + Int32.ofInt 1) (fun z38 => ih v1 z38 G37)))))))))))))) fu
theorem L_197tx_s0 (G0 : pj_G) (fu : Nat) (v1 : Int32) (v2 : Int32) (G : pj_G) : L_197tx G0 (fu + 1) v1 v2 G = pj_nm (pj_fi G 171 22) (fun y3 => cond (pj_c1 .ge v2 y3) (cond (pj_c1 .le y3 0) ((y3, G)) (pj_nm (F_193x G) (fun G16 => pj_nm (pj_fi G16 171 22) (fun y22 => (y22, G16))))) (pj_nm (pj_fi G 171 6) (fun y2 => pj_nm (((Int8.ofInt 24).toInt32) + y2) (fun z28 => pj_nm ((Int32.ofInt 2) * v2) (fun z29 => pj_nm (pj_ai G 181 z29.toInt.toNat) (fun z30 => pj_nm (pj_wa G 179 z28.toInt.toNat z30) (fun G32 => pj_nm (z29 + (Int32.ofInt 1)) (fun z33 => pj_nm (pj_ai G32 181 z33.toInt.toNat) (fun z34 => pj_nm (pj_wa G32 178 y2.toInt.toNat z34) (fun G35 => pj_nm (y2 + (Int32.ofInt 1)) (fun z36 => pj_nm (pj_wv G35 171 6 (.int z36)) (fun G37 => pj_nm (v2 + Int32.ofInt 1) (fun z38 => L_197tx G0 fu v1 z38 G37))))))))))))) := rfl
noncomputable def F_197tx (G0 : pj_G) : Int32 × pj_G := pj_nm (pj_wv G0 171 0 (.int (Int32.ofInt 0))) (fun G47 => pj_bd (F_195_0tx G47 (Int32.ofInt 0)) (fun y52 G53 => cond (pj_c1 .ge y52 0) (L_197tx G0 7 y52 (Int32.ofInt 0) G53) ((y52, G53))))
theorem F_197tx_e (G0 : pj_G) : F_197tx G0 = pj_nm (pj_wv G0 171 0 (.int (Int32.ofInt 0))) (fun G47 => pj_bd (F_195_0tx G47 (Int32.ofInt 0)) (fun y52 G53 => cond (pj_c1 .ge y52 0) (L_197tx G0 7 y52 (Int32.ofInt 0) G53) ((y52, G53)))) := rfl
theorem lp_ct_196tx (G0 : pj_G) (hI0 : pj_Inv G0) (p0_ : (pj_fi G0 171 30).toInt ≤ 15) : ∀ mn : Nat, (∀ (G : pj_G) (hI : pj_Inv G) (hK : pj_kpt kc_196tx G0 G) (v1 : Int32) (v2 : Int32), ((-81 : Int) ≤ v1.toInt ∧ v1.toInt ≤ 0) → ((0 : Int) ≤ v2.toInt ∧ v2.toInt ≤ 6) → (pj_re G (pj_fi G 171 22).toInt) → ((pj_fi G 171 30).toInt ≤ 15) → ((pj_fi G 171 6).toInt + (pj_fi G 171 22).toInt - v2.toInt ≤ 6) → (v2.toInt ≤ (pj_fi G 171 22).toInt) → ((pj_fi G 171 22).toInt ≤ 6) → ((pj_fi G 171 16).toInt = 0) → 6 - v2.toInt < (mn : Int) → pj_X 20 pj_m196 G 19 [(0, .ref 171), (1, .int v1), (2, .int v2)] [] (fun v' G' => ∃ y : Int32, v' = some (.int y) ∧ pj_Inv G' ∧ pj_kpt kc_196tx G0 G' ∧ ((-2147483648 : Int) ≤ y.toInt ∧ y.toInt ≤ 2147483647) ∧ (((pj_fi G' 171 30).toInt ≤ 15) ∧ (pj_fi G' 171 16).toInt = 0) ∧ ((y, G') = L_197tx G0 mn v1 v2 G))) := by
  have c0_ : ((Int8.ofInt 24).toInt32).toInt = 24 := by decide
  have c1_ : (Int32.ofInt 0).toInt = 0 := by decide
  have c2_ : (Int32.ofInt 1).toInt = 1 := by decide
  have c3_ : (Int32.ofInt 2).toInt = 2 := by decide
  intro mn
  induction mn with
  | zero =>
    intro G hI hK v1 v2 rv1 rv2 x0_ x1_ x2_ x3_ x4_ x5_ hm
    exfalso
    omega
  | succ mn ih =>
    intro G hI hK v1 v2 rv1 rv2 x0_ x1_ x2_ x3_ x4_ x5_ hm
    rw [L_197tx_s0]
    obtain ⟨y1, hy1⟩ : ∃ z : Int32, z = pj_fi G 171 30 := ⟨_, rfl⟩
    have ey1 : (pj_fi G 171 30).toInt = y1.toInt := by rw [hy1]
    have ry1 : (0 : Int) ≤ y1.toInt ∧ y1.toInt ≤ 16 := by rw [hy1]; exact hI.2.1 171 30 (0, 16) rfl
    obtain ⟨y2, hy2⟩ : ∃ z : Int32, z = pj_fi G 171 6 := ⟨_, rfl⟩
    have ey2 : (pj_fi G 171 6).toInt = y2.toInt := by rw [hy2]
    have ry2 : (0 : Int) ≤ y2.toInt ∧ y2.toInt ≤ 6 := by rw [hy2]; exact hI.2.1 171 6 (0, 6) rfl
    obtain ⟨y3, hy3⟩ : ∃ z : Int32, z = pj_fi G 171 22 := ⟨_, rfl⟩
    have ey3 : (pj_fi G 171 22).toInt = y3.toInt := by rw [hy3]
    have ry3 : (0 : Int) ≤ y3.toInt ∧ y3.toInt ≤ 10 := by rw [hy3]; exact hI.2.1 171 22 (0, 10) rfl
    obtain ⟨y4, hy4⟩ : ∃ z : Int32, z = pj_fi G 171 16 := ⟨_, rfl⟩
    have ey4 : (pj_fi G 171 16).toInt = y4.toInt := by rw [hy4]
    have ry4 : (0 : Int) ≤ y4.toInt ∧ y4.toInt ≤ 80 := by rw [hy4]; exact hI.2.1 171 16 (0, 80) rfl
    refine pj_X_of (fun r h => pj_R_to (G, 21, [(0, .ref 171), (1, .int v1), (2, .int v2)], [.ref 171, .int v2], 0, 0) 21 3 (fun _ => rfl) h) ?_
    refine pj_X_of (fun r h => pj_T_gi hI rfl rfl h) ?_
    show pj_X _ _ G 24 [(0, .ref 171), (1, .int v1), (2, .int v2)] [.int (pj_fi G 171 22), .int v2] _
    rw [← hy3, pj_nm_e]
    cases b5 : pj_c1 .ge v2 y3 with
    | true =>
      rw [pj_cT]
      have ub5 := pj_u_geT b5
      refine pj_X_of (fun r h => pj_R_icT 82 rfl rfl b5 h) ?_
      refine pj_X_of (fun r h => pj_R_to (G, 83, [(0, .ref 171), (1, .int v1), (2, .int v2)], [.ref 171], 0, 0) 83 2 (fun _ => rfl) h) ?_
      refine pj_X_of (fun r h => pj_T_gi hI rfl rfl h) ?_
      show pj_X _ _ G 86 [(0, .ref 171), (1, .int v1), (2, .int v2)] [.int (pj_fi G 171 22)] _
      refine pj_X_eqi (show pj_fi G 171 22 = y3 from hy3.symm) ?_
      cases b6 : pj_c1 .le y3 0 with
      | true =>
        rw [pj_cT]
        have ub6 := pj_u0_leT b6
        refine pj_X_of (fun r h => pj_R_ifT 93 rfl rfl b6 h) ?_
        refine pj_X_of (fun r h => pj_R_to (G, 94, [(0, .ref 171), (1, .int v1), (2, .int v2)], [.ref 171], 0, 0) 94 2 (fun _ => rfl) h) ?_
        refine pj_X_of (fun r h => pj_T_gi hI rfl rfl h) ?_
        show pj_X _ _ G 97 [(0, .ref 171), (1, .int v1), (2, .int v2)] [.int (pj_fi G 171 22)] _
        refine pj_X_eqi (show pj_fi G 171 22 = y3 from hy3.symm) ?_
        have q7 : (pj_fi G 171 30).toInt = y1.toInt := by rw [show pj_fi G 171 30 = y1 from hy1.symm]
        have q8 : (pj_fi G 171 6).toInt = y2.toInt := by rw [show pj_fi G 171 6 = y2 from hy2.symm]
        have q9 : (pj_fi G 171 22).toInt = y3.toInt := by rw [show pj_fi G 171 22 = y3 from hy3.symm]
        have q10 : (pj_fi G 171 16).toInt = y4.toInt := by rw [show pj_fi G 171 16 = y4 from hy4.symm]
        exact pj_X_rt rfl rfl ⟨_, rfl, hI, hK, pj_i32 _, by omega, rfl⟩
      | false =>
        rw [pj_cF]
        have ub6 := pj_u0_leF b6
        refine pj_X_of (fun r h => pj_R_ifF rfl b6 h) ?_
        refine pj_X_of (fun r h => pj_R_to (G, 90, [(0, .ref 171), (1, .int v1), (2, .int v2)], [.ref 171], 0, 0) 90 2 (fun _ => rfl) h) ?_
        have q11 : (pj_fi G 171 30).toInt = y1.toInt := by rw [show pj_fi G 171 30 = y1 from hy1.symm]
        have q12 : (pj_fi G 171 6).toInt = y2.toInt := by rw [show pj_fi G 171 6 = y2 from hy2.symm]
        have q13 : (pj_fi G 171 22).toInt = y3.toInt := by rw [show pj_fi G 171 22 = y3 from hy3.symm]
        have q14 : (pj_fi G 171 16).toInt = y4.toInt := by rw [show pj_fi G 171 16 = y4 from hy4.symm]
        refine pj_X_ca (vs := [.ref 171]) rfl (fun _ => rfl) ⟨Nat.le_of_ble_eq_true rfl, Nat.le_of_ble_eq_true rfl, pj_T_rcv hI rfl⟩ ⟨rfl, rfl⟩ (pj_Y_up (by decide) (ct_192x G hI)) ?_
        rintro _ G16 ⟨rfl, iG16, jG16, eG16, fy15⟩
        rw [← fy15, pj_nm_e]
        have kG16 : pj_kpt kc_196tx G0 G16 := pj_kpt_t hK (pj_kpt_s jG16 rfl)
        have q17 : (pj_fi G16 171 6).toInt = (pj_fi G 171 6).toInt := by rw [jG16.1 (171, 6) (by decide)]
        have q18 : (pj_fi G16 171 22).toInt = (pj_fi G 171 22).toInt := by rw [jG16.1 (171, 22) (by decide)]
        have q19 : (pj_fi G16 171 16).toInt = (pj_fi G 171 16).toInt := by rw [jG16.1 (171, 16) (by decide)]
        obtain ⟨y20, hy20⟩ : ∃ z : Int32, z = pj_fi G16 171 30 := ⟨_, rfl⟩
        have ey20 : (pj_fi G16 171 30).toInt = y20.toInt := by rw [hy20]
        have ry20 : (0 : Int) ≤ y20.toInt ∧ y20.toInt ≤ 16 := by rw [hy20]; exact iG16.2.1 171 30 (0, 16) rfl
        obtain ⟨y21, hy21⟩ : ∃ z : Int32, z = pj_fi G16 171 6 := ⟨_, rfl⟩
        have ey21 : (pj_fi G16 171 6).toInt = y21.toInt := by rw [hy21]
        have ry21 : (0 : Int) ≤ y21.toInt ∧ y21.toInt ≤ 6 := by rw [hy21]; exact iG16.2.1 171 6 (0, 6) rfl
        obtain ⟨y22, hy22⟩ : ∃ z : Int32, z = pj_fi G16 171 22 := ⟨_, rfl⟩
        have ey22 : (pj_fi G16 171 22).toInt = y22.toInt := by rw [hy22]
        have ry22 : (0 : Int) ≤ y22.toInt ∧ y22.toInt ≤ 10 := by rw [hy22]; exact iG16.2.1 171 22 (0, 10) rfl
        obtain ⟨y23, hy23⟩ : ∃ z : Int32, z = pj_fi G16 171 16 := ⟨_, rfl⟩
        have ey23 : (pj_fi G16 171 16).toInt = y23.toInt := by rw [hy23]
        have ry23 : (0 : Int) ≤ y23.toInt ∧ y23.toInt ≤ 80 := by rw [hy23]; exact iG16.2.1 171 16 (0, 80) rfl
        show pj_X _ _ G16 93 [(0, .ref 171), (1, .int v1), (2, .int v2)] [] _
        refine pj_X_of (fun r h => pj_R_to (G16, 94, [(0, .ref 171), (1, .int v1), (2, .int v2)], [.ref 171], 0, 0) 94 2 (fun _ => rfl) h) ?_
        refine pj_X_of (fun r h => pj_T_gi iG16 rfl rfl h) ?_
        show pj_X _ _ G16 97 [(0, .ref 171), (1, .int v1), (2, .int v2)] [.int (pj_fi G16 171 22)] _
        rw [← hy22, pj_nm_e]
        have q24 : (pj_fi G16 171 30).toInt = y20.toInt := by rw [show pj_fi G16 171 30 = y20 from hy20.symm]
        have q25 : (pj_fi G16 171 6).toInt = y21.toInt := by rw [show pj_fi G16 171 6 = y21 from hy21.symm]
        have q26 : (pj_fi G16 171 22).toInt = y22.toInt := by rw [show pj_fi G16 171 22 = y22 from hy22.symm]
        have q27 : (pj_fi G16 171 16).toInt = y23.toInt := by rw [show pj_fi G16 171 16 = y23 from hy23.symm]
        exact pj_X_rt rfl rfl ⟨_, rfl, iG16, kG16, pj_i32 _, by omega, rfl⟩
    | false =>
      rw [pj_cF]
      have ub5 := pj_u_geF b5
      refine pj_X_of (fun r h => pj_R_icF rfl b5 h) ?_
      have hq := x0_ v2.toInt.toNat (by omega)
      refine pj_X_of (fun r h => pj_R_to (G, 28, [(0, .ref 171), (1, .int v1), (2, .int v2)], [.ref 171], 0, 0) 28 2 (fun _ => rfl) h) ?_
      refine pj_X_of (fun r h => pj_T_gr hI rfl rfl rfl h) ?_
      refine pj_X_of (fun r h => pj_R_to (G, 34, [(0, .ref 171), (1, .int v1), (2, .int v2)], [.ref 171, .int ((Int8.ofInt 24).toInt32), .ref 179], 0, 0) 34 3 (fun _ => rfl) h) ?_
      refine pj_X_of (fun r h => pj_T_gi hI rfl rfl h) ?_
      show pj_X _ _ G 37 [(0, .ref 171), (1, .int v1), (2, .int v2)] [.int (pj_fi G 171 6), .int ((Int8.ofInt 24).toInt32), .ref 179] _
      rw [← hy2, pj_nm_e]
      refine pj_X_of (fun r h => pj_R_to (G, 38, [(0, .ref 171), (1, .int v1), (2, .int v2)], [.int (((Int8.ofInt 24).toInt32) + y2), .ref 179], 0, 0) 38 2 (fun _ => rfl) h) ?_
      obtain ⟨z28, hz28⟩ : ∃ z : Int32, z = ((Int8.ofInt 24).toInt32) + y2 := ⟨_, rfl⟩
      refine pj_X_eqi hz28.symm ?_
      rw [← hz28, pj_nm_e]
      have fz28_0 : z28.toInt = ((Int8.ofInt 24).toInt32).toInt + y2.toInt := by rw [hz28]; exact pj_addI (by have := pj_i32 ((Int8.ofInt 24).toInt32); have := pj_i32 y2; omega) (by have := pj_i32 ((Int8.ofInt 24).toInt32); have := pj_i32 y2; omega)
      refine pj_X_of (fun r h => pj_R_to (G, 39, [(0, .ref 171), (1, .int v1), (2, .int v2)], [.ref 171, .int z28, .ref 179], 0, 0) 39 2 (fun _ => rfl) h) ?_
      refine pj_X_of (fun r h => pj_T_gr hI rfl rfl rfl h) ?_
      refine pj_X_of (fun r h => pj_R_to (G, 45, [(0, .ref 171), (1, .int v1), (2, .int v2)], [.int ((Int32.ofInt 2) * v2), .ref 181, .int z28, .ref 179], 0, 0) 45 4 (fun _ => rfl) h) ?_
      obtain ⟨z29, hz29⟩ : ∃ z : Int32, z = (Int32.ofInt 2) * v2 := ⟨_, rfl⟩
      refine pj_X_eqi hz29.symm ?_
      rw [← hz29, pj_nm_e]
      have fz29_0 : z29.toInt = 2 * v2.toInt := by rw [hz29]; exact pj_mulL (by decide) (by omega) (by omega)
      refine pj_X_of (fun r h => pj_T_il hI rfl rfl (by omega) (by omega) h) ?_
      show pj_X _ _ G 46 [(0, .ref 171), (1, .int v1), (2, .int v2)] [.int (pj_ai G 181 z29.toInt.toNat), .int z28, .ref 179] _
      obtain ⟨z30, hz30⟩ : ∃ z : Int32, z = pj_ai G 181 z29.toInt.toNat := ⟨_, rfl⟩
      refine pj_X_eqi hz30.symm ?_
      rw [← hz30, pj_nm_e]
      have ez30 : (pj_ai G 181 z29.toInt.toNat).toInt = z30.toInt := by rw [hz30]
      have fz30_0 : (-1 : Int) ≤ z30.toInt ∧ z30.toInt ≤ 99 ∧ (z30.toInt ≤ -1 ∨ -1 ≤ z30.toInt) := by rw [hz30]; exact hI.2.2.1 181 (40, -1, 99, -1, -1) rfl _ (by show _ < 40; omega)
      have k31 : z30.toInt = (pj_ai G 181 (2 * v2.toInt.toNat)).toInt := by rw [hz30, show z29.toInt.toNat = 2 * v2.toInt.toNat by omega]
      refine pj_X_of (fun r h => pj_T_is hI rfl rfl (by omega) (by omega) h) ?_
      show pj_X _ _ (pj_wa G 179 z28.toInt.toNat z30) 47 [(0, .ref 171), (1, .int v1), (2, .int v2)] [] _
      obtain ⟨G32, hG32⟩ : ∃ H, H = pj_wa G 179 z28.toInt.toNat z30 := ⟨_, rfl⟩
      have iG32 : pj_Inv G32 := by rw [hG32]; exact pj_Inv_wa hI rfl (fun q hq => by cases hq) (fun n hn => ⟨fun h1 => ⟨fun h2 => by omega, fun h2 => by omega⟩, fun h1 => by omega⟩)
      have kG32 : pj_kpt kc_196tx G0 G32 := by rw [hG32]; exact pj_kpt_a hK rfl
      rw [← hG32]
      rw [pj_nm_e]
      refine pj_X_of (fun r h => pj_R_to (G32, 48, [(0, .ref 171), (1, .int v1), (2, .int v2)], [.ref 171], 0, 0) 48 2 (fun _ => rfl) h) ?_
      refine pj_X_of (fun r h => pj_T_gr iG32 rfl rfl rfl h) ?_
      refine pj_X_of (fun r h => pj_R_to (G32, 52, [(0, .ref 171), (1, .int v1), (2, .int v2)], [.ref 171, .ref 178], 0, 0) 52 2 (fun _ => rfl) h) ?_
      refine pj_X_of (fun r h => pj_T_gi iG32 rfl rfl h) ?_
      show pj_X _ _ G32 55 [(0, .ref 171), (1, .int v1), (2, .int v2)] [.int (pj_fi G32 171 6), .ref 178] _
      refine pj_X_eqi (show pj_fi G32 171 6 = y2 from by rw [hG32, pj_fi_wa]; exact hy2.symm) ?_
      refine pj_X_of (fun r h => pj_R_to (G32, 56, [(0, .ref 171), (1, .int v1), (2, .int v2)], [.ref 171, .int y2, .ref 178], 0, 0) 56 2 (fun _ => rfl) h) ?_
      refine pj_X_of (fun r h => pj_T_gr iG32 rfl rfl rfl h) ?_
      refine pj_X_of (fun r h => pj_R_to (G32, 62, [(0, .ref 171), (1, .int v1), (2, .int v2)], [.int ((Int32.ofInt 2) * v2), .ref 181, .int y2, .ref 178], 0, 0) 62 4 (fun _ => rfl) h) ?_
      refine pj_X_eqi hz29.symm ?_
      refine pj_X_of (fun r h => pj_R_to (G32, 64, [(0, .ref 171), (1, .int v1), (2, .int v2)], [.int (z29 + (Int32.ofInt 1)), .ref 181, .int y2, .ref 178], 0, 0) 64 3 (fun _ => rfl) h) ?_
      obtain ⟨z33, hz33⟩ : ∃ z : Int32, z = z29 + (Int32.ofInt 1) := ⟨_, rfl⟩
      refine pj_X_eqi hz33.symm ?_
      rw [← hz33, pj_nm_e]
      have fz33_0 : z33.toInt = z29.toInt + (Int32.ofInt 1).toInt := by rw [hz33]; exact pj_addI (by have := pj_i32 z29; have := pj_i32 (Int32.ofInt 1); omega) (by have := pj_i32 z29; have := pj_i32 (Int32.ofInt 1); omega)
      refine pj_X_of (fun r h => pj_T_il iG32 rfl rfl (by omega) (by omega) h) ?_
      show pj_X _ _ G32 65 [(0, .ref 171), (1, .int v1), (2, .int v2)] [.int (pj_ai G32 181 z33.toInt.toNat), .int y2, .ref 178] _
      obtain ⟨z34, hz34⟩ : ∃ z : Int32, z = pj_ai G32 181 z33.toInt.toNat := ⟨_, rfl⟩
      refine pj_X_eqi hz34.symm ?_
      rw [← hz34, pj_nm_e]
      have ez34 : (pj_ai G32 181 z33.toInt.toNat).toInt = z34.toInt := by rw [hz34]
      have fz34_0 : (-1 : Int) ≤ z34.toInt ∧ z34.toInt ≤ 99 ∧ (z34.toInt ≤ -1 ∨ -1 ≤ z34.toInt) := by rw [hz34]; exact iG32.2.2.1 181 (40, -1, 99, -1, -1) rfl _ (by show _ < 40; omega)
      refine pj_X_of (fun r h => pj_T_is iG32 rfl rfl (by omega) (by omega) h) ?_
      show pj_X _ _ (pj_wa G32 178 y2.toInt.toNat z34) 66 [(0, .ref 171), (1, .int v1), (2, .int v2)] [] _
      obtain ⟨G35, hG35⟩ : ∃ H, H = pj_wa G32 178 y2.toInt.toNat z34 := ⟨_, rfl⟩
      have iG35 : pj_Inv G35 := by rw [hG35]; exact pj_Inv_wa iG32 rfl (fun q hq => by cases hq) (fun n hn => by cases hn)
      have kG35 : pj_kpt kc_196tx G0 G35 := by rw [hG35]; exact pj_kpt_a kG32 rfl
      rw [← hG35]
      rw [pj_nm_e]
      refine pj_X_of (fun r h => pj_R_to (G35, 68, [(0, .ref 171), (1, .int v1), (2, .int v2)], [.ref 171, .ref 171], 0, 0) 68 3 (fun _ => rfl) h) ?_
      refine pj_X_of (fun r h => pj_T_gi iG35 rfl rfl h) ?_
      show pj_X _ _ G35 71 [(0, .ref 171), (1, .int v1), (2, .int v2)] [.int (pj_fi G35 171 6), .ref 171] _
      refine pj_X_eqi (show pj_fi G35 171 6 = y2 from by rw [hG35, pj_fi_wa]; exact (by rw [hG32, pj_fi_wa]; exact hy2.symm)) ?_
      refine pj_X_of (fun r h => pj_R_to (G35, 73, [(0, .ref 171), (1, .int v1), (2, .int v2)], [.int (y2 + (Int32.ofInt 1)), .ref 171], 0, 0) 73 3 (fun _ => rfl) h) ?_
      obtain ⟨z36, hz36⟩ : ∃ z : Int32, z = y2 + (Int32.ofInt 1) := ⟨_, rfl⟩
      refine pj_X_eqi hz36.symm ?_
      rw [← hz36, pj_nm_e]
      have fz36_0 : z36.toInt = y2.toInt + (Int32.ofInt 1).toInt := by rw [hz36]; exact pj_addI (by have := pj_i32 y2; have := pj_i32 (Int32.ofInt 1); omega) (by have := pj_i32 y2; have := pj_i32 (Int32.ofInt 1); omega)
      refine pj_X_of (fun r h => pj_T_pf iG35 rfl rfl rfl h) ?_
      show pj_X _ _ (pj_wv G35 171 6 (.int z36)) 76 [(0, .ref 171), (1, .int v1), (2, .int v2)] [] _
      obtain ⟨G37, hG37⟩ : ∃ H, H = pj_wv G35 171 6 (.int z36) := ⟨_, rfl⟩
      have iG37 : pj_Inv G37 := by rw [hG37]; exact pj_Inv_wi iG35 (ci := 12) rfl (fun q hq => by cases hq; exact ⟨by show (0 : Int) ≤ _; omega, by show _ ≤ (6 : Int); omega⟩)
      have kG37 : pj_kpt kc_196tx G0 G37 := by rw [hG37]; exact pj_kpt_v kG35 rfl
      rw [← hG37]
      rw [pj_nm_e]
      refine pj_X_of (fun r h => pj_R_to (G37, 79, [(2, .int (v2 + Int32.ofInt 1)), (0, .ref 171), (1, .int v1)], [], 0, 0) 79 2 (fun _ => rfl) h) ?_
      obtain ⟨z38, hz38⟩ : ∃ z : Int32, z = v2 + Int32.ofInt 1 := ⟨_, rfl⟩
      rw [← hz38]
      rw [pj_nm_e]
      have fz38_0 : z38.toInt = v2.toInt + (Int32.ofInt 1).toInt := by rw [hz38]; exact pj_addI (by have := pj_i32 v2; have := pj_i32 (Int32.ofInt 1); omega) (by have := pj_i32 v2; have := pj_i32 (Int32.ofInt 1); omega)
      refine pj_X_of (fun r h => pj_R_to (G37, 19, [(2, .int z38), (0, .ref 171), (1, .int v1)], [], 0, 0) 19 2 (fun _ => rfl) h) ?_
      have q39 : (pj_fi G37 171 30).toInt = y1.toInt := by rw [show pj_fi G37 171 30 = y1 from by rw [hG37, pj_fi_wv_ne _ _ _ _ _ _ (by decide)]; exact (by rw [hG35, pj_fi_wa]; exact (by rw [hG32, pj_fi_wa]; exact hy1.symm))]
      have q40 : (pj_fi G37 171 6).toInt = z36.toInt := by rw [show pj_fi G37 171 6 = z36 from by rw [hG37]; exact pj_fi_wi iG35.1 (ci := 12) rfl _]
      have q41 : (pj_fi G37 171 22).toInt = y3.toInt := by rw [show pj_fi G37 171 22 = y3 from by rw [hG37, pj_fi_wv_ne _ _ _ _ _ _ (by decide)]; exact (by rw [hG35, pj_fi_wa]; exact (by rw [hG32, pj_fi_wa]; exact hy3.symm))]
      have q42 : (pj_fi G37 171 16).toInt = y4.toInt := by rw [show pj_fi G37 171 16 = y4 from by rw [hG37, pj_fi_wv_ne _ _ _ _ _ _ (by decide)]; exact (by rw [hG35, pj_fi_wa]; exact (by rw [hG32, pj_fi_wa]; exact hy4.symm))]
      exact pj_X_sub [(0, .ref 171), (1, .int v1), (2, .int z38)] (show List.Nodup [0, 1, 2] by decide) ⟨rfl, rfl, rfl, trivial⟩ (ih G37 iG37 kG37 v1 z38 ⟨by omega, by omega⟩ ⟨by omega, by omega⟩ (by rw [show pj_fi G37 171 22 = pj_fi G 171 22 from by rw [hG37, pj_fi_wv_ne _ _ _ _ _ _ (by decide), hG35, pj_fi_wa, hG32, pj_fi_wa]]; exact pj_re_k (fun j => by rw [hG37, pj_ai_wv, hG35, pj_ai_wa_ne _ _ _ _ _ _ (by decide), hG32, pj_ai_wa_ne _ _ _ _ _ _ (by decide)]) x0_) (by omega) (by omega) (by omega) (by omega) (by omega) (by omega))
theorem ct_196tx (G0 : pj_G) (hI : pj_Inv G0) (p0_ : (pj_fi G0 171 30).toInt ≤ 15) : pj_Y 21 196 [.ref 171] G0 (fun v' G' => ∃ y : Int32, v' = some (.int y) ∧ pj_Inv G' ∧ pj_kpt kc_196tx G0 G' ∧ ((-2147483648 : Int) ≤ y.toInt ∧ y.toInt ≤ 2147483647) ∧ (((pj_fi G' 171 30).toInt ≤ 15) ∧ (pj_fi G' 171 16).toInt = 0) ∧ ((y, G') = F_197tx G0)) := by
  have c0_ : ((Int8.ofInt 24).toInt32).toInt = 24 := by decide
  have c1_ : (Int32.ofInt 0).toInt = 0 := by decide
  have c2_ : (Int32.ofInt 1).toInt = 1 := by decide
  have c3_ : (Int32.ofInt 2).toInt = 2 := by decide
  refine pj_Y_X (M := pj_m196) rfl rfl (Nat.le_of_ble_eq_true rfl) ?_
  have hK : pj_kpt kc_196tx G0 G0 := pj_kpt_r _ _
  show pj_X _ _ G0 0 [(0, .ref 171)] [] _
  rw [F_197tx_e]
  obtain ⟨y43, hy43⟩ : ∃ z : Int32, z = pj_fi G0 171 30 := ⟨_, rfl⟩
  have ey43 : (pj_fi G0 171 30).toInt = y43.toInt := by rw [hy43]
  have ry43 : (0 : Int) ≤ y43.toInt ∧ y43.toInt ≤ 16 := by rw [hy43]; exact hI.2.1 171 30 (0, 16) rfl
  obtain ⟨y44, hy44⟩ : ∃ z : Int32, z = pj_fi G0 171 6 := ⟨_, rfl⟩
  have ey44 : (pj_fi G0 171 6).toInt = y44.toInt := by rw [hy44]
  have ry44 : (0 : Int) ≤ y44.toInt ∧ y44.toInt ≤ 6 := by rw [hy44]; exact hI.2.1 171 6 (0, 6) rfl
  obtain ⟨y45, hy45⟩ : ∃ z : Int32, z = pj_fi G0 171 22 := ⟨_, rfl⟩
  have ey45 : (pj_fi G0 171 22).toInt = y45.toInt := by rw [hy45]
  have ry45 : (0 : Int) ≤ y45.toInt ∧ y45.toInt ≤ 10 := by rw [hy45]; exact hI.2.1 171 22 (0, 10) rfl
  obtain ⟨y46, hy46⟩ : ∃ z : Int32, z = pj_fi G0 171 16 := ⟨_, rfl⟩
  have ey46 : (pj_fi G0 171 16).toInt = y46.toInt := by rw [hy46]
  have ry46 : (0 : Int) ≤ y46.toInt ∧ y46.toInt ≤ 80 := by rw [hy46]; exact hI.2.1 171 16 (0, 80) rfl
  refine pj_X_of (fun r h => pj_R_to (G0, 2, [(0, .ref 171)], [.int (Int32.ofInt 0), .ref 171], 0, 0) 2 3 (fun _ => rfl) h) ?_
  refine pj_X_of (fun r h => pj_T_pf hI rfl rfl rfl h) ?_
  show pj_X _ _ (pj_wv G0 171 0 (.int (Int32.ofInt 0))) 5 [(0, .ref 171)] [] _
  obtain ⟨G47, hG47⟩ : ∃ H, H = pj_wv G0 171 0 (.int (Int32.ofInt 0)) := ⟨_, rfl⟩
  have iG47 : pj_Inv G47 := by rw [hG47]; exact pj_Inv_wi hI (ci := 12) rfl (fun q hq => by cases hq)
  have kG47 : pj_kpt kc_196tx G0 G47 := by rw [hG47]; exact pj_kpt_v hK rfl
  rw [← hG47]
  rw [pj_nm_e]
  refine pj_X_of (fun r h => pj_R_to (G47, 7, [(0, .ref 171)], [.int (Int32.ofInt 0), .ref 171], 0, 0) 7 3 (fun _ => rfl) h) ?_
  have q48 : (pj_fi G47 171 30).toInt = y43.toInt := by rw [show pj_fi G47 171 30 = y43 from by rw [hG47, pj_fi_wv_ne _ _ _ _ _ _ (by decide)]; exact hy43.symm]
  have q49 : (pj_fi G47 171 6).toInt = y44.toInt := by rw [show pj_fi G47 171 6 = y44 from by rw [hG47, pj_fi_wv_ne _ _ _ _ _ _ (by decide)]; exact hy44.symm]
  have q50 : (pj_fi G47 171 22).toInt = y45.toInt := by rw [show pj_fi G47 171 22 = y45 from by rw [hG47, pj_fi_wv_ne _ _ _ _ _ _ (by decide)]; exact hy45.symm]
  have q51 : (pj_fi G47 171 16).toInt = y46.toInt := by rw [show pj_fi G47 171 16 = y46 from by rw [hG47, pj_fi_wv_ne _ _ _ _ _ _ (by decide)]; exact hy46.symm]
  refine pj_X_ca (vs := [.ref 171, .int (Int32.ofInt 0)]) rfl (fun _ => rfl) ⟨Nat.le_of_ble_eq_true rfl, Nat.le_of_ble_eq_true rfl, pj_T_rcv iG47 rfl⟩ ⟨rfl, rfl⟩ (pj_Y_up (by decide) (ct_194_0tx G47 iG47 (Int32.ofInt 0) ⟨by omega, by omega⟩)) ?_
  rintro _ G53 ⟨y52, rfl, iG53, jG53, ry52, ey52, fy52⟩
  rw [← fy52, pj_bd_e]
  have kG53 : pj_kpt kc_196tx G0 G53 := pj_kpt_t kG47 (pj_kpt_s jG53 rfl)
  have q54 : (pj_fi G53 171 30).toInt = (pj_fi G47 171 30).toInt := by rw [jG53.1 (171, 30) (by decide)]
  have q55 : (pj_fi G53 171 6).toInt = (pj_fi G47 171 6).toInt := by rw [jG53.1 (171, 6) (by decide)]
  obtain ⟨y56, hy56⟩ : ∃ z : Int32, z = pj_fi G53 171 30 := ⟨_, rfl⟩
  have ey56 : (pj_fi G53 171 30).toInt = y56.toInt := by rw [hy56]
  have ry56 : (0 : Int) ≤ y56.toInt ∧ y56.toInt ≤ 16 := by rw [hy56]; exact iG53.2.1 171 30 (0, 16) rfl
  obtain ⟨y57, hy57⟩ : ∃ z : Int32, z = pj_fi G53 171 6 := ⟨_, rfl⟩
  have ey57 : (pj_fi G53 171 6).toInt = y57.toInt := by rw [hy57]
  have ry57 : (0 : Int) ≤ y57.toInt ∧ y57.toInt ≤ 6 := by rw [hy57]; exact iG53.2.1 171 6 (0, 6) rfl
  obtain ⟨y58, hy58⟩ : ∃ z : Int32, z = pj_fi G53 171 22 := ⟨_, rfl⟩
  have ey58 : (pj_fi G53 171 22).toInt = y58.toInt := by rw [hy58]
  have ry58 : (0 : Int) ≤ y58.toInt ∧ y58.toInt ≤ 10 := by rw [hy58]; exact iG53.2.1 171 22 (0, 10) rfl
  obtain ⟨y59, hy59⟩ : ∃ z : Int32, z = pj_fi G53 171 16 := ⟨_, rfl⟩
  have ey59 : (pj_fi G53 171 16).toInt = y59.toInt := by rw [hy59]
  have ry59 : (0 : Int) ≤ y59.toInt ∧ y59.toInt ≤ 80 := by rw [hy59]; exact iG53.2.1 171 16 (0, 80) rfl
  show pj_X _ _ G53 10 [(0, .ref 171)] [.int y52] _
  refine pj_X_of (fun r h => pj_R_to (G53, 12, [(1, .int y52), (0, .ref 171)], [.int y52], 0, 0) 12 3 (fun _ => rfl) h) ?_
  cases b60 : pj_c1 .ge y52 0 with
  | true =>
    rw [pj_cT]
    have ub60 := pj_u0_geT b60
    refine pj_X_of (fun r h => pj_R_ifT 17 rfl rfl b60 h) ?_
    refine pj_X_of (fun r h => pj_R_to (G53, 19, [(2, .int (Int32.ofInt 0)), (1, .int y52), (0, .ref 171)], [], 0, 0) 19 3 (fun _ => rfl) h) ?_
    have q61 : (pj_fi G53 171 30).toInt = y56.toInt := by rw [show pj_fi G53 171 30 = y56 from hy56.symm]
    have q62 : (pj_fi G53 171 6).toInt = y57.toInt := by rw [show pj_fi G53 171 6 = y57 from hy57.symm]
    have q63 : (pj_fi G53 171 22).toInt = y58.toInt := by rw [show pj_fi G53 171 22 = y58 from hy58.symm]
    have q64 : (pj_fi G53 171 16).toInt = y59.toInt := by rw [show pj_fi G53 171 16 = y59 from hy59.symm]
    exact pj_X_sub [(0, .ref 171), (1, .int y52), (2, .int (Int32.ofInt 0))] (show List.Nodup [0, 1, 2] by decide) ⟨rfl, rfl, rfl, trivial⟩ ((lp_ct_196tx G0 hI   p0_ 7) G53 iG53 kG53 y52 (Int32.ofInt 0) ⟨by omega, by omega⟩ ⟨by omega, by omega⟩ (ey52.2.2 (by omega)) (by omega) (by omega) (by omega) (by omega) (by omega) (by omega))
  | false =>
    rw [pj_cF]
    have ub60 := pj_u0_geF b60
    refine pj_X_of (fun r h => pj_R_ifF rfl b60 h) ?_
    refine pj_X_of (fun r h => pj_R_to (G53, 16, [(1, .int y52), (0, .ref 171)], [.int y52], 0, 0) 16 2 (fun _ => rfl) h) ?_
    have q65 : (pj_fi G53 171 30).toInt = y56.toInt := by rw [show pj_fi G53 171 30 = y56 from hy56.symm]
    have q66 : (pj_fi G53 171 6).toInt = y57.toInt := by rw [show pj_fi G53 171 6 = y57 from hy57.symm]
    have q67 : (pj_fi G53 171 22).toInt = y58.toInt := by rw [show pj_fi G53 171 22 = y58 from hy58.symm]
    have q68 : (pj_fi G53 171 16).toInt = y59.toInt := by rw [show pj_fi G53 171 16 = y59 from hy59.symm]
    exact pj_X_rt rfl rfl ⟨_, rfl, iG53, kG53, pj_i32 _, by omega, rfl⟩
theorem fr_197tx (G0 : pj_G) (hI : pj_Inv G0) (p0_ : (pj_fi G0 171 30).toInt ≤ 15) : pj_Inv (F_197tx G0).2 ∧ pj_kpt kc_196tx G0 (F_197tx G0).2 ∧ (((pj_fi (F_197tx G0).2 171 30).toInt ≤ 15) ∧ (pj_fi (F_197tx G0).2 171 16).toInt = 0) := by
  obtain ⟨v, G', -, y, -, i, j, r, x, e⟩ := ct_196tx G0 hI p0_
  rw [← e]
  exact ⟨i, j, x⟩
