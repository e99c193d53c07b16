def kc_189x : pj_KT := ([(171, 17), (171, 23)], [171], [])
noncomputable def F_190x (G0 : pj_G) (many : Int32) : Int32 × pj_G := pj_bd (F_188x G0 many) (fun y5 G6 => pj_nm (pj_wv G6 171 23 (.int y5)) (fun G10 => cond (pj_c1 .lt y5 0) ((Int32.ofInt (-1), G10)) (pj_nm (pj_fi G6 171 17) (fun y9 => pj_nm (pj_fi G10 171 18) (fun y14 => cond (pj_c1 .ge y9 y14) (pj_bd (F_188x G10 many) (fun y18 G19 => (y18, G19))) (pj_nm (pj_ai G10 180 y9.toInt.toNat) (fun z25 => pj_nm (((Int8.ofInt 97).toInt32) + y5) (fun z26 => cond (pj_c1 .ne z25 z26) (pj_bd (F_188x G10 many) (fun y30 G31 => (y30, G31))) ((Int32.ofInt (-1), G10))))))))))
theorem F_190x_e (G0 : pj_G) (many : Int32) : F_190x G0 many = pj_bd (F_188x G0 many) (fun y5 G6 => pj_nm (pj_wv G6 171 23 (.int y5)) (fun G10 => cond (pj_c1 .lt y5 0) ((Int32.ofInt (-1), G10)) (pj_nm (pj_fi G6 171 17) (fun y9 => pj_nm (pj_fi G10 171 18) (fun y14 => cond (pj_c1 .ge y9 y14) (pj_bd (F_188x G10 many) (fun y18 G19 => (y18, G19))) (pj_nm (pj_ai G10 180 y9.toInt.toNat) (fun z25 => pj_nm (((Int8.ofInt 97).toInt32) + y5) (fun z26 => cond (pj_c1 .ne z25 z26) (pj_bd (F_188x G10 many) (fun y30 G31 => (y30, G31))) ((Int32.ofInt (-1), G10)))))))))) := rfl
theorem ct_189x (G0 : pj_G) (hI : pj_Inv G0) (many : Int32) (rmany : (0 : Int) ≤ many.toInt ∧ many.toInt ≤ 8) : pj_Y 3 189 [.ref 171, .int many] G0 (fun v' G' => ∃ y : Int32, v' = some (.int y) ∧ pj_Inv G' ∧ pj_kpt kc_189x G0 G' ∧ ((-1 : Int) ≤ y.toInt ∧ y.toInt ≤ 7) ∧ (y.toInt ≤ many.toInt - 1 ∧ (0 ≤ y.toInt → 0 ≤ (pj_fi G' 171 23).toInt ∧ (pj_fi G' 171 23).toInt ≤ many.toInt - 1)) ∧ ((y, G') = F_190x G0 many)) := by
  have c0_ : ((Int8.ofInt 97).toInt32).toInt = 97 := by decide
  have c1_ : (Int32.ofInt (-1)).toInt = -1 := by decide
  refine pj_Y_X (M := pj_m189) rfl rfl (Nat.le_of_ble_eq_true rfl) ?_
  have hK : pj_kpt kc_189x G0 G0 := pj_kpt_r _ _
  show pj_X _ _ G0 0 [(0, .ref 171), (1, .int many)] [] _
  rw [F_190x_e]
  obtain ⟨y1, hy1⟩ : ∃ z : Int32, z = pj_fi G0 171 23 := ⟨_, rfl⟩
  have ey1 : (pj_fi G0 171 23).toInt = y1.toInt := by rw [hy1]
  have ry1 : (-1 : Int) ≤ y1.toInt ∧ y1.toInt ≤ 7 := by rw [hy1]; exact hI.2.1 171 23 (-1, 7) rfl
  obtain ⟨y2, hy2⟩ : ∃ z : Int32, z = pj_fi G0 171 17 := ⟨_, rfl⟩
  have ey2 : (pj_fi G0 171 17).toInt = y2.toInt := by rw [hy2]
  have ry2 : (0 : Int) ≤ y2.toInt ∧ y2.toInt ≤ 80 := by rw [hy2]; exact hI.2.1 171 17 (0, 80) rfl
  refine pj_X_of (fun r h => pj_R_to (G0, 3, [(0, .ref 171), (1, .int many)], [.int many, .ref 171, .ref 171], 0, 0) 3 4 (fun _ => rfl) h) ?_
  have q3 : (pj_fi G0 171 23).toInt = y1.toInt := by rw [show pj_fi G0 171 23 = y1 from hy1.symm]
  have q4 : (pj_fi G0 171 17).toInt = y2.toInt := by rw [show pj_fi G0 171 17 = y2 from hy2.symm]
  refine pj_X_ca (vs := [.ref 171, .int many]) rfl (fun _ => rfl) ⟨Nat.le_of_ble_eq_true rfl, Nat.le_of_ble_eq_true rfl, pj_T_rcv hI rfl⟩ ⟨rfl, rfl⟩ (pj_Y_up (by decide) (ct_187x G0 hI many ⟨by omega, by omega⟩)) ?_
  rintro _ G6 ⟨y5, rfl, iG6, jG6, ry5, ey5, fy5⟩
  replace ey5 := ey5 _ rfl
  rw [← fy5, pj_bd_e]
  have kG6 : pj_kpt kc_189x G0 G6 := pj_kpt_t hK (pj_kpt_s jG6 rfl)
  have q7 : (pj_fi G6 171 23).toInt = (pj_fi G0 171 23).toInt := by rw [jG6.1 (171, 23) (by decide)]
  obtain ⟨y8, hy8⟩ : ∃ z : Int32, z = pj_fi G6 171 23 := ⟨_, rfl⟩
  have ey8 : (pj_fi G6 171 23).toInt = y8.toInt := by rw [hy8]
  have ry8 : (-1 : Int) ≤ y8.toInt ∧ y8.toInt ≤ 7 := by rw [hy8]; exact iG6.2.1 171 23 (-1, 7) rfl
  obtain ⟨y9, hy9⟩ : ∃ z : Int32, z = pj_fi G6 171 17 := ⟨_, rfl⟩
  have ey9 : (pj_fi G6 171 17).toInt = y9.toInt := by rw [hy9]
  have ry9 : (0 : Int) ≤ y9.toInt ∧ y9.toInt ≤ 80 := by rw [hy9]; exact iG6.2.1 171 17 (0, 80) rfl
  show pj_X _ _ G6 6 [(0, .ref 171), (1, .int many)] [.int y5, .ref 171] _
  refine pj_X_of (fun r h => pj_T_pf iG6 rfl rfl rfl h) ?_
  show pj_X _ _ (pj_wv G6 171 23 (.int y5)) 9 [(0, .ref 171), (1, .int many)] [] _
  obtain ⟨G10, hG10⟩ : ∃ H, H = pj_wv G6 171 23 (.int y5) := ⟨_, rfl⟩
  have iG10 : pj_Inv G10 := by rw [hG10]; exact pj_Inv_wi iG6 (ci := 12) rfl (fun q hq => by cases hq; exact ⟨by show (-1 : Int) ≤ _; omega, by show _ ≤ (7 : Int); omega⟩)
  have kG10 : pj_kpt kc_189x G0 G10 := by rw [hG10]; exact pj_kpt_v kG6 rfl
  rw [← hG10]
  rw [pj_nm_e]
  refine pj_X_of (fun r h => pj_R_to (G10, 10, [(0, .ref 171), (1, .int many)], [.ref 171], 0, 0) 10 2 (fun _ => rfl) h) ?_
  refine pj_X_of (fun r h => pj_T_gi iG10 rfl rfl h) ?_
  show pj_X _ _ G10 13 [(0, .ref 171), (1, .int many)] [.int (pj_fi G10 171 23)] _
  refine pj_X_eqi (show pj_fi G10 171 23 = y5 from by rw [hG10]; exact pj_fi_wi iG6.1 (ci := 12) rfl _) ?_
  cases b11 : pj_c1 .lt y5 0 with
  | true =>
    rw [pj_cT]
    have ub11 := pj_u0_ltT b11
    refine pj_X_of (fun r h => pj_R_ifT 46 rfl rfl b11 h) ?_
    refine pj_X_of (fun r h => pj_R_to (G10, 47, [(0, .ref 171), (1, .int many)], [.int (Int32.ofInt (-1))], 0, 0) 47 2 (fun _ => rfl) h) ?_
    have q12 : (pj_fi G10 171 23).toInt = y5.toInt := by rw [show pj_fi G10 171 23 = y5 from by rw [hG10]; exact pj_fi_wi iG6.1 (ci := 12) rfl _]
    have q13 : (pj_fi G10 171 17).toInt = y9.toInt := by rw [show pj_fi G10 171 17 = y9 from by rw [hG10, pj_fi_wv_ne _ _ _ _ _ _ (by decide)]; exact hy9.symm]
    exact pj_X_rt rfl rfl ⟨_, rfl, iG10, kG10, ⟨by omega, by omega⟩, by omega, rfl⟩
  | false =>
    rw [pj_cF]
    have ub11 := pj_u0_ltF b11
    refine pj_X_of (fun r h => pj_R_ifF rfl b11 h) ?_
    refine pj_X_of (fun r h => pj_R_to (G10, 17, [(0, .ref 171), (1, .int many)], [.ref 171], 0, 0) 17 2 (fun _ => rfl) h) ?_
    refine pj_X_of (fun r h => pj_T_gi iG10 rfl rfl h) ?_
    show pj_X _ _ G10 20 [(0, .ref 171), (1, .int many)] [.int (pj_fi G10 171 17)] _
    rw [← hy9, pj_nm_e]
    refine pj_X_eqi (show pj_fi G10 171 17 = y9 from by rw [hG10, pj_fi_wv_ne _ _ _ _ _ _ (by decide)]; exact hy9.symm) ?_
    refine pj_X_of (fun r h => pj_R_to (G10, 21, [(0, .ref 171), (1, .int many)], [.ref 171, .int y9], 0, 0) 21 2 (fun _ => rfl) h) ?_
    refine pj_X_of (fun r h => pj_T_gi iG10 rfl rfl h) ?_
    show pj_X _ _ G10 24 [(0, .ref 171), (1, .int many)] [.int (pj_fi G10 171 18), .int y9] _
    obtain ⟨y14, hy14⟩ : ∃ z : Int32, z = pj_fi G10 171 18 := ⟨_, rfl⟩
    refine pj_X_eqi hy14.symm ?_
    rw [← hy14, pj_nm_e]
    have ey14 : (pj_fi G10 171 18).toInt = y14.toInt := by rw [hy14]
    have ry14 : (0 : Int) ≤ y14.toInt ∧ y14.toInt ≤ 80 := by rw [hy14]; exact iG10.2.1 171 18 (0, 80) rfl
    cases b15 : pj_c1 .ge y9 y14 with
    | true =>
      rw [pj_cT]
      have ub15 := pj_u_geT b15
      refine pj_X_of (fun r h => pj_R_icT 48 rfl rfl b15 h) ?_
      refine pj_X_of (fun r h => pj_R_to (G10, 50, [(0, .ref 171), (1, .int many)], [.int many, .ref 171], 0, 0) 50 3 (fun _ => rfl) h) ?_
      have q16 : (pj_fi G10 171 23).toInt = y5.toInt := by rw [show pj_fi G10 171 23 = y5 from by rw [hG10]; exact pj_fi_wi iG6.1 (ci := 12) rfl _]
      have q17 : (pj_fi G10 171 17).toInt = y9.toInt := by rw [show pj_fi G10 171 17 = y9 from by rw [hG10, pj_fi_wv_ne _ _ _ _ _ _ (by decide)]; exact hy9.symm]
      refine pj_X_ca (vs := [.ref 171, .int many]) rfl (fun _ => rfl) ⟨Nat.le_of_ble_eq_true rfl, Nat.le_of_ble_eq_true rfl, pj_T_rcv iG10 rfl⟩ ⟨rfl, rfl⟩ (pj_Y_up (by decide) (ct_187x G10 iG10 many ⟨by omega, by omega⟩)) ?_
      rintro _ G19 ⟨y18, rfl, iG19, jG19, ry18, ey18, fy18⟩
      replace ey18 := ey18 _ rfl
      rw [← fy18, pj_bd_e]
      have kG19 : pj_kpt kc_189x G0 G19 := pj_kpt_t kG10 (pj_kpt_s jG19 rfl)
      have q20 : (pj_fi G19 171 23).toInt = (pj_fi G10 171 23).toInt := by rw [jG19.1 (171, 23) (by decide)]
      obtain ⟨y21, hy21⟩ : ∃ z : Int32, z = pj_fi G19 171 23 := ⟨_, rfl⟩
      have ey21 : (pj_fi G19 171 23).toInt = y21.toInt := by rw [hy21]
      have ry21 : (-1 : Int) ≤ y21.toInt ∧ y21.toInt ≤ 7 := by rw [hy21]; exact iG19.2.1 171 23 (-1, 7) rfl
      obtain ⟨y22, hy22⟩ : ∃ z : Int32, z = pj_fi G19 171 17 := ⟨_, rfl⟩
      have ey22 : (pj_fi G19 171 17).toInt = y22.toInt := by rw [hy22]
      have ry22 : (0 : Int) ≤ y22.toInt ∧ y22.toInt ≤ 80 := by rw [hy22]; exact iG19.2.1 171 17 (0, 80) rfl
      show pj_X _ _ G19 53 [(0, .ref 171), (1, .int many)] [.int y18] _
      have q23 : (pj_fi G19 171 23).toInt = y21.toInt := by rw [show pj_fi G19 171 23 = y21 from hy21.symm]
      have q24 : (pj_fi G19 171 17).toInt = y22.toInt := by rw [show pj_fi G19 171 17 = y22 from hy22.symm]
      exact pj_X_rt rfl rfl ⟨_, rfl, iG19, kG19, ⟨by omega, by omega⟩, by omega, rfl⟩
    | false =>
      rw [pj_cF]
      have ub15 := pj_u_geF b15
      refine pj_X_of (fun r h => pj_R_icF rfl b15 h) ?_
      refine pj_X_of (fun r h => pj_R_to (G10, 28, [(0, .ref 171), (1, .int many)], [.ref 171], 0, 0) 28 2 (fun _ => rfl) h) ?_
      refine pj_X_of (fun r h => pj_T_gr iG10 rfl rfl rfl h) ?_
      refine pj_X_of (fun r h => pj_R_to (G10, 32, [(0, .ref 171), (1, .int many)], [.ref 171, .ref 180], 0, 0) 32 2 (fun _ => rfl) h) ?_
      refine pj_X_of (fun r h => pj_T_gi iG10 rfl rfl h) ?_
      show pj_X _ _ G10 35 [(0, .ref 171), (1, .int many)] [.int (pj_fi G10 171 17), .ref 180] _
      refine pj_X_eqi (show pj_fi G10 171 17 = y9 from by rw [hG10, pj_fi_wv_ne _ _ _ _ _ _ (by decide)]; exact hy9.symm) ?_
      refine pj_X_of (fun r h => pj_T_il iG10 rfl rfl (by omega) (by omega) h) ?_
      show pj_X _ _ G10 36 [(0, .ref 171), (1, .int many)] [.int (pj_ai G10 180 y9.toInt.toNat)] _
      obtain ⟨z25, hz25⟩ : ∃ z : Int32, z = pj_ai G10 180 y9.toInt.toNat := ⟨_, rfl⟩
      refine pj_X_eqi hz25.symm ?_
      rw [← hz25, pj_nm_e]
      have ez25 : (pj_ai G10 180 y9.toInt.toNat).toInt = z25.toInt := by rw [hz25]
      have fz25_0 : (0 : Int) ≤ z25.toInt ∧ z25.toInt ≤ 255 ∧ (z25.toInt ≤ 0 ∨ 0 ≤ z25.toInt) := by rw [hz25]; exact iG10.2.2.1 180 (80, 0, 255, 0, 0) rfl _ (by show _ < 80; omega)
      have gz25 : (pj_ai G10 180 (pj_fi G10 171 17).toInt.toNat).toInt = z25.toInt := by rw [show pj_fi G10 171 17 = y9 from by rw [hG10, pj_fi_wv_ne _ _ _ _ _ _ (by decide)]; exact hy9.symm, hz25]
      refine pj_X_of (fun r h => pj_R_to (G10, 39, [(0, .ref 171), (1, .int many)], [.ref 171, .int ((Int8.ofInt 97).toInt32), .int z25], 0, 0) 39 3 (fun _ => rfl) h) ?_
      refine pj_X_of (fun r h => pj_T_gi iG10 rfl rfl h) ?_
      show pj_X _ _ G10 42 [(0, .ref 171), (1, .int many)] [.int (pj_fi G10 171 23), .int ((Int8.ofInt 97).toInt32), .int z25] _
      refine pj_X_eqi (show pj_fi G10 171 23 = y5 from by rw [hG10]; exact pj_fi_wi iG6.1 (ci := 12) rfl _) ?_
      refine pj_X_of (fun r h => pj_R_to (G10, 43, [(0, .ref 171), (1, .int many)], [.int (((Int8.ofInt 97).toInt32) + y5), .int z25], 0, 0) 43 2 (fun _ => rfl) h) ?_
      obtain ⟨z26, hz26⟩ : ∃ z : Int32, z = ((Int8.ofInt 97).toInt32) + y5 := ⟨_, rfl⟩
      refine pj_X_eqi hz26.symm ?_
      rw [← hz26, pj_nm_e]
      have fz26_0 : z26.toInt = ((Int8.ofInt 97).toInt32).toInt + y5.toInt := by rw [hz26]; exact pj_addI (by have := pj_i32 ((Int8.ofInt 97).toInt32); have := pj_i32 y5; omega) (by have := pj_i32 ((Int8.ofInt 97).toInt32); have := pj_i32 y5; omega)
      cases b27 : pj_c1 .ne z25 z26 with
      | true =>
        rw [pj_cT]
        have ub27 := pj_u_neT b27
        refine pj_X_of (fun r h => pj_R_icT 48 rfl rfl b27 h) ?_
        refine pj_X_of (fun r h => pj_R_to (G10, 50, [(0, .ref 171), (1, .int many)], [.int many, .ref 171], 0, 0) 50 3 (fun _ => rfl) h) ?_
        have q28 : (pj_fi G10 171 23).toInt = y5.toInt := by rw [show pj_fi G10 171 23 = y5 from by rw [hG10]; exact pj_fi_wi iG6.1 (ci := 12) rfl _]
        have q29 : (pj_fi G10 171 17).toInt = y9.toInt := by rw [show pj_fi G10 171 17 = y9 from by rw [hG10, pj_fi_wv_ne _ _ _ _ _ _ (by decide)]; exact hy9.symm]
        refine pj_X_ca (vs := [.ref 171, .int many]) rfl (fun _ => rfl) ⟨Nat.le_of_ble_eq_true rfl, Nat.le_of_ble_eq_true rfl, pj_T_rcv iG10 rfl⟩ ⟨rfl, rfl⟩ (pj_Y_up (by decide) (ct_187x G10 iG10 many ⟨by omega, by omega⟩)) ?_
        rintro _ G31 ⟨y30, rfl, iG31, jG31, ry30, ey30, fy30⟩
        replace ey30 := ey30 _ rfl
        rw [← fy30, pj_bd_e]
        have kG31 : pj_kpt kc_189x G0 G31 := pj_kpt_t kG10 (pj_kpt_s jG31 rfl)
        have q32 : (pj_fi G31 171 23).toInt = (pj_fi G10 171 23).toInt := by rw [jG31.1 (171, 23) (by decide)]
        obtain ⟨y33, hy33⟩ : ∃ z : Int32, z = pj_fi G31 171 23 := ⟨_, rfl⟩
        have ey33 : (pj_fi G31 171 23).toInt = y33.toInt := by rw [hy33]
        have ry33 : (-1 : Int) ≤ y33.toInt ∧ y33.toInt ≤ 7 := by rw [hy33]; exact iG31.2.1 171 23 (-1, 7) rfl
        obtain ⟨y34, hy34⟩ : ∃ z : Int32, z = pj_fi G31 171 17 := ⟨_, rfl⟩
        have ey34 : (pj_fi G31 171 17).toInt = y34.toInt := by rw [hy34]
        have ry34 : (0 : Int) ≤ y34.toInt ∧ y34.toInt ≤ 80 := by rw [hy34]; exact iG31.2.1 171 17 (0, 80) rfl
        show pj_X _ _ G31 53 [(0, .ref 171), (1, .int many)] [.int y30] _
        have q35 : (pj_fi G31 171 23).toInt = y33.toInt := by rw [show pj_fi G31 171 23 = y33 from hy33.symm]
        have q36 : (pj_fi G31 171 17).toInt = y34.toInt := by rw [show pj_fi G31 171 17 = y34 from hy34.symm]
        exact pj_X_rt rfl rfl ⟨_, rfl, iG31, kG31, ⟨by omega, by omega⟩, by omega, rfl⟩
      | false =>
        rw [pj_cF]
        have ub27 := pj_u_neF b27
        refine pj_X_of (fun r h => pj_R_icF rfl b27 h) ?_
        refine pj_X_of (fun r h => pj_R_to (G10, 47, [(0, .ref 171), (1, .int many)], [.int (Int32.ofInt (-1))], 0, 0) 47 2 (fun _ => rfl) h) ?_
        have q37 : (pj_fi G10 171 23).toInt = y5.toInt := by rw [show pj_fi G10 171 23 = y5 from by rw [hG10]; exact pj_fi_wi iG6.1 (ci := 12) rfl _]
        have q38 : (pj_fi G10 171 17).toInt = y9.toInt := by rw [show pj_fi G10 171 17 = y9 from by rw [hG10, pj_fi_wv_ne _ _ _ _ _ _ (by decide)]; exact hy9.symm]
        exact pj_X_rt rfl rfl ⟨_, rfl, iG10, kG10, ⟨by omega, by omega⟩, by omega, rfl⟩
theorem fr_190x (G0 : pj_G) (hI : pj_Inv G0) (many : Int32) (rmany : (0 : Int) ≤ many.toInt ∧ many.toInt ≤ 8) : pj_Inv (F_190x G0 many).2 ∧ pj_kpt kc_189x G0 (F_190x G0 many).2 ∧ ((-1 : Int) ≤ (F_190x G0 many).1.toInt ∧ (F_190x G0 many).1.toInt ≤ 7) ∧ ((F_190x G0 many).1.toInt ≤ many.toInt - 1 ∧ (0 ≤ (F_190x G0 many).1.toInt → 0 ≤ (pj_fi (F_190x G0 many).2 171 23).toInt ∧ (pj_fi (F_190x G0 many).2 171 23).toInt ≤ many.toInt - 1)) := by
  obtain ⟨v, G', -, y, -, i, j, r, x, e⟩ := ct_189x G0 hI many rmany
  rw [← e]
  exact ⟨i, j, r, x⟩
def kc_190x : pj_KT := ([(171, 17), (171, 22), (171, 23)], [171, 181], [181])
noncomputable def F_191x (G0 : pj_G) : Int32 × pj_G := pj_nm (pj_fi G0 171 22) (fun y1 => pj_nm ((Int32.ofInt 4) * y1) (fun z4 => pj_nm (z4 + (Int32.ofInt 1)) (fun z5 => pj_nm (pj_fi G0 171 21) (fun y3 => pj_bd (F_190x G0 y3) (fun y9 G10 => pj_nm (pj_wa G10 181 z5.toInt.toNat y9) (fun G16 => pj_nm (pj_fi G10 171 23) (fun y14 => pj_nm (pj_wa G16 181 z4.toInt.toNat y14) (fun G17 => pj_nm (pj_ai G17 181 z5.toInt.toNat) (fun z18 => cond (pj_c1 .ge z18 0) (pj_nm (z4 + (Int32.ofInt 2)) (fun z21 => pj_bd (F_187ex G17 (Int32.ofInt 2)) (fun y25 G26 => pj_nm (pj_wa G26 181 z21.toInt.toNat y25) (fun G33 => pj_nm (pj_ai G33 181 z21.toInt.toNat) (fun z34 => cond (pj_c1 .lt z34 0) ((Int32.ofInt 0, G33)) (pj_bd (F_183x G33 ((Int8.ofInt 58).toInt32)) (fun y43 G44 => cond (pj_c1 .ne y43 0) (pj_nm (z4 + (Int32.ofInt 3)) (fun z52 => pj_bd (F_186_s9x G44) (fun y56 G57 => pj_nm ((Int32.ofInt 1) + y56) (fun z64 => pj_nm (pj_wa G57 181 z52.toInt.toNat z64) (fun G65 => pj_nm (pj_fi G57 171 22) (fun y61 => pj_nm (y61 + (Int32.ofInt 1)) (fun z66 => pj_nm (pj_wv G65 171 22 (.int z66)) (fun G67 => pj_nm (pj_ai G67 181 z52.toInt.toNat) (fun z68 => cond (pj_c1 .le z68 0) ((Int32.ofInt 0, G67)) ((Int32.ofInt 1, G67))))))))))) ((Int32.ofInt 0, G44))))))))) ((Int32.ofInt 0, G17)))))))))))
theorem F_191x_e (G0 : pj_G) : F_191x G0 = pj_nm (pj_fi G0 171 22) (fun y1 => pj_nm ((Int32.ofInt 4) * y1) (fun z4 => pj_nm (z4 + (Int32.ofInt 1)) (fun z5 => pj_nm (pj_fi G0 171 21) (fun y3 => pj_bd (F_190x G0 y3) (fun y9 G10 => pj_nm (pj_wa G10 181 z5.toInt.toNat y9) (fun G16 => pj_nm (pj_fi G10 171 23) (fun y14 => pj_nm (pj_wa G16 181 z4.toInt.toNat y14) (fun G17 => pj_nm (pj_ai G17 181 z5.toInt.toNat) (fun z18 => cond (pj_c1 .ge z18 0) (pj_nm (z4 + (Int32.ofInt 2)) (fun z21 => pj_bd (F_187ex G17 (Int32.ofInt 2)) (fun y25 G26 => pj_nm (pj_wa G26 181 z21.toInt.toNat y25) (fun G33 => pj_nm (pj_ai G33 181 z21.toInt.toNat) (fun z34 => cond (pj_c1 .lt z34 0) ((Int32.ofInt 0, G33)) (pj_bd (F_183x G33 ((Int8.ofInt 58).toInt32)) (fun y43 G44 => cond (pj_c1 .ne y43 0) (pj_nm (z4 + (Int32.ofInt 3)) (fun z52 => pj_bd (F_186_s9x G44) (fun y56 G57 => pj_nm ((Int32.ofInt 1) + y56) (fun z64 => pj_nm (pj_wa G57 181 z52.toInt.toNat z64) (fun G65 => pj_nm (pj_fi G57 171 22) (fun y61 => pj_nm (y61 + (Int32.ofInt 1)) (fun z66 => pj_nm (pj_wv G65 171 22 (.int z66)) (fun G67 => pj_nm (pj_ai G67 181 z52.toInt.toNat) (fun z68 => cond (pj_c1 .le z68 0) ((Int32.ofInt 0, G67)) ((Int32.ofInt 1, G67))))))))))) ((Int32.ofInt 0, G44))))))))) ((Int32.ofInt 0, G17))))))))))) := rfl
theorem ct_190x (G0 : pj_G) (hI : pj_Inv G0) (p0_ : (pj_fi G0 171 22).toInt ≤ 9) : pj_Y 17 190 [.ref 171] G0 (fun v' G' => ∃ y : Int32, v' = some (.int y) ∧ pj_Inv G' ∧ pj_kpt kc_190x G0 G' ∧ ((0 : Int) ≤ y.toInt ∧ y.toInt ≤ 1) ∧ (∀ H, G0 = H → (((pj_fi H 171 22).toInt ≤ (pj_fi G' 171 22).toInt ∧ (pj_fi G' 171 22).toInt ≤ (pj_fi H 171 22).toInt + 1) ∧ (1 ≤ y.toInt → (pj_fi G' 171 22).toInt = (pj_fi H 171 22).toInt + 1 ∧ (pj_rd H (pj_fi H 171 22).toInt (pj_fi H 171 21).toInt → pj_rd G' (pj_fi G' 171 22).toInt (pj_fi G' 171 21).toInt)))) ∧ ((y, G') = F_191x G0)) := by
  have c0_ : ((Int8.ofInt 58).toInt32).toInt = 58 := by decide
  have c1_ : (Int32.ofInt 0).toInt = 0 := by decide
  have c2_ : (Int32.ofInt 1).toInt = 1 := by decide
  have c3_ : (Int32.ofInt 2).toInt = 2 := by decide
  have c4_ : (Int32.ofInt 3).toInt = 3 := by decide
  have c5_ : (Int32.ofInt 4).toInt = 4 := by decide
  refine pj_Y_X (M := pj_m190) rfl rfl (Nat.le_of_ble_eq_true rfl) ?_
  have hK : pj_kpt kc_190x G0 G0 := pj_kpt_r _ _
  show pj_X _ _ G0 0 [(0, .ref 171)] [] _
  rw [F_191x_e]
  obtain ⟨y1, hy1⟩ : ∃ z : Int32, z = pj_fi G0 171 22 := ⟨_, rfl⟩
  have ey1 : (pj_fi G0 171 22).toInt = y1.toInt := by rw [hy1]
  have ry1 : (0 : Int) ≤ y1.toInt ∧ y1.toInt ≤ 10 := by rw [hy1]; exact hI.2.1 171 22 (0, 10) rfl
  obtain ⟨y2, hy2⟩ : ∃ z : Int32, z = pj_fi G0 171 23 := ⟨_, rfl⟩
  have ey2 : (pj_fi G0 171 23).toInt = y2.toInt := by rw [hy2]
  have ry2 : (-1 : Int) ≤ y2.toInt ∧ y2.toInt ≤ 7 := by rw [hy2]; exact hI.2.1 171 23 (-1, 7) rfl
  obtain ⟨y3, hy3⟩ : ∃ z : Int32, z = pj_fi G0 171 21 := ⟨_, rfl⟩
  have ey3 : (pj_fi G0 171 21).toInt = y3.toInt := by rw [hy3]
  have ry3 : (0 : Int) ≤ y3.toInt ∧ y3.toInt ≤ 8 := by rw [hy3]; exact hI.2.1 171 21 (0, 8) rfl
  refine pj_X_of (fun r h => pj_R_to (G0, 2, [(0, .ref 171)], [.ref 171, .int (Int32.ofInt 4)], 0, 0) 2 3 (fun _ => rfl) h) ?_
  refine pj_X_of (fun r h => pj_T_gi hI rfl rfl h) ?_
  show pj_X _ _ G0 5 [(0, .ref 171)] [.int (pj_fi G0 171 22), .int (Int32.ofInt 4)] _
  rw [← hy1, pj_nm_e]
  refine pj_X_of (fun r h => pj_R_to (G0, 6, [(0, .ref 171)], [.int ((Int32.ofInt 4) * y1)], 0, 0) 6 2 (fun _ => rfl) h) ?_
  obtain ⟨z4, hz4⟩ : ∃ z : Int32, z = (Int32.ofInt 4) * y1 := ⟨_, rfl⟩
  refine pj_X_eqi hz4.symm ?_
  rw [← hz4, pj_nm_e]
  have fz4_0 : z4.toInt = 4 * y1.toInt := by rw [hz4]; exact pj_mulL (by decide) (by omega) (by omega)
  refine pj_X_of (fun r h => pj_R_to (G0, 8, [(1, .int z4), (0, .ref 171)], [.ref 171], 0, 0) 8 3 (fun _ => rfl) h) ?_
  refine pj_X_of (fun r h => pj_T_gr hI rfl rfl rfl h) ?_
  refine pj_X_of (fun r h => pj_R_to (G0, 14, [(1, .int z4), (0, .ref 171)], [.int (z4 + (Int32.ofInt 1)), .ref 181], 0, 0) 14 4 (fun _ => rfl) h) ?_
  obtain ⟨z5, hz5⟩ : ∃ z : Int32, z = z4 + (Int32.ofInt 1) := ⟨_, rfl⟩
  refine pj_X_eqi hz5.symm ?_
  rw [← hz5, pj_nm_e]
  have fz5_0 : z5.toInt = z4.toInt + (Int32.ofInt 1).toInt := by rw [hz5]; exact pj_addI (by have := pj_i32 z4; have := pj_i32 (Int32.ofInt 1); omega) (by have := pj_i32 z4; have := pj_i32 (Int32.ofInt 1); omega)
  refine pj_X_of (fun r h => pj_R_to (G0, 16, [(1, .int z4), (0, .ref 171)], [.ref 171, .ref 171, .int z5, .ref 181], 0, 0) 16 3 (fun _ => rfl) h) ?_
  refine pj_X_of (fun r h => pj_T_gi hI rfl rfl h) ?_
  show pj_X _ _ G0 19 [(1, .int z4), (0, .ref 171)] [.int (pj_fi G0 171 21), .ref 171, .int z5, .ref 181] _
  rw [← hy3, pj_nm_e]
  have q6 : (pj_fi G0 171 22).toInt = y1.toInt := by rw [show pj_fi G0 171 22 = y1 from hy1.symm]
  have q7 : (pj_fi G0 171 23).toInt = y2.toInt := by rw [show pj_fi G0 171 23 = y2 from hy2.symm]
  have q8 : (pj_fi G0 171 21).toInt = y3.toInt := by rw [show pj_fi G0 171 21 = y3 from hy3.symm]
  refine pj_X_ca (vs := [.ref 171, .int y3]) rfl (fun _ => rfl) ⟨Nat.le_of_ble_eq_true rfl, Nat.le_of_ble_eq_true rfl, pj_T_rcv hI rfl⟩ ⟨rfl, rfl⟩ (pj_Y_up (by decide) (ct_189x G0 hI y3 ⟨by omega, by omega⟩)) ?_
  rintro _ G10 ⟨y9, rfl, iG10, jG10, ry9, ey9, fy9⟩
  rw [← fy9, pj_bd_e]
  have kG10 : pj_kpt kc_190x G0 G10 := pj_kpt_t hK (pj_kpt_s jG10 rfl)
  have q11 : (pj_fi G10 171 22).toInt = (pj_fi G0 171 22).toInt := by rw [jG10.1 (171, 22) (by decide)]
  have q12 : (pj_fi G10 171 21).toInt = (pj_fi G0 171 21).toInt := by rw [jG10.1 (171, 21) (by decide)]
  obtain ⟨y13, hy13⟩ : ∃ z : Int32, z = pj_fi G10 171 22 := ⟨_, rfl⟩
  have ey13 : (pj_fi G10 171 22).toInt = y13.toInt := by rw [hy13]
  have ry13 : (0 : Int) ≤ y13.toInt ∧ y13.toInt ≤ 10 := by rw [hy13]; exact iG10.2.1 171 22 (0, 10) rfl
  obtain ⟨y14, hy14⟩ : ∃ z : Int32, z = pj_fi G10 171 23 := ⟨_, rfl⟩
  have ey14 : (pj_fi G10 171 23).toInt = y14.toInt := by rw [hy14]
  have ry14 : (-1 : Int) ≤ y14.toInt ∧ y14.toInt ≤ 7 := by rw [hy14]; exact iG10.2.1 171 23 (-1, 7) rfl
  obtain ⟨y15, hy15⟩ : ∃ z : Int32, z = pj_fi G10 171 21 := ⟨_, rfl⟩
  have ey15 : (pj_fi G10 171 21).toInt = y15.toInt := by rw [hy15]
  have ry15 : (0 : Int) ≤ y15.toInt ∧ y15.toInt ≤ 8 := by rw [hy15]; exact iG10.2.1 171 21 (0, 8) rfl
  show pj_X _ _ G10 22 [(1, .int z4), (0, .ref 171)] [.int y9, .int z5, .ref 181] _
  refine pj_X_of (fun r h => pj_T_is iG10 rfl rfl (by omega) (by omega) h) ?_
  show pj_X _ _ (pj_wa G10 181 z5.toInt.toNat y9) 23 [(1, .int z4), (0, .ref 171)] [] _
  obtain ⟨G16, hG16⟩ : ∃ H, H = pj_wa G10 181 z5.toInt.toNat y9 := ⟨_, rfl⟩
  have iG16 : pj_Inv G16 := by rw [hG16]; exact pj_Inv_wa iG10 rfl (fun q hq => by cases hq; exact ⟨by show (-1 : Int) ≤ _; omega, by show _ ≤ (99 : Int); omega, by show _ ≤ (-1 : Int) ∨ (-1 : Int) ≤ _; omega⟩) (fun n hn => by cases hn)
  have kG16 : pj_kpt kc_190x G0 G16 := by rw [hG16]; exact pj_kpt_a kG10 rfl
  rw [← hG16]
  rw [pj_nm_e]
  refine pj_X_of (fun r h => pj_R_to (G16, 24, [(1, .int z4), (0, .ref 171)], [.ref 171], 0, 0) 24 2 (fun _ => rfl) h) ?_
  refine pj_X_of (fun r h => pj_T_gr iG16 rfl rfl rfl h) ?_
  refine pj_X_of (fun r h => pj_R_to (G16, 29, [(1, .int z4), (0, .ref 171)], [.ref 171, .int z4, .ref 181], 0, 0) 29 3 (fun _ => rfl) h) ?_
  refine pj_X_of (fun r h => pj_T_gi iG16 rfl rfl h) ?_
  show pj_X _ _ G16 32 [(1, .int z4), (0, .ref 171)] [.int (pj_fi G16 171 23), .int z4, .ref 181] _
  rw [← hy14, pj_nm_e]
  refine pj_X_eqi (show pj_fi G16 171 23 = y14 from by rw [hG16, pj_fi_wa]; exact hy14.symm) ?_
  refine pj_X_of (fun r h => pj_T_is iG16 rfl rfl (by omega) (by omega) h) ?_
  show pj_X _ _ (pj_wa G16 181 z4.toInt.toNat y14) 33 [(1, .int z4), (0, .ref 171)] [] _
  obtain ⟨G17, hG17⟩ : ∃ H, H = pj_wa G16 181 z4.toInt.toNat y14 := ⟨_, rfl⟩
  have iG17 : pj_Inv G17 := by rw [hG17]; exact pj_Inv_wa iG16 rfl (fun q hq => by cases hq; exact ⟨by show (-1 : Int) ≤ _; omega, by show _ ≤ (99 : Int); omega, by show _ ≤ (-1 : Int) ∨ (-1 : Int) ≤ _; omega⟩) (fun n hn => by cases hn)
  have kG17 : pj_kpt kc_190x G0 G17 := by rw [hG17]; exact pj_kpt_a kG16 rfl
  rw [← hG17]
  rw [pj_nm_e]
  refine pj_X_of (fun r h => pj_R_to (G17, 34, [(1, .int z4), (0, .ref 171)], [.ref 171], 0, 0) 34 2 (fun _ => rfl) h) ?_
  refine pj_X_of (fun r h => pj_T_gr iG17 rfl rfl rfl h) ?_
  refine pj_X_of (fun r h => pj_R_to (G17, 40, [(1, .int z4), (0, .ref 171)], [.int (z4 + (Int32.ofInt 1)), .ref 181], 0, 0) 40 4 (fun _ => rfl) h) ?_
  refine pj_X_eqi hz5.symm ?_
  refine pj_X_of (fun r h => pj_T_il iG17 rfl rfl (by omega) (by omega) h) ?_
  show pj_X _ _ G17 41 [(1, .int z4), (0, .ref 171)] [.int (pj_ai G17 181 z5.toInt.toNat)] _
  obtain ⟨z18, hz18⟩ : ∃ z : Int32, z = pj_ai G17 181 z5.toInt.toNat := ⟨_, rfl⟩
  refine pj_X_eqi hz18.symm ?_
  rw [← hz18, pj_nm_e]
  have ez18 : (pj_ai G17 181 z5.toInt.toNat).toInt = z18.toInt := by rw [hz18]
  have fz18_0 : (-1 : Int) ≤ z18.toInt ∧ z18.toInt ≤ 99 ∧ (z18.toInt ≤ -1 ∨ -1 ≤ z18.toInt) := by rw [hz18]; exact iG17.2.2.1 181 (40, -1, 99, -1, -1) rfl _ (by show _ < 40; omega)
  have x19 : z18.toInt = y9.toInt := by rw [hz18, hG17, pj_ai_wa_nj _ _ _ _ _ (by omega), show z5.toInt.toNat = z5.toInt.toNat by omega, hG16, pj_ai_wa_eq iG10.1 rfl]
  cases b20 : pj_c1 .ge z18 0 with
  | true =>
    rw [pj_cT]
    have ub20 := pj_u0_geT b20
    refine pj_X_of (fun r h => pj_R_ifT 46 rfl rfl b20 h) ?_
    refine pj_X_of (fun r h => pj_R_to (G17, 47, [(1, .int z4), (0, .ref 171)], [.ref 171], 0, 0) 47 2 (fun _ => rfl) h) ?_
    refine pj_X_of (fun r h => pj_T_gr iG17 rfl rfl rfl h) ?_
    refine pj_X_of (fun r h => pj_R_to (G17, 53, [(1, .int z4), (0, .ref 171)], [.int (z4 + (Int32.ofInt 2)), .ref 181], 0, 0) 53 4 (fun _ => rfl) h) ?_
    obtain ⟨z21, hz21⟩ : ∃ z : Int32, z = z4 + (Int32.ofInt 2) := ⟨_, rfl⟩
    refine pj_X_eqi hz21.symm ?_
    rw [← hz21, pj_nm_e]
    have fz21_0 : z21.toInt = z4.toInt + (Int32.ofInt 2).toInt := by rw [hz21]; exact pj_addI (by have := pj_i32 z4; have := pj_i32 (Int32.ofInt 2); omega) (by have := pj_i32 z4; have := pj_i32 (Int32.ofInt 2); omega)
    refine pj_X_of (fun r h => pj_R_to (G17, 55, [(1, .int z4), (0, .ref 171)], [.int (Int32.ofInt 2), .ref 171, .int z21, .ref 181], 0, 0) 55 3 (fun _ => rfl) h) ?_
    have q22 : (pj_fi G17 171 22).toInt = y13.toInt := by rw [show pj_fi G17 171 22 = y13 from by rw [hG17, pj_fi_wa]; exact (by rw [hG16, pj_fi_wa]; exact hy13.symm)]
    have q23 : (pj_fi G17 171 23).toInt = y14.toInt := by rw [show pj_fi G17 171 23 = y14 from by rw [hG17, pj_fi_wa]; exact (by rw [hG16, pj_fi_wa]; exact hy14.symm)]
    have q24 : (pj_fi G17 171 21).toInt = y15.toInt := by rw [show pj_fi G17 171 21 = y15 from by rw [hG17, pj_fi_wa]; exact (by rw [hG16, pj_fi_wa]; exact hy15.symm)]
    refine pj_X_ca (vs := [.ref 171, .int (Int32.ofInt 2)]) rfl (fun _ => rfl) ⟨Nat.le_of_ble_eq_true rfl, Nat.le_of_ble_eq_true rfl, pj_T_rcv iG17 rfl⟩ ⟨rfl, rfl⟩ (pj_Y_up (by decide) (ct_186ex G17 iG17 (Int32.ofInt 2) ⟨by omega, by omega⟩)) ?_
    rintro _ G26 ⟨y25, rfl, iG26, jG26, ry25, ey25, fy25⟩
    replace ey25 := ey25 _ rfl
    rw [← fy25, pj_bd_e]
    have kG26 : pj_kpt kc_190x G0 G26 := pj_kpt_t kG17 (pj_kpt_s jG26 rfl)
    have q27 : (pj_fi G26 171 22).toInt = (pj_fi G17 171 22).toInt := by rw [jG26.1 (171, 22) (by decide)]
    have q28 : (pj_fi G26 171 23).toInt = (pj_fi G17 171 23).toInt := by rw [jG26.1 (171, 23) (by decide)]
    have q29 : (pj_fi G26 171 21).toInt = (pj_fi G17 171 21).toInt := by rw [jG26.1 (171, 21) (by decide)]
    obtain ⟨y30, hy30⟩ : ∃ z : Int32, z = pj_fi G26 171 22 := ⟨_, rfl⟩
    have ey30 : (pj_fi G26 171 22).toInt = y30.toInt := by rw [hy30]
    have ry30 : (0 : Int) ≤ y30.toInt ∧ y30.toInt ≤ 10 := by rw [hy30]; exact iG26.2.1 171 22 (0, 10) rfl
    obtain ⟨y31, hy31⟩ : ∃ z : Int32, z = pj_fi G26 171 23 := ⟨_, rfl⟩
    have ey31 : (pj_fi G26 171 23).toInt = y31.toInt := by rw [hy31]
    have ry31 : (-1 : Int) ≤ y31.toInt ∧ y31.toInt ≤ 7 := by rw [hy31]; exact iG26.2.1 171 23 (-1, 7) rfl
    obtain ⟨y32, hy32⟩ : ∃ z : Int32, z = pj_fi G26 171 21 := ⟨_, rfl⟩
    have ey32 : (pj_fi G26 171 21).toInt = y32.toInt := by rw [hy32]
    have ry32 : (0 : Int) ≤ y32.toInt ∧ y32.toInt ≤ 8 := by rw [hy32]; exact iG26.2.1 171 21 (0, 8) rfl
    show pj_X _ _ G26 58 [(1, .int z4), (0, .ref 171)] [.int y25, .int z21, .ref 181] _
    refine pj_X_of (fun r h => pj_T_is iG26 rfl rfl (by omega) (by omega) h) ?_
    show pj_X _ _ (pj_wa G26 181 z21.toInt.toNat y25) 59 [(1, .int z4), (0, .ref 171)] [] _
    obtain ⟨G33, hG33⟩ : ∃ H, H = pj_wa G26 181 z21.toInt.toNat y25 := ⟨_, rfl⟩
    have iG33 : pj_Inv G33 := by rw [hG33]; exact pj_Inv_wa iG26 rfl (fun q hq => by cases hq; exact ⟨by show (-1 : Int) ≤ _; omega, by show _ ≤ (99 : Int); omega, by show _ ≤ (-1 : Int) ∨ (-1 : Int) ≤ _; omega⟩) (fun n hn => by cases hn)
    have kG33 : pj_kpt kc_190x G0 G33 := by rw [hG33]; exact pj_kpt_a kG26 rfl
    rw [← hG33]
    rw [pj_nm_e]
    refine pj_X_of (fun r h => pj_R_to (G33, 60, [(1, .int z4), (0, .ref 171)], [.ref 171], 0, 0) 60 2 (fun _ => rfl) h) ?_
    refine pj_X_of (fun r h => pj_T_gr iG33 rfl rfl rfl h) ?_
    refine pj_X_of (fun r h => pj_R_to (G33, 66, [(1, .int z4), (0, .ref 171)], [.int (z4 + (Int32.ofInt 2)), .ref 181], 0, 0) 66 4 (fun _ => rfl) h) ?_
    refine pj_X_eqi hz21.symm ?_
    refine pj_X_of (fun r h => pj_T_il iG33 rfl rfl (by omega) (by omega) h) ?_
    show pj_X _ _ G33 67 [(1, .int z4), (0, .ref 171)] [.int (pj_ai G33 181 z21.toInt.toNat)] _
    obtain ⟨z34, hz34⟩ : ∃ z : Int32, z = pj_ai G33 181 z21.toInt.toNat := ⟨_, rfl⟩
    refine pj_X_eqi hz34.symm ?_
    rw [← hz34, pj_nm_e]
    have ez34 : (pj_ai G33 181 z21.toInt.toNat).toInt = z34.toInt := by rw [hz34]
    have fz34_0 : (-1 : Int) ≤ z34.toInt ∧ z34.toInt ≤ 99 ∧ (z34.toInt ≤ -1 ∨ -1 ≤ z34.toInt) := by rw [hz34]; exact iG33.2.2.1 181 (40, -1, 99, -1, -1) rfl _ (by show _ < 40; omega)
    have x35 : z34.toInt = y25.toInt := by rw [hz34, show z21.toInt.toNat = z21.toInt.toNat by omega, hG33, pj_ai_wa_eq iG26.1 rfl]
    cases b36 : pj_c1 .lt z34 0 with
    | true =>
      rw [pj_cT]
      have ub36 := pj_u0_ltT b36
      refine pj_X_of (fun r h => pj_R_ifT 79 rfl rfl b36 h) ?_
      refine pj_X_of (fun r h => pj_R_to (G33, 80, [(1, .int z4), (0, .ref 171)], [.int (Int32.ofInt 0)], 0, 0) 80 2 (fun _ => rfl) h) ?_
      have q37 : (pj_fi G33 171 22).toInt = y30.toInt := by rw [show pj_fi G33 171 22 = y30 from by rw [hG33, pj_fi_wa]; exact hy30.symm]
      have q38 : (pj_fi G33 171 23).toInt = y31.toInt := by rw [show pj_fi G33 171 23 = y31 from by rw [hG33, pj_fi_wa]; exact hy31.symm]
      have q39 : (pj_fi G33 171 21).toInt = y32.toInt := by rw [show pj_fi G33 171 21 = y32 from by rw [hG33, pj_fi_wa]; exact hy32.symm]
      exact pj_X_rt rfl rfl ⟨_, rfl, iG33, kG33, ⟨by omega, by omega⟩, (fun H hH => by subst hH; exact (⟨by omega, fun q => absurd q (by omega)⟩)), rfl⟩
    | false =>
      rw [pj_cF]
      have ub36 := pj_u0_ltF b36
      refine pj_X_of (fun r h => pj_R_ifF rfl b36 h) ?_
      refine pj_X_of (fun r h => pj_R_to (G33, 73, [(1, .int z4), (0, .ref 171)], [.int ((Int8.ofInt 58).toInt32), .ref 171], 0, 0) 73 3 (fun _ => rfl) h) ?_
      have q40 : (pj_fi G33 171 22).toInt = y30.toInt := by rw [show pj_fi G33 171 22 = y30 from by rw [hG33, pj_fi_wa]; exact hy30.symm]
      have q41 : (pj_fi G33 171 23).toInt = y31.toInt := by rw [show pj_fi G33 171 23 = y31 from by rw [hG33, pj_fi_wa]; exact hy31.symm]
      have q42 : (pj_fi G33 171 21).toInt = y32.toInt := by rw [show pj_fi G33 171 21 = y32 from by rw [hG33, pj_fi_wa]; exact hy32.symm]
      refine pj_X_ca (vs := [.ref 171, .int ((Int8.ofInt 58).toInt32)]) rfl (fun _ => rfl) ⟨Nat.le_of_ble_eq_true rfl, Nat.le_of_ble_eq_true rfl, pj_T_rcv iG33 rfl⟩ ⟨rfl, rfl⟩ (pj_Y_up (by decide) (ct_182x G33 iG33 ((Int8.ofInt 58).toInt32) ⟨by omega, by omega⟩)) ?_
      rintro _ G44 ⟨y43, rfl, iG44, jG44, ry43, ey43, fy43⟩
      replace ey43 := ey43 _ rfl
      rw [← fy43, pj_bd_e]
      have kG44 : pj_kpt kc_190x G0 G44 := pj_kpt_t kG33 (pj_kpt_s jG44 rfl)
      have q45 : (pj_fi G44 171 22).toInt = (pj_fi G33 171 22).toInt := by rw [jG44.1 (171, 22) (by decide)]
      have q46 : (pj_fi G44 171 23).toInt = (pj_fi G33 171 23).toInt := by rw [jG44.1 (171, 23) (by decide)]
      have q47 : (pj_fi G44 171 21).toInt = (pj_fi G33 171 21).toInt := by rw [jG44.1 (171, 21) (by decide)]
      obtain ⟨y48, hy48⟩ : ∃ z : Int32, z = pj_fi G44 171 22 := ⟨_, rfl⟩
      have ey48 : (pj_fi G44 171 22).toInt = y48.toInt := by rw [hy48]
      have ry48 : (0 : Int) ≤ y48.toInt ∧ y48.toInt ≤ 10 := by rw [hy48]; exact iG44.2.1 171 22 (0, 10) rfl
      obtain ⟨y49, hy49⟩ : ∃ z : Int32, z = pj_fi G44 171 23 := ⟨_, rfl⟩
      have ey49 : (pj_fi G44 171 23).toInt = y49.toInt := by rw [hy49]
      have ry49 : (-1 : Int) ≤ y49.toInt ∧ y49.toInt ≤ 7 := by rw [hy49]; exact iG44.2.1 171 23 (-1, 7) rfl
      obtain ⟨y50, hy50⟩ : ∃ z : Int32, z = pj_fi G44 171 21 := ⟨_, rfl⟩
      have ey50 : (pj_fi G44 171 21).toInt = y50.toInt := by rw [hy50]
      have ry50 : (0 : Int) ≤ y50.toInt ∧ y50.toInt ≤ 8 := by rw [hy50]; exact iG44.2.1 171 21 (0, 8) rfl
      show pj_X _ _ G44 76 [(1, .int z4), (0, .ref 171)] [.int y43] _
      cases b51 : pj_c1 .ne y43 0 with
      | true =>
        rw [pj_cT]
        have ub51 := pj_u0_neT b51
        refine pj_X_of (fun r h => pj_R_ifT 81 rfl rfl b51 h) ?_
        refine pj_X_of (fun r h => pj_R_to (G44, 82, [(1, .int z4), (0, .ref 171)], [.ref 171], 0, 0) 82 2 (fun _ => rfl) h) ?_
        refine pj_X_of (fun r h => pj_T_gr iG44 rfl rfl rfl h) ?_
        refine pj_X_of (fun r h => pj_R_to (G44, 88, [(1, .int z4), (0, .ref 171)], [.int (z4 + (Int32.ofInt 3)), .ref 181], 0, 0) 88 4 (fun _ => rfl) h) ?_
        obtain ⟨z52, hz52⟩ : ∃ z : Int32, z = z4 + (Int32.ofInt 3) := ⟨_, rfl⟩
        refine pj_X_eqi hz52.symm ?_
        rw [← hz52, pj_nm_e]
        have fz52_0 : z52.toInt = z4.toInt + (Int32.ofInt 3).toInt := by rw [hz52]; exact pj_addI (by have := pj_i32 z4; have := pj_i32 (Int32.ofInt 3); omega) (by have := pj_i32 z4; have := pj_i32 (Int32.ofInt 3); omega)
        refine pj_X_of (fun r h => pj_R_to (G44, 92, [(1, .int z4), (0, .ref 171)], [.retAddr 9, .ref 171, .int (Int32.ofInt 1), .int z52, .ref 181], 0, 0) 92 4 (fun _ => rfl) h) ?_
        have q53 : (pj_fi G44 171 22).toInt = y48.toInt := by rw [show pj_fi G44 171 22 = y48 from hy48.symm]
        have q54 : (pj_fi G44 171 23).toInt = y49.toInt := by rw [show pj_fi G44 171 23 = y49 from hy49.symm]
        have q55 : (pj_fi G44 171 21).toInt = y50.toInt := by rw [show pj_fi G44 171 21 = y50 from hy50.symm]
        refine pj_X_ca (vs := [.ref 171, .retAddr 9]) rfl (fun _ => rfl) ⟨Nat.le_of_ble_eq_true rfl, Nat.le_of_ble_eq_true rfl, pj_T_rcv iG44 rfl⟩ ⟨rfl, rfl⟩ (pj_Y_up (by decide) (ct_185_s9x G44 iG44)) ?_
        rintro _ G57 ⟨y56, rfl, iG57, jG57, ry56, ey56, fy56⟩
        replace ey56 := ey56 _ rfl
        rw [← fy56, pj_bd_e]
        have kG57 : pj_kpt kc_190x G0 G57 := pj_kpt_t kG44 (pj_kpt_s jG57 rfl)
        have q58 : (pj_fi G57 171 22).toInt = (pj_fi G44 171 22).toInt := by rw [jG57.1 (171, 22) (by decide)]
        have q59 : (pj_fi G57 171 23).toInt = (pj_fi G44 171 23).toInt := by rw [jG57.1 (171, 23) (by decide)]
        have q60 : (pj_fi G57 171 21).toInt = (pj_fi G44 171 21).toInt := by rw [jG57.1 (171, 21) (by decide)]
        obtain ⟨y61, hy61⟩ : ∃ z : Int32, z = pj_fi G57 171 22 := ⟨_, rfl⟩
        have ey61 : (pj_fi G57 171 22).toInt = y61.toInt := by rw [hy61]
        have ry61 : (0 : Int) ≤ y61.toInt ∧ y61.toInt ≤ 10 := by rw [hy61]; exact iG57.2.1 171 22 (0, 10) rfl
        obtain ⟨y62, hy62⟩ : ∃ z : Int32, z = pj_fi G57 171 23 := ⟨_, rfl⟩
        have ey62 : (pj_fi G57 171 23).toInt = y62.toInt := by rw [hy62]
        have ry62 : (-1 : Int) ≤ y62.toInt ∧ y62.toInt ≤ 7 := by rw [hy62]; exact iG57.2.1 171 23 (-1, 7) rfl
        obtain ⟨y63, hy63⟩ : ∃ z : Int32, z = pj_fi G57 171 21 := ⟨_, rfl⟩
        have ey63 : (pj_fi G57 171 21).toInt = y63.toInt := by rw [hy63]
        have ry63 : (0 : Int) ≤ y63.toInt ∧ y63.toInt ≤ 8 := by rw [hy63]; exact iG57.2.1 171 21 (0, 8) rfl
        show pj_X _ _ G57 95 [(1, .int z4), (0, .ref 171)] [.int y56, .int (Int32.ofInt 1), .int z52, .ref 181] _
        refine pj_X_of (fun r h => pj_R_to (G57, 96, [(1, .int z4), (0, .ref 171)], [.int ((Int32.ofInt 1) + y56), .int z52, .ref 181], 0, 0) 96 2 (fun _ => rfl) h) ?_
        obtain ⟨z64, hz64⟩ : ∃ z : Int32, z = (Int32.ofInt 1) + y56 := ⟨_, rfl⟩
        refine pj_X_eqi hz64.symm ?_
        rw [← hz64, pj_nm_e]
        have fz64_0 : z64.toInt = (Int32.ofInt 1).toInt + y56.toInt := by rw [hz64]; exact pj_addI (by have := pj_i32 (Int32.ofInt 1); have := pj_i32 y56; omega) (by have := pj_i32 (Int32.ofInt 1); have := pj_i32 y56; omega)
        refine pj_X_of (fun r h => pj_T_is iG57 rfl rfl (by omega) (by omega) h) ?_
        show pj_X _ _ (pj_wa G57 181 z52.toInt.toNat z64) 97 [(1, .int z4), (0, .ref 171)] [] _
        obtain ⟨G65, hG65⟩ : ∃ H, H = pj_wa G57 181 z52.toInt.toNat z64 := ⟨_, rfl⟩
        have iG65 : pj_Inv G65 := by rw [hG65]; exact pj_Inv_wa iG57 rfl (fun q hq => by cases hq; exact ⟨by show (-1 : Int) ≤ _; omega, by show _ ≤ (99 : Int); omega, by show _ ≤ (-1 : Int) ∨ (-1 : Int) ≤ _; omega⟩) (fun n hn => by cases hn)
        have kG65 : pj_kpt kc_190x G0 G65 := by rw [hG65]; exact pj_kpt_a kG57 rfl
        rw [← hG65]
        rw [pj_nm_e]
        refine pj_X_of (fun r h => pj_R_to (G65, 99, [(1, .int z4), (0, .ref 171)], [.ref 171, .ref 171], 0, 0) 99 3 (fun _ => rfl) h) ?_
        refine pj_X_of (fun r h => pj_T_gi iG65 rfl rfl h) ?_
        show pj_X _ _ G65 102 [(1, .int z4), (0, .ref 171)] [.int (pj_fi G65 171 22), .ref 171] _
        rw [← hy61, pj_nm_e]
        refine pj_X_eqi (show pj_fi G65 171 22 = y61 from by rw [hG65, pj_fi_wa]; exact hy61.symm) ?_
        refine pj_X_of (fun r h => pj_R_to (G65, 104, [(1, .int z4), (0, .ref 171)], [.int (y61 + (Int32.ofInt 1)), .ref 171], 0, 0) 104 3 (fun _ => rfl) h) ?_
        obtain ⟨z66, hz66⟩ : ∃ z : Int32, z = y61 + (Int32.ofInt 1) := ⟨_, rfl⟩
        refine pj_X_eqi hz66.symm ?_
        rw [← hz66, pj_nm_e]
        have fz66_0 : z66.toInt = y61.toInt + (Int32.ofInt 1).toInt := by rw [hz66]; exact pj_addI (by have := pj_i32 y61; have := pj_i32 (Int32.ofInt 1); omega) (by have := pj_i32 y61; have := pj_i32 (Int32.ofInt 1); omega)
        refine pj_X_of (fun r h => pj_T_pf iG65 rfl rfl rfl h) ?_
        show pj_X _ _ (pj_wv G65 171 22 (.int z66)) 107 [(1, .int z4), (0, .ref 171)] [] _
        obtain ⟨G67, hG67⟩ : ∃ H, H = pj_wv G65 171 22 (.int z66) := ⟨_, rfl⟩
        have iG67 : pj_Inv G67 := by rw [hG67]; exact pj_Inv_wi iG65 (ci := 12) rfl (fun q hq => by cases hq; exact ⟨by show (0 : Int) ≤ _; omega, by show _ ≤ (10 : Int); omega⟩)
        have kG67 : pj_kpt kc_190x G0 G67 := by rw [hG67]; exact pj_kpt_v kG65 rfl
        rw [← hG67]
        rw [pj_nm_e]
        refine pj_X_of (fun r h => pj_R_to (G67, 108, [(1, .int z4), (0, .ref 171)], [.ref 171], 0, 0) 108 2 (fun _ => rfl) h) ?_
        refine pj_X_of (fun r h => pj_T_gr iG67 rfl rfl rfl h) ?_
        refine pj_X_of (fun r h => pj_R_to (G67, 114, [(1, .int z4), (0, .ref 171)], [.int (z4 + (Int32.ofInt 3)), .ref 181], 0, 0) 114 4 (fun _ => rfl) h) ?_
        refine pj_X_eqi hz52.symm ?_
        refine pj_X_of (fun r h => pj_T_il iG67 rfl rfl (by omega) (by omega) h) ?_
        show pj_X _ _ G67 115 [(1, .int z4), (0, .ref 171)] [.int (pj_ai G67 181 z52.toInt.toNat)] _
        obtain ⟨z68, hz68⟩ : ∃ z : Int32, z = pj_ai G67 181 z52.toInt.toNat := ⟨_, rfl⟩
        refine pj_X_eqi hz68.symm ?_
        rw [← hz68, pj_nm_e]
        have ez68 : (pj_ai G67 181 z52.toInt.toNat).toInt = z68.toInt := by rw [hz68]
        have fz68_0 : (-1 : Int) ≤ z68.toInt ∧ z68.toInt ≤ 99 ∧ (z68.toInt ≤ -1 ∨ -1 ≤ z68.toInt) := by rw [hz68]; exact iG67.2.2.1 181 (40, -1, 99, -1, -1) rfl _ (by show _ < 40; omega)
        have x69 : z68.toInt = z64.toInt := by rw [hz68, hG67, pj_ai_wv, show z52.toInt.toNat = z52.toInt.toNat by omega, hG65, pj_ai_wa_eq iG57.1 rfl]
        cases b70 : pj_c1 .le z68 0 with
        | true =>
          rw [pj_cT]
          have ub70 := pj_u0_leT b70
          refine pj_X_of (fun r h => pj_R_ifT 122 rfl rfl b70 h) ?_
          refine pj_X_of (fun r h => pj_R_to (G67, 123, [(1, .int z4), (0, .ref 171)], [.int (Int32.ofInt 0)], 0, 0) 123 2 (fun _ => rfl) h) ?_
          have q71 : (pj_fi G67 171 22).toInt = z66.toInt := by rw [show pj_fi G67 171 22 = z66 from by rw [hG67]; exact pj_fi_wi iG65.1 (ci := 12) rfl _]
          have q72 : (pj_fi G67 171 23).toInt = y62.toInt := by rw [show pj_fi G67 171 23 = y62 from by rw [hG67, pj_fi_wv_ne _ _ _ _ _ _ (by decide)]; exact (by rw [hG65, pj_fi_wa]; exact hy62.symm)]
          have q73 : (pj_fi G67 171 21).toInt = y63.toInt := by rw [show pj_fi G67 171 21 = y63 from by rw [hG67, pj_fi_wv_ne _ _ _ _ _ _ (by decide)]; exact (by rw [hG65, pj_fi_wa]; exact hy63.symm)]
          exact pj_X_rt rfl rfl ⟨_, rfl, iG67, kG67, ⟨by omega, by omega⟩, (fun H hH => by subst hH; exact (⟨by omega, fun q => absurd q (by omega)⟩)), rfl⟩
        | false =>
          rw [pj_cF]
          have ub70 := pj_u0_leF b70
          refine pj_X_of (fun r h => pj_R_ifF rfl b70 h) ?_
          refine pj_X_of (fun r h => pj_R_to (G67, 123, [(1, .int z4), (0, .ref 171)], [.int (Int32.ofInt 1)], 0, 0) 123 3 (fun _ => rfl) h) ?_
          have q74 : (pj_fi G67 171 22).toInt = z66.toInt := by rw [show pj_fi G67 171 22 = z66 from by rw [hG67]; exact pj_fi_wi iG65.1 (ci := 12) rfl _]
          have q75 : (pj_fi G67 171 23).toInt = y62.toInt := by rw [show pj_fi G67 171 23 = y62 from by rw [hG67, pj_fi_wv_ne _ _ _ _ _ _ (by decide)]; exact (by rw [hG65, pj_fi_wa]; exact hy62.symm)]
          have q76 : (pj_fi G67 171 21).toInt = y63.toInt := by rw [show pj_fi G67 171 21 = y63 from by rw [hG67, pj_fi_wv_ne _ _ _ _ _ _ (by decide)]; exact (by rw [hG65, pj_fi_wa]; exact hy63.symm)]
          have v77 : (pj_ai G67 181 (4 * y1.toInt.toNat)).toInt = y14.toInt := by rw [show 4 * y1.toInt.toNat = z4.toInt.toNat by omega, hG67, pj_ai_wv, hG65, pj_ai_wa_nj _ _ _ _ _ (by omega), jG57.2.2 181 (by decide), jG44.2.2 181 (by decide), hG33, pj_ai_wa_nj _ _ _ _ _ (by omega), jG26.2.2 181 (by decide), hG17, pj_ai_wa_eq iG16.1 rfl]
          have v78 : (pj_ai G67 181 (4 * y1.toInt.toNat + 1)).toInt = y9.toInt := by rw [show 4 * y1.toInt.toNat + 1 = z5.toInt.toNat by omega, hG67, pj_ai_wv, hG65, pj_ai_wa_nj _ _ _ _ _ (by omega), jG57.2.2 181 (by decide), jG44.2.2 181 (by decide), hG33, pj_ai_wa_nj _ _ _ _ _ (by omega), jG26.2.2 181 (by decide), hG17, pj_ai_wa_nj _ _ _ _ _ (by omega), hG16, pj_ai_wa_eq iG10.1 rfl]
          have v79 : (pj_ai G67 181 (4 * y1.toInt.toNat + 2)).toInt = y25.toInt := by rw [show 4 * y1.toInt.toNat + 2 = z21.toInt.toNat by omega, hG67, pj_ai_wv, hG65, pj_ai_wa_nj _ _ _ _ _ (by omega), jG57.2.2 181 (by decide), jG44.2.2 181 (by decide), hG33, pj_ai_wa_eq iG26.1 rfl]
          have hold : ∀ j : Nat, j < 4 * y1.toInt.toNat → pj_ai G67 181 j = pj_ai G0 181 j := fun j hj => by rw [hG67, pj_ai_wv, hG65, pj_ai_wa_nj _ _ _ _ _ (by omega), jG57.2.2 181 (by decide), jG44.2.2 181 (by decide), hG33, pj_ai_wa_nj _ _ _ _ _ (by omega), jG26.2.2 181 (by decide), hG17, pj_ai_wa_nj _ _ _ _ _ (by omega), hG16, pj_ai_wa_nj _ _ _ _ _ (by omega), jG10.2.2 181 (by decide)]
          have eb : pj_fi G67 171 21 = pj_fi G0 171 21 := kG67.1 (171, 21) (by decide)
          exact pj_X_rt rfl rfl ⟨_, rfl, iG67, kG67, ⟨by omega, by omega⟩, (fun H hH => by subst hH; exact (⟨by omega, fun _ => ⟨by omega, fun q => by rw [eb, show (pj_fi G67 171 22).toInt = (pj_fi G0 171 22).toInt + 1 by omega]; exact pj_rd_s q y1.toInt.toNat (by omega) hold (by omega) (by omega) (by omega)⟩⟩)), rfl⟩
      | false =>
        rw [pj_cF]
        have ub51 := pj_u0_neF b51
        refine pj_X_of (fun r h => pj_R_ifF rfl b51 h) ?_
        refine pj_X_of (fun r h => pj_R_to (G44, 80, [(1, .int z4), (0, .ref 171)], [.int (Int32.ofInt 0)], 0, 0) 80 2 (fun _ => rfl) h) ?_
        have q80 : (pj_fi G44 171 22).toInt = y48.toInt := by rw [show pj_fi G44 171 22 = y48 from hy48.symm]
        have q81 : (pj_fi G44 171 23).toInt = y49.toInt := by rw [show pj_fi G44 171 23 = y49 from hy49.symm]
        have q82 : (pj_fi G44 171 21).toInt = y50.toInt := by rw [show pj_fi G44 171 21 = y50 from hy50.symm]
        exact pj_X_rt rfl rfl ⟨_, rfl, iG44, kG44, ⟨by omega, by omega⟩, (fun H hH => by subst hH; exact (⟨by omega, fun q => absurd q (by omega)⟩)), rfl⟩
  | false =>
    rw [pj_cF]
    have ub20 := pj_u0_geF b20
    refine pj_X_of (fun r h => pj_R_ifF rfl b20 h) ?_
    refine pj_X_of (fun r h => pj_R_to (G17, 45, [(1, .int z4), (0, .ref 171)], [.int (Int32.ofInt 0)], 0, 0) 45 2 (fun _ => rfl) h) ?_
    have q83 : (pj_fi G17 171 22).toInt = y13.toInt := by rw [show pj_fi G17 171 22 = y13 from by rw [hG17, pj_fi_wa]; exact (by rw [hG16, pj_fi_wa]; exact hy13.symm)]
    have q84 : (pj_fi G17 171 23).toInt = y14.toInt := by rw [show pj_fi G17 171 23 = y14 from by rw [hG17, pj_fi_wa]; exact (by rw [hG16, pj_fi_wa]; exact hy14.symm)]
    have q85 : (pj_fi G17 171 21).toInt = y15.toInt := by rw [show pj_fi G17 171 21 = y15 from by rw [hG17, pj_fi_wa]; exact (by rw [hG16, pj_fi_wa]; exact hy15.symm)]
    exact pj_X_rt rfl rfl ⟨_, rfl, iG17, kG17, ⟨by omega, by omega⟩, (fun H hH => by subst hH; exact (⟨by omega, fun q => absurd q (by omega)⟩)), rfl⟩
theorem fr_191x (G0 : pj_G) (hI : pj_Inv G0) (p0_ : (pj_fi G0 171 22).toInt ≤ 9) : pj_Inv (F_191x G0).2 ∧ pj_kpt kc_190x G0 (F_191x G0).2 ∧ ((0 : Int) ≤ (F_191x G0).1.toInt ∧ (F_191x G0).1.toInt ≤ 1) ∧ (((pj_fi G0 171 22).toInt ≤ (pj_fi (F_191x G0).2 171 22).toInt ∧ (pj_fi (F_191x G0).2 171 22).toInt ≤ (pj_fi G0 171 22).toInt + 1) ∧ (1 ≤ (F_191x G0).1.toInt → (pj_fi (F_191x G0).2 171 22).toInt = (pj_fi G0 171 22).toInt + 1 ∧ (pj_rd G0 (pj_fi G0 171 22).toInt (pj_fi G0 171 21).toInt → pj_rd (F_191x G0).2 (pj_fi (F_191x G0).2 171 22).toInt (pj_fi (F_191x G0).2 171 21).toInt))) := by
  obtain ⟨v, G', -, y, -, i, j, r, x, e⟩ := ct_190x G0 hI p0_
  rw [← e]
  exact ⟨i, j, r, x _ rfl⟩
def kc_192x : pj_KT := ([(171, 7), (171, 30)], [171], [])
noncomputable def F_193x (G0 : pj_G) : pj_G := pj_nm (pj_wv G0 171 30 (.int (Int32.ofInt 0))) (fun G2 => pj_nm (pj_fi G2 171 7) (fun y3 => pj_nm (y3 + (Int32.ofInt 1)) (fun z4 => pj_nm (pj_wv G2 171 7 (.int z4)) (fun G5 => G5))))
theorem F_193x_e (G0 : pj_G) : F_193x G0 = pj_nm (pj_wv G0 171 30 (.int (Int32.ofInt 0))) (fun G2 => pj_nm (pj_fi G2 171 7) (fun y3 => pj_nm (y3 + (Int32.ofInt 1)) (fun z4 => pj_nm (pj_wv G2 171 7 (.int z4)) (fun G5 => G5)))) := rfl
theorem ct_192x (G0 : pj_G) (hI : pj_Inv G0) : pj_Y 1 192 [.ref 171] G0 (fun v' G' => v' = none ∧ pj_Inv G' ∧ pj_kpt kc_192x G0 G' ∧ ((pj_fi G' 171 30).toInt ≤ 15) ∧ (G' = F_193x G0)) := by
  have c0_ : (Int32.ofInt 0).toInt = 0 := by decide
  have c1_ : (Int32.ofInt 1).toInt = 1 := by decide
  refine pj_Y_X (M := pj_m192) rfl rfl (Nat.le_of_ble_eq_true rfl) ?_
  have hK : pj_kpt kc_192x G0 G0 := pj_kpt_r _ _
  show pj_X _ _ G0 0 [(0, .ref 171)] [] _
  rw [F_193x_e]
  obtain ⟨y1, hy1⟩ : ∃ z : Int32, z = pj_fi G0 171 30 := ⟨_, rfl⟩
  have ey1 : (pj_fi G0 171 30).toInt = y1.toInt := by rw [hy1]
  have ry1 : (0 : Int) ≤ y1.toInt ∧ y1.toInt ≤ 16 := by rw [hy1]; exact hI.2.1 171 30 (0, 16) rfl
  refine pj_X_of (fun r h => pj_R_to (G0, 2, [(0, .ref 171)], [.int (Int32.ofInt 0), .ref 171], 0, 0) 2 3 (fun _ => rfl) h) ?_
  refine pj_X_of (fun r h => pj_T_pf hI rfl rfl rfl h) ?_
  show pj_X _ _ (pj_wv G0 171 30 (.int (Int32.ofInt 0))) 5 [(0, .ref 171)] [] _
  obtain ⟨G2, hG2⟩ : ∃ H, H = pj_wv G0 171 30 (.int (Int32.ofInt 0)) := ⟨_, rfl⟩
  have iG2 : pj_Inv G2 := by rw [hG2]; exact pj_Inv_wi hI (ci := 12) rfl (fun q hq => by cases hq; exact ⟨by show (0 : Int) ≤ _; omega, by show _ ≤ (16 : Int); omega⟩)
  have kG2 : pj_kpt kc_192x G0 G2 := by rw [hG2]; exact pj_kpt_v hK rfl
  rw [← hG2]
  rw [pj_nm_e]
  refine pj_X_of (fun r h => pj_R_to (G2, 7, [(0, .ref 171)], [.ref 171, .ref 171], 0, 0) 7 3 (fun _ => rfl) h) ?_
  refine pj_X_of (fun r h => pj_T_gi iG2 rfl rfl h) ?_
  show pj_X _ _ G2 10 [(0, .ref 171)] [.int (pj_fi G2 171 7), .ref 171] _
  obtain ⟨y3, hy3⟩ : ∃ z : Int32, z = pj_fi G2 171 7 := ⟨_, rfl⟩
  refine pj_X_eqi hy3.symm ?_
  rw [← hy3, pj_nm_e]
  have ey3 : (pj_fi G2 171 7).toInt = y3.toInt := by rw [hy3]
  refine pj_X_of (fun r h => pj_R_to (G2, 12, [(0, .ref 171)], [.int (y3 + (Int32.ofInt 1)), .ref 171], 0, 0) 12 3 (fun _ => rfl) h) ?_
  obtain ⟨z4, hz4⟩ : ∃ z : Int32, z = y3 + (Int32.ofInt 1) := ⟨_, rfl⟩
  refine pj_X_eqi hz4.symm ?_
  rw [← hz4, pj_nm_e]
  refine pj_X_of (fun r h => pj_T_pf iG2 rfl rfl rfl h) ?_
  show pj_X _ _ (pj_wv G2 171 7 (.int z4)) 15 [(0, .ref 171)] [] _
  obtain ⟨G5, hG5⟩ : ∃ H, H = pj_wv G2 171 7 (.int z4) := ⟨_, rfl⟩
  have iG5 : pj_Inv G5 := by rw [hG5]; exact pj_Inv_wi iG2 (ci := 12) rfl (fun q hq => by cases hq)
  have kG5 : pj_kpt kc_192x G0 G5 := by rw [hG5]; exact pj_kpt_v kG2 rfl
  rw [← hG5]
  rw [pj_nm_e]
  have q6 : (pj_fi G5 171 30).toInt = (Int32.ofInt 0).toInt := by rw [show pj_fi G5 171 30 = Int32.ofInt 0 from by rw [hG5, pj_fi_wv_ne _ _ _ _ _ _ (by decide)]; exact (by rw [hG2]; exact pj_fi_wi hI.1 (ci := 12) rfl _)]
  exact pj_X_rt rfl rfl ⟨rfl, iG5, kG5, by omega, rfl⟩
theorem fr_193x (G0 : pj_G) (hI : pj_Inv G0) : pj_Inv (F_193x G0) ∧ pj_kpt kc_192x G0 (F_193x G0) ∧ ((pj_fi (F_193x G0) 171 30).toInt ≤ 15) := by
  obtain ⟨v, G', -, -, i, j, x, e⟩ := ct_192x G0 hI 
  rw [← e]
  exact ⟨i, j, x⟩
def kc_191x : pj_KT := ([(171, 0), (171, 3), (171, 4), (171, 5), (171, 6), (171, 7), (171, 16), (171, 17), (171, 18), (171, 19), (171, 21), (171, 22), (171, 23), (171, 30)], [171, 173, 174, 175, 176, 179, 181], [173, 174, 175, 176, 179, 181])
noncomputable def L_192x (G0 : pj_G) (fu : Nat) : Nat → Int32 → Int32 → Int32 → Int32 → pj_G → Int32 × pj_G := Nat.rec (motive := fun _ => Nat → Int32 → Int32 → Int32 → Int32 → pj_G → Int32 × pj_G) (fun _ _ _ _ _ G => (0, G)) (fun _ ih lab v1 v2 v3 v4 G => cond (Nat.beq lab 0) (cond (pj_c1 .eq v2 0) (pj_nm (F_189x G v1 ((Int8.ofInt 72).toInt32) v2) (fun y12 => cond (pj_c1 .ge y12 0) (pj_nm (pj_fi G 171 21) (fun y3 => pj_nm (pj_wv G 171 3 (.int y3)) (fun G15 => pj_nm (pj_fi G 171 22) (fun y2 => pj_nm (pj_wv G15 171 4 (.int y2)) (fun G16 => ih 1 v1 v2 y12 (Int32.ofInt 0) G16))))) ((y12, G)))) (pj_nm (pj_fi G 171 22) (fun y2 => cond (pj_c1 .ge y2 ((Int8.ofInt 10).toInt32)) (pj_nm (F_189x G v1 ((Int8.ofInt 72).toInt32) v2) (fun y41 => cond (pj_c1 .ge y41 0) (pj_nm (pj_fi G 171 21) (fun y3 => pj_nm (pj_wv G 171 3 (.int y3)) (fun G44 => pj_nm (pj_wv G44 171 4 (.int y2)) (fun G45 => ih 1 v1 v2 y41 (Int32.ofInt 0) G45)))) ((y41, G)))) (pj_bd (F_183x G ((Int8.ofInt 59).toInt32)) (fun y69 G70 => cond (pj_c1 .eq y69 0) (pj_nm (F_189x G70 v1 ((Int8.ofInt 72).toInt32) v2) (fun y87 => cond (pj_c1 .ge y87 0) (pj_nm (pj_fi G70 171 21) (fun y78 => pj_nm (pj_wv G70 171 3 (.int y78)) (fun G90 => pj_nm (pj_fi G70 171 22) (fun y77 => pj_nm (pj_wv G90 171 4 (.int y77)) (fun G91 => ih 1 v1 v2 y87 (Int32.ofInt 0) G91))))) ((y87, G70)))) (pj_bd (F_191x G70) (fun y116 G117 => ih 0 v1 y116 0 0 G117))))))) (pj_nm (pj_fi G 171 4) (fun y140 => cond (pj_c1 .ge v4 y140) (pj_nm (pj_wv G 171 5 (.int (Int32.ofInt 0))) (fun G142 => pj_nm (pj_wv G142 171 6 (.int (Int32.ofInt 0))) (fun G143 => pj_nm (pj_wa G143 179 ((Int8.ofInt 30).toInt32).toInt.toNat (Int32.ofInt 0)) (fun G144 => pj_nm (pj_wa G144 179 ((Int8.ofInt 31).toInt32).toInt.toNat (Int32.ofInt 0)) (fun G145 => pj_nm (F_193x G145) (fun G152 => pj_nm (pj_fi G152 171 4) (fun y161 => (y161, G152)))))))) (pj_nm ((Int32.ofInt 4) * v4) (fun z167 => pj_nm (pj_ai G 181 z167.toInt.toNat) (fun z168 => pj_nm (pj_wa G 173 v4.toInt.toNat z168) (fun G170 => pj_nm (z167 + (Int32.ofInt 1)) (fun z171 => pj_nm (pj_ai G170 181 z171.toInt.toNat) (fun z172 => pj_nm (pj_wa G170 174 v4.toInt.toNat z172) (fun G174 => pj_nm (z167 + (Int32.ofInt 2)) (fun z175 => pj_nm (pj_ai G174 181 z175.toInt.toNat) (fun z176 => pj_nm (pj_wa G174 175 v4.toInt.toNat z176) (fun G178 => pj_nm (z167 + (Int32.ofInt 3)) (fun z179 => pj_nm (pj_ai G178 181 z179.toInt.toNat) (fun z180 => pj_nm (pj_wa G178 176 v4.toInt.toNat z180) (fun G182 => pj_nm (v4 + Int32.ofInt 1) (fun z183 => ih 1 v1 v2 v3 z183 G182))))))))))))))))) fu
theorem L_192x_s0 (G0 : pj_G) (fu : Nat) (v1 : Int32) (v2 : Int32) (G : pj_G) : L_192x G0 (fu + 1) 0 v1 v2 0 0 G = cond (pj_c1 .eq v2 0) (pj_nm (F_189x G v1 ((Int8.ofInt 72).toInt32) v2) (fun y12 => cond (pj_c1 .ge y12 0) (pj_nm (pj_fi G 171 21) (fun y3 => pj_nm (pj_wv G 171 3 (.int y3)) (fun G15 => pj_nm (pj_fi G 171 22) (fun y2 => pj_nm (pj_wv G15 171 4 (.int y2)) (fun G16 => L_192x G0 fu 1 v1 v2 y12 (Int32.ofInt 0) G16))))) ((y12, G)))) (pj_nm (pj_fi G 171 22) (fun y2 => cond (pj_c1 .ge y2 ((Int8.ofInt 10).toInt32)) (pj_nm (F_189x G v1 ((Int8.ofInt 72).toInt32) v2) (fun y41 => cond (pj_c1 .ge y41 0) (pj_nm (pj_fi G 171 21) (fun y3 => pj_nm (pj_wv G 171 3 (.int y3)) (fun G44 => pj_nm (pj_wv G44 171 4 (.int y2)) (fun G45 => L_192x G0 fu 1 v1 v2 y41 (Int32.ofInt 0) G45)))) ((y41, G)))) (pj_bd (F_183x G ((Int8.ofInt 59).toInt32)) (fun y69 G70 => cond (pj_c1 .eq y69 0) (pj_nm (F_189x G70 v1 ((Int8.ofInt 72).toInt32) v2) (fun y87 => cond (pj_c1 .ge y87 0) (pj_nm (pj_fi G70 171 21) (fun y78 => pj_nm (pj_wv G70 171 3 (.int y78)) (fun G90 => pj_nm (pj_fi G70 171 22) (fun y77 => pj_nm (pj_wv G90 171 4 (.int y77)) (fun G91 => L_192x G0 fu 1 v1 v2 y87 (Int32.ofInt 0) G91))))) ((y87, G70)))) (pj_bd (F_191x G70) (fun y116 G117 => L_192x G0 fu 0 v1 y116 0 0 G117)))))) := rfl
theorem L_192x_s1 (G0 : pj_G) (fu : Nat) (v1 : Int32) (v2 : Int32) (v3 : Int32) (v4 : Int32) (G : pj_G) : L_192x G0 (fu + 1) 1 v1 v2 v3 v4 G = pj_nm (pj_fi G 171 4) (fun y140 => cond (pj_c1 .ge v4 y140) (pj_nm (pj_wv G 171 5 (.int (Int32.ofInt 0))) (fun G142 => pj_nm (pj_wv G142 171 6 (.int (Int32.ofInt 0))) (fun G143 => pj_nm (pj_wa G143 179 ((Int8.ofInt 30).toInt32).toInt.toNat (Int32.ofInt 0)) (fun G144 => pj_nm (pj_wa G144 179 ((Int8.ofInt 31).toInt32).toInt.toNat (Int32.ofInt 0)) (fun G145 => pj_nm (F_193x G145) (fun G152 => pj_nm (pj_fi G152 171 4) (fun y161 => (y161, G152)))))))) (pj_nm ((Int32.ofInt 4) * v4) (fun z167 => pj_nm (pj_ai G 181 z167.toInt.toNat) (fun z168 => pj_nm (pj_wa G 173 v4.toInt.toNat z168) (fun G170 => pj_nm (z167 + (Int32.ofInt 1)) (fun z171 => pj_nm (pj_ai G170 181 z171.toInt.toNat) (fun z172 => pj_nm (pj_wa G170 174 v4.toInt.toNat z172) (fun G174 => pj_nm (z167 + (Int32.ofInt 2)) (fun z175 => pj_nm (pj_ai G174 181 z175.toInt.toNat) (fun z176 => pj_nm (pj_wa G174 175 v4.toInt.toNat z176) (fun G178 => pj_nm (z167 + (Int32.ofInt 3)) (fun z179 => pj_nm (pj_ai G178 181 z179.toInt.toNat) (fun z180 => pj_nm (pj_wa G178 176 v4.toInt.toNat z180) (fun G182 => pj_nm (v4 + Int32.ofInt 1) (fun z183 => L_192x G0 fu 1 v1 v2 v3 z183 G182))))))))))))))) := rfl
noncomputable def F_192x (G0 : pj_G) : Int32 × pj_G := pj_nm (pj_wv G0 171 0 (.int (Int32.ofInt 0))) (fun G197 => pj_bd (F_182etx G197 ((Int8.ofInt 72).toInt32)) (fun y203 G204 => pj_nm (pj_wv G204 171 22 (.int (Int32.ofInt 0))) (fun G215 => pj_bd (F_186_s10x G215) (fun y221 G222 => pj_nm ((Int32.ofInt 2) + y221) (fun z233 => pj_nm (pj_wv G222 171 21 (.int z233)) (fun G234 => cond (pj_c1 .le z233 (Int32.ofInt 1)) (L_192x G0 2001 0 y203 (Int32.ofInt 0) 0 0 G234) (L_192x G0 2001 0 y203 (Int32.ofInt 1) 0 0 G234)))))))
theorem F_192x_e (G0 : pj_G) : F_192x G0 = pj_nm (pj_wv G0 171 0 (.int (Int32.ofInt 0))) (fun G197 => pj_bd (F_182etx G197 ((Int8.ofInt 72).toInt32)) (fun y203 G204 => pj_nm (pj_wv G204 171 22 (.int (Int32.ofInt 0))) (fun G215 => pj_bd (F_186_s10x G215) (fun y221 G222 => pj_nm ((Int32.ofInt 2) + y221) (fun z233 => pj_nm (pj_wv G222 171 21 (.int z233)) (fun G234 => cond (pj_c1 .le z233 (Int32.ofInt 1)) (L_192x G0 2001 0 y203 (Int32.ofInt 0) 0 0 G234) (L_192x G0 2001 0 y203 (Int32.ofInt 1) 0 0 G234))))))) := rfl
theorem lp_ct_191x (G0 : pj_G) (hI0 : pj_Inv G0) (p0_ : pj_RI G0) (p1_ : (pj_fi G0 171 30).toInt ≤ 15) : ∀ mn : Nat, (∀ (G : pj_G) (hI : pj_Inv G) (hK : pj_kpt kc_191x G0 G) (v1 : Int32) (v2 : Int32), ((0 : Int) ≤ v1.toInt ∧ v1.toInt ≤ 80) → ((0 : Int) ≤ v2.toInt ∧ v2.toInt ≤ 1) → (pj_RI G) → (1 ≤ v2.toInt → pj_rd G (pj_fi G 171 22).toInt (pj_fi G 171 21).toInt) → ((pj_fi G 171 30).toInt ≤ 15) → ((pj_fi G 171 22).toInt ≤ 10) → 1000 + 20 * (11 - (pj_fi G 171 22).toInt) + 10 * v2.toInt < (mn : Int) → pj_X 18 pj_m191 G 43 [(0, .ref 171), (1, .int v1), (2, .int v2)] [] (fun v' G' => ∃ y : Int32, v' = some (.int y) ∧ pj_Inv G' ∧ pj_kpt kc_191x G0 G' ∧ ((-2147483648 : Int) ≤ y.toInt ∧ y.toInt ≤ 2147483647) ∧ (pj_RI G' ∧ (pj_fi G' 171 30).toInt ≤ 15) ∧ ((y, G') = L_192x G0 mn 0 v1 v2 0 0 G))) ∧ (∀ (G : pj_G) (hI : pj_Inv G) (hK : pj_kpt kc_191x G0 G) (v1 : Int32) (v2 : Int32) (v3 : Int32) (v4 : Int32), ((0 : Int) ≤ v1.toInt ∧ v1.toInt ≤ 80) → ((0 : Int) ≤ v2.toInt ∧ v2.toInt ≤ 1) → ((-2147483648 : Int) ≤ v3.toInt ∧ v3.toInt ≤ 2147483647) → ((0 : Int) ≤ v4.toInt ∧ v4.toInt ≤ 10) → (pj_rd G (pj_fi G 171 4).toInt (pj_fi G 171 3).toInt) → (pj_ro G v4.toInt (pj_fi G 171 3).toInt) → ((pj_fi G 171 30).toInt ≤ 15) → (v4.toInt ≤ (pj_fi G 171 4).toInt) → 10 - v4.toInt < (mn : Int) → pj_X 18 pj_m191 G 107 [(0, .ref 171), (1, .int v1), (2, .int v2), (3, .int v3), (4, .int v4)] [] (fun v' G' => ∃ y : Int32, v' = some (.int y) ∧ pj_Inv G' ∧ pj_kpt kc_191x G0 G' ∧ ((-2147483648 : Int) ≤ y.toInt ∧ y.toInt ≤ 2147483647) ∧ (pj_RI G' ∧ (pj_fi G' 171 30).toInt ≤ 15) ∧ ((y, G') = L_192x G0 mn 1 v1 v2 v3 v4 G))) := by
  have c0_ : ((Int8.ofInt 10).toInt32).toInt = 10 := by decide
  have c1_ : ((Int8.ofInt 30).toInt32).toInt = 30 := by decide
  have c2_ : ((Int8.ofInt 31).toInt32).toInt = 31 := by decide
  have c3_ : ((Int8.ofInt 59).toInt32).toInt = 59 := by decide
  have c4_ : ((Int8.ofInt 72).toInt32).toInt = 72 := by decide
  have c5_ : (Int32.ofInt 0).toInt = 0 := by decide
  have c6_ : (Int32.ofInt 1).toInt = 1 := by decide
  have c7_ : (Int32.ofInt 2).toInt = 2 := by decide
  have c8_ : (Int32.ofInt 3).toInt = 3 := by decide
  have c9_ : (Int32.ofInt 4).toInt = 4 := by decide
  intro mn
  induction mn with
  | zero =>
    refine ⟨?_, ?_⟩
    · intro G hI hK v1 v2 rv1 rv2 x0_ x1_ x2_ x3_ hm
      exfalso
      omega
    · intro G hI hK v1 v2 v3 v4 rv1 rv2 rv3 rv4 x0_ x1_ x2_ x3_ hm
      exfalso
      omega
  | succ mn ih =>
    refine ⟨?_, ?_⟩
    · intro G hI hK v1 v2 rv1 rv2 x0_ x1_ x2_ x3_ hm
      rw [L_192x_s0]
      obtain ⟨y1, hy1⟩ : ∃ z : Int32, z = pj_fi G 171 30 := ⟨_, rfl⟩
      have ey1 : (pj_fi G 171 30).toInt = y1.toInt := by rw [hy1]
      have ry1 : (0 : Int) ≤ y1.toInt ∧ y1.toInt ≤ 16 := by rw [hy1]; exact hI.2.1 171 30 (0, 16) rfl
      obtain ⟨y2, hy2⟩ : ∃ z : Int32, z = pj_fi G 171 22 := ⟨_, rfl⟩
      have ey2 : (pj_fi G 171 22).toInt = y2.toInt := by rw [hy2]
      have ry2 : (0 : Int) ≤ y2.toInt ∧ y2.toInt ≤ 10 := by rw [hy2]; exact hI.2.1 171 22 (0, 10) rfl
      obtain ⟨y3, hy3⟩ : ∃ z : Int32, z = pj_fi G 171 21 := ⟨_, rfl⟩
      have ey3 : (pj_fi G 171 21).toInt = y3.toInt := by rw [hy3]
      have ry3 : (0 : Int) ≤ y3.toInt ∧ y3.toInt ≤ 8 := by rw [hy3]; exact hI.2.1 171 21 (0, 8) rfl
      obtain ⟨y4, hy4⟩ : ∃ z : Int32, z = pj_fi G 171 3 := ⟨_, rfl⟩
      have ey4 : (pj_fi G 171 3).toInt = y4.toInt := by rw [hy4]
      have ry4 : (0 : Int) ≤ y4.toInt ∧ y4.toInt ≤ 8 := by rw [hy4]; exact hI.2.1 171 3 (0, 8) rfl
      obtain ⟨y5, hy5⟩ : ∃ z : Int32, z = pj_fi G 171 4 := ⟨_, rfl⟩
      have ey5 : (pj_fi G 171 4).toInt = y5.toInt := by rw [hy5]
      have ry5 : (0 : Int) ≤ y5.toInt ∧ y5.toInt ≤ 10 := by rw [hy5]; exact hI.2.1 171 4 (0, 10) rfl
      refine pj_X_of (fun r h => pj_R_to (G, 44, [(0, .ref 171), (1, .int v1), (2, .int v2)], [.int v2], 0, 0) 44 2 (fun _ => rfl) h) ?_
      cases b6 : pj_c1 .eq v2 0 with
      | true =>
        rw [pj_cT]
        have ub6 := pj_u0_eqT b6
        refine pj_X_of (fun r h => pj_R_ifT 73 rfl rfl b6 h) ?_
        refine pj_X_of (fun r h => pj_R_to (G, 78, [(0, .ref 171), (1, .int v1), (2, .int v2)], [.int v2, .int ((Int8.ofInt 72).toInt32), .int v1, .ref 171], 0, 0) 78 5 (fun _ => rfl) h) ?_
        have q7 : (pj_fi G 171 30).toInt = y1.toInt := by rw [show pj_fi G 171 30 = y1 from hy1.symm]
        have q8 : (pj_fi G 171 22).toInt = y2.toInt := by rw [show pj_fi G 171 22 = y2 from hy2.symm]
        have q9 : (pj_fi G 171 21).toInt = y3.toInt := by rw [show pj_fi G 171 21 = y3 from hy3.symm]
        have q10 : (pj_fi G 171 3).toInt = y4.toInt := by rw [show pj_fi G 171 3 = y4 from hy4.symm]
        have q11 : (pj_fi G 171 4).toInt = y5.toInt := by rw [show pj_fi G 171 4 = y5 from hy5.symm]
        refine pj_X_ca (vs := [.ref 171, .int v1, .int ((Int8.ofInt 72).toInt32), .int v2]) rfl (fun _ => rfl) ⟨Nat.le_of_ble_eq_true rfl, Nat.le_of_ble_eq_true rfl, pj_T_rcv hI rfl⟩ ⟨rfl, rfl⟩ (pj_Y_up (by decide) (ct_188x G hI v1 ((Int8.ofInt 72).toInt32) v2 ⟨by omega, by omega⟩ ⟨by omega, by omega⟩ ⟨by omega, by omega⟩)) ?_
        rintro _ _ ⟨y12, rfl, rfl, ry12, ey12, fy12⟩
        replace ey12 := ey12 _ rfl
        rw [← fy12, pj_nm_e]
        show pj_X _ _ G 81 [(0, .ref 171), (1, .int v1), (2, .int v2)] [.int y12] _
        refine pj_X_of (fun r h => pj_R_to (G, 83, [(3, .int y12), (0, .ref 171), (1, .int v1), (2, .int v2)], [.int y12], 0, 0) 83 3 (fun _ => rfl) h) ?_
        cases b13 : pj_c1 .ge y12 0 with
        | true =>
          rw [pj_cT]
          have ub13 := pj_u0_geT b13
          refine pj_X_of (fun r h => pj_R_ifT 88 rfl rfl b13 h) ?_
          refine pj_X_of (fun r h => pj_R_to (G, 90, [(3, .int y12), (0, .ref 171), (1, .int v1), (2, .int v2)], [.ref 171, .ref 171], 0, 0) 90 3 (fun _ => rfl) h) ?_
          have rd14 : pj_rd G (pj_fi G 171 22).toInt (pj_fi G 171 21).toInt := by rw [show pj_fi G 171 22 = pj_fi G 171 22 from by rfl, show pj_fi G 171 21 = pj_fi G 171 21 from by rfl]; exact pj_rd_k (fun j => by rfl) (x1_ (by omega))
          refine pj_X_of (fun r h => pj_T_gi hI rfl rfl h) ?_
          show pj_X _ _ G 93 [(3, .int y12), (0, .ref 171), (1, .int v1), (2, .int v2)] [.int (pj_fi G 171 21), .ref 171] _
          rw [← hy3, pj_nm_e]
          refine pj_X_of (fun r h => pj_T_pf hI rfl rfl rfl h) ?_
          show pj_X _ _ (pj_wv G 171 3 (.int y3)) 96 [(3, .int y12), (0, .ref 171), (1, .int v1), (2, .int v2)] [] _
          obtain ⟨G15, hG15⟩ : ∃ H, H = pj_wv G 171 3 (.int y3) := ⟨_, rfl⟩
          have iG15 : pj_Inv G15 := by rw [hG15]; exact pj_Inv_wi hI (ci := 12) rfl (fun q hq => by cases hq; exact ⟨by show (0 : Int) ≤ _; omega, by show _ ≤ (8 : Int); omega⟩)
          have kG15 : pj_kpt kc_191x G0 G15 := by rw [hG15]; exact pj_kpt_v hK rfl
          rw [← hG15]
          rw [pj_nm_e]
          refine pj_X_of (fun r h => pj_R_to (G15, 98, [(3, .int y12), (0, .ref 171), (1, .int v1), (2, .int v2)], [.ref 171, .ref 171], 0, 0) 98 3 (fun _ => rfl) h) ?_
          refine pj_X_of (fun r h => pj_T_gi iG15 rfl rfl h) ?_
          show pj_X _ _ G15 101 [(3, .int y12), (0, .ref 171), (1, .int v1), (2, .int v2)] [.int (pj_fi G15 171 22), .ref 171] _
          rw [← hy2, pj_nm_e]
          refine pj_X_eqi (show pj_fi G15 171 22 = y2 from by rw [hG15, pj_fi_wv_ne _ _ _ _ _ _ (by decide)]; exact hy2.symm) ?_
          refine pj_X_of (fun r h => pj_T_pf iG15 rfl rfl rfl h) ?_
          show pj_X _ _ (pj_wv G15 171 4 (.int y2)) 104 [(3, .int y12), (0, .ref 171), (1, .int v1), (2, .int v2)] [] _
          obtain ⟨G16, hG16⟩ : ∃ H, H = pj_wv G15 171 4 (.int y2) := ⟨_, rfl⟩
          have iG16 : pj_Inv G16 := by rw [hG16]; exact pj_Inv_wi iG15 (ci := 12) rfl (fun q hq => by cases hq; exact ⟨by show (0 : Int) ≤ _; omega, by show _ ≤ (10 : Int); omega⟩)
          have kG16 : pj_kpt kc_191x G0 G16 := by rw [hG16]; exact pj_kpt_v kG15 rfl
          rw [← hG16]
          rw [pj_nm_e]
          refine pj_X_of (fun r h => pj_R_to (G16, 107, [(4, .int (Int32.ofInt 0)), (3, .int y12), (0, .ref 171), (1, .int v1), (2, .int v2)], [], 0, 0) 107 3 (fun _ => rfl) h) ?_
          have q17 : (pj_fi G16 171 30).toInt = y1.toInt := by rw [show pj_fi G16 171 30 = y1 from by rw [hG16, pj_fi_wv_ne _ _ _ _ _ _ (by decide)]; exact (by rw [hG15, pj_fi_wv_ne _ _ _ _ _ _ (by decide)]; exact hy1.symm)]
          have q18 : (pj_fi G16 171 22).toInt = y2.toInt := by rw [show pj_fi G16 171 22 = y2 from by rw [hG16, pj_fi_wv_ne _ _ _ _ _ _ (by decide)]; exact (by rw [hG15, pj_fi_wv_ne _ _ _ _ _ _ (by decide)]; exact hy2.symm)]
          have q19 : (pj_fi G16 171 21).toInt = y3.toInt := by rw [show pj_fi G16 171 21 = y3 from by rw [hG16, pj_fi_wv_ne _ _ _ _ _ _ (by decide)]; exact (by rw [hG15, pj_fi_wv_ne _ _ _ _ _ _ (by decide)]; exact hy3.symm)]
          have q20 : (pj_fi G16 171 3).toInt = y3.toInt := by rw [show pj_fi G16 171 3 = y3 from by rw [hG16, pj_fi_wv_ne _ _ _ _ _ _ (by decide)]; exact (by rw [hG15]; exact pj_fi_wi hI.1 (ci := 12) rfl _)]
          have q21 : (pj_fi G16 171 4).toInt = y2.toInt := by rw [show pj_fi G16 171 4 = y2 from by rw [hG16]; exact pj_fi_wi iG15.1 (ci := 12) rfl _]
          have q22 : (pj_fi G16 171 30).toInt = y1.toInt := by rw [show pj_fi G16 171 30 = y1 from by rw [hG16, pj_fi_wv_ne _ _ _ _ _ _ (by decide)]; exact (by rw [hG15, pj_fi_wv_ne _ _ _ _ _ _ (by decide)]; exact hy1.symm)]
          have q23 : (pj_fi G16 171 22).toInt = y2.toInt := by rw [show pj_fi G16 171 22 = y2 from by rw [hG16, pj_fi_wv_ne _ _ _ _ _ _ (by decide)]; exact (by rw [hG15, pj_fi_wv_ne _ _ _ _ _ _ (by decide)]; exact hy2.symm)]
          have q24 : (pj_fi G16 171 21).toInt = y3.toInt := by rw [show pj_fi G16 171 21 = y3 from by rw [hG16, pj_fi_wv_ne _ _ _ _ _ _ (by decide)]; exact (by rw [hG15, pj_fi_wv_ne _ _ _ _ _ _ (by decide)]; exact hy3.symm)]
          have q25 : (pj_fi G16 171 3).toInt = y3.toInt := by rw [show pj_fi G16 171 3 = y3 from by rw [hG16, pj_fi_wv_ne _ _ _ _ _ _ (by decide)]; exact (by rw [hG15]; exact pj_fi_wi hI.1 (ci := 12) rfl _)]
          have q26 : (pj_fi G16 171 4).toInt = y2.toInt := by rw [show pj_fi G16 171 4 = y2 from by rw [hG16]; exact pj_fi_wi iG15.1 (ci := 12) rfl _]
          have c27 : (pj_fi G16 171 4).toInt = (pj_fi G 171 22).toInt := by omega
          have c28 : (pj_fi G16 171 3).toInt = (pj_fi G 171 21).toInt := by omega
          exact pj_X_sub [(0, .ref 171), (1, .int v1), (2, .int v2), (3, .int y12), (4, .int (Int32.ofInt 0))] (show List.Nodup [0, 1, 2, 3, 4] by decide) ⟨rfl, rfl, rfl, rfl, rfl, trivial⟩ (ih.2 G16 iG16 kG16 v1 v2 y12 (Int32.ofInt 0) ⟨by omega, by omega⟩ ⟨by omega, by omega⟩ (pj_i32 _) ⟨by omega, by omega⟩ (by rw [c27, c28]; exact pj_rd_k (fun j => by rw [hG16, pj_ai_wv, hG15, pj_ai_wv]) rd14) (pj_ro_0 (by omega)) (by omega) (by omega) (by omega))
        | false =>
          rw [pj_cF]
          have ub13 := pj_u0_geF b13
          refine pj_X_of (fun r h => pj_R_ifF rfl b13 h) ?_
          refine pj_X_of (fun r h => pj_R_to (G, 87, [(3, .int y12), (0, .ref 171), (1, .int v1), (2, .int v2)], [.int y12], 0, 0) 87 2 (fun _ => rfl) h) ?_
          have q29 : (pj_fi G 171 30).toInt = y1.toInt := by rw [show pj_fi G 171 30 = y1 from hy1.symm]
          have q30 : (pj_fi G 171 22).toInt = y2.toInt := by rw [show pj_fi G 171 22 = y2 from hy2.symm]
          have q31 : (pj_fi G 171 21).toInt = y3.toInt := by rw [show pj_fi G 171 21 = y3 from hy3.symm]
          have q32 : (pj_fi G 171 3).toInt = y4.toInt := by rw [show pj_fi G 171 3 = y4 from hy4.symm]
          have q33 : (pj_fi G 171 4).toInt = y5.toInt := by rw [show pj_fi G 171 4 = y5 from hy5.symm]
          have t34 : pj_kpt ([], [], []) G G := pj_kpt_r _ _
          exact pj_X_rt rfl rfl ⟨_, rfl, hI, hK, pj_i32 _, ⟨pj_RI_k x0_ t34 rfl, by omega⟩, rfl⟩
      | false =>
        rw [pj_cF]
        have ub6 := pj_u0_eqF b6
        refine pj_X_of (fun r h => pj_R_ifF rfl b6 h) ?_
        refine pj_X_of (fun r h => pj_R_to (G, 48, [(0, .ref 171), (1, .int v1), (2, .int v2)], [.ref 171], 0, 0) 48 2 (fun _ => rfl) h) ?_
        refine pj_X_of (fun r h => pj_T_gi hI rfl rfl h) ?_
        show pj_X _ _ G 51 [(0, .ref 171), (1, .int v1), (2, .int v2)] [.int (pj_fi G 171 22)] _
        rw [← hy2, pj_nm_e]
        refine pj_X_of (fun r h => pj_R_to (G, 53, [(0, .ref 171), (1, .int v1), (2, .int v2)], [.int ((Int8.ofInt 10).toInt32), .int y2], 0, 0) 53 2 (fun _ => rfl) h) ?_
        cases b35 : pj_c1 .ge y2 ((Int8.ofInt 10).toInt32) with
        | true =>
          rw [pj_cT]
          have ub35 := pj_u_geT b35
          refine pj_X_of (fun r h => pj_R_icT 73 rfl rfl b35 h) ?_
          refine pj_X_of (fun r h => pj_R_to (G, 78, [(0, .ref 171), (1, .int v1), (2, .int v2)], [.int v2, .int ((Int8.ofInt 72).toInt32), .int v1, .ref 171], 0, 0) 78 5 (fun _ => rfl) h) ?_
          have q36 : (pj_fi G 171 30).toInt = y1.toInt := by rw [show pj_fi G 171 30 = y1 from hy1.symm]
          have q37 : (pj_fi G 171 22).toInt = y2.toInt := by rw [show pj_fi G 171 22 = y2 from hy2.symm]
          have q38 : (pj_fi G 171 21).toInt = y3.toInt := by rw [show pj_fi G 171 21 = y3 from hy3.symm]
          have q39 : (pj_fi G 171 3).toInt = y4.toInt := by rw [show pj_fi G 171 3 = y4 from hy4.symm]
          have q40 : (pj_fi G 171 4).toInt = y5.toInt := by rw [show pj_fi G 171 4 = y5 from hy5.symm]
          refine pj_X_ca (vs := [.ref 171, .int v1, .int ((Int8.ofInt 72).toInt32), .int v2]) rfl (fun _ => rfl) ⟨Nat.le_of_ble_eq_true rfl, Nat.le_of_ble_eq_true rfl, pj_T_rcv hI rfl⟩ ⟨rfl, rfl⟩ (pj_Y_up (by decide) (ct_188x G hI v1 ((Int8.ofInt 72).toInt32) v2 ⟨by omega, by omega⟩ ⟨by omega, by omega⟩ ⟨by omega, by omega⟩)) ?_
          rintro _ _ ⟨y41, rfl, rfl, ry41, ey41, fy41⟩
          replace ey41 := ey41 _ rfl
          rw [← fy41, pj_nm_e]
          show pj_X _ _ G 81 [(0, .ref 171), (1, .int v1), (2, .int v2)] [.int y41] _
          refine pj_X_of (fun r h => pj_R_to (G, 83, [(3, .int y41), (0, .ref 171), (1, .int v1), (2, .int v2)], [.int y41], 0, 0) 83 3 (fun _ => rfl) h) ?_
          cases b42 : pj_c1 .ge y41 0 with
          | true =>
            rw [pj_cT]
            have ub42 := pj_u0_geT b42
            refine pj_X_of (fun r h => pj_R_ifT 88 rfl rfl b42 h) ?_
            refine pj_X_of (fun r h => pj_R_to (G, 90, [(3, .int y41), (0, .ref 171), (1, .int v1), (2, .int v2)], [.ref 171, .ref 171], 0, 0) 90 3 (fun _ => rfl) h) ?_
            have rd43 : pj_rd G (pj_fi G 171 22).toInt (pj_fi G 171 21).toInt := by rw [show pj_fi G 171 22 = pj_fi G 171 22 from by rfl, show pj_fi G 171 21 = pj_fi G 171 21 from by rfl]; exact pj_rd_k (fun j => by rfl) (x1_ (by omega))
            refine pj_X_of (fun r h => pj_T_gi hI rfl rfl h) ?_
            show pj_X _ _ G 93 [(3, .int y41), (0, .ref 171), (1, .int v1), (2, .int v2)] [.int (pj_fi G 171 21), .ref 171] _
            rw [← hy3, pj_nm_e]
            refine pj_X_of (fun r h => pj_T_pf hI rfl rfl rfl h) ?_
            show pj_X _ _ (pj_wv G 171 3 (.int y3)) 96 [(3, .int y41), (0, .ref 171), (1, .int v1), (2, .int v2)] [] _
            obtain ⟨G44, hG44⟩ : ∃ H, H = pj_wv G 171 3 (.int y3) := ⟨_, rfl⟩
            have iG44 : pj_Inv G44 := by rw [hG44]; exact pj_Inv_wi hI (ci := 12) rfl (fun q hq => by cases hq; exact ⟨by show (0 : Int) ≤ _; omega, by show _ ≤ (8 : Int); omega⟩)
            have kG44 : pj_kpt kc_191x G0 G44 := by rw [hG44]; exact pj_kpt_v hK rfl
            rw [← hG44]
            rw [pj_nm_e]
            refine pj_X_of (fun r h => pj_R_to (G44, 98, [(3, .int y41), (0, .ref 171), (1, .int v1), (2, .int v2)], [.ref 171, .ref 171], 0, 0) 98 3 (fun _ => rfl) h) ?_
            refine pj_X_of (fun r h => pj_T_gi iG44 rfl rfl h) ?_
            show pj_X _ _ G44 101 [(3, .int y41), (0, .ref 171), (1, .int v1), (2, .int v2)] [.int (pj_fi G44 171 22), .ref 171] _
            refine pj_X_eqi (show pj_fi G44 171 22 = y2 from by rw [hG44, pj_fi_wv_ne _ _ _ _ _ _ (by decide)]; exact hy2.symm) ?_
            refine pj_X_of (fun r h => pj_T_pf iG44 rfl rfl rfl h) ?_
            show pj_X _ _ (pj_wv G44 171 4 (.int y2)) 104 [(3, .int y41), (0, .ref 171), (1, .int v1), (2, .int v2)] [] _
            obtain ⟨G45, hG45⟩ : ∃ H, H = pj_wv G44 171 4 (.int y2) := ⟨_, rfl⟩
            have iG45 : pj_Inv G45 := by rw [hG45]; exact pj_Inv_wi iG44 (ci := 12) rfl (fun q hq => by cases hq; exact ⟨by show (0 : Int) ≤ _; omega, by show _ ≤ (10 : Int); omega⟩)
            have kG45 : pj_kpt kc_191x G0 G45 := by rw [hG45]; exact pj_kpt_v kG44 rfl
            rw [← hG45]
            rw [pj_nm_e]
            refine pj_X_of (fun r h => pj_R_to (G45, 107, [(4, .int (Int32.ofInt 0)), (3, .int y41), (0, .ref 171), (1, .int v1), (2, .int v2)], [], 0, 0) 107 3 (fun _ => rfl) h) ?_
            have q46 : (pj_fi G45 171 30).toInt = y1.toInt := by rw [show pj_fi G45 171 30 = y1 from by rw [hG45, pj_fi_wv_ne _ _ _ _ _ _ (by decide)]; exact (by rw [hG44, pj_fi_wv_ne _ _ _ _ _ _ (by decide)]; exact hy1.symm)]
            have q47 : (pj_fi G45 171 22).toInt = y2.toInt := by rw [show pj_fi G45 171 22 = y2 from by rw [hG45, pj_fi_wv_ne _ _ _ _ _ _ (by decide)]; exact (by rw [hG44, pj_fi_wv_ne _ _ _ _ _ _ (by decide)]; exact hy2.symm)]
            have q48 : (pj_fi G45 171 21).toInt = y3.toInt := by rw [show pj_fi G45 171 21 = y3 from by rw [hG45, pj_fi_wv_ne _ _ _ _ _ _ (by decide)]; exact (by rw [hG44, pj_fi_wv_ne _ _ _ _ _ _ (by decide)]; exact hy3.symm)]
            have q49 : (pj_fi G45 171 3).toInt = y3.toInt := by rw [show pj_fi G45 171 3 = y3 from by rw [hG45, pj_fi_wv_ne _ _ _ _ _ _ (by decide)]; exact (by rw [hG44]; exact pj_fi_wi hI.1 (ci := 12) rfl _)]
            have q50 : (pj_fi G45 171 4).toInt = y2.toInt := by rw [show pj_fi G45 171 4 = y2 from by rw [hG45]; exact pj_fi_wi iG44.1 (ci := 12) rfl _]
            have q51 : (pj_fi G45 171 30).toInt = y1.toInt := by rw [show pj_fi G45 171 30 = y1 from by rw [hG45, pj_fi_wv_ne _ _ _ _ _ _ (by decide)]; exact (by rw [hG44, pj_fi_wv_ne _ _ _ _ _ _ (by decide)]; exact hy1.symm)]
            have q52 : (pj_fi G45 171 22).toInt = y2.toInt := by rw [show pj_fi G45 171 22 = y2 from by rw [hG45, pj_fi_wv_ne _ _ _ _ _ _ (by decide)]; exact (by rw [hG44, pj_fi_wv_ne _ _ _ _ _ _ (by decide)]; exact hy2.symm)]
            have q53 : (pj_fi G45 171 21).toInt = y3.toInt := by rw [show pj_fi G45 171 21 = y3 from by rw [hG45, pj_fi_wv_ne _ _ _ _ _ _ (by decide)]; exact (by rw [hG44, pj_fi_wv_ne _ _ _ _ _ _ (by decide)]; exact hy3.symm)]
            have q54 : (pj_fi G45 171 3).toInt = y3.toInt := by rw [show pj_fi G45 171 3 = y3 from by rw [hG45, pj_fi_wv_ne _ _ _ _ _ _ (by decide)]; exact (by rw [hG44]; exact pj_fi_wi hI.1 (ci := 12) rfl _)]
            have q55 : (pj_fi G45 171 4).toInt = y2.toInt := by rw [show pj_fi G45 171 4 = y2 from by rw [hG45]; exact pj_fi_wi iG44.1 (ci := 12) rfl _]
            have c56 : (pj_fi G45 171 4).toInt = (pj_fi G 171 22).toInt := by omega
            have c57 : (pj_fi G45 171 3).toInt = (pj_fi G 171 21).toInt := by omega
            exact pj_X_sub [(0, .ref 171), (1, .int v1), (2, .int v2), (3, .int y41), (4, .int (Int32.ofInt 0))] (show List.Nodup [0, 1, 2, 3, 4] by decide) ⟨rfl, rfl, rfl, rfl, rfl, trivial⟩ (ih.2 G45 iG45 kG45 v1 v2 y41 (Int32.ofInt 0) ⟨by omega, by omega⟩ ⟨by omega, by omega⟩ (pj_i32 _) ⟨by omega, by omega⟩ (by rw [c56, c57]; exact pj_rd_k (fun j => by rw [hG45, pj_ai_wv, hG44, pj_ai_wv]) rd43) (pj_ro_0 (by omega)) (by omega) (by omega) (by omega))
          | false =>
            rw [pj_cF]
            have ub42 := pj_u0_geF b42
            refine pj_X_of (fun r h => pj_R_ifF rfl b42 h) ?_
            refine pj_X_of (fun r h => pj_R_to (G, 87, [(3, .int y41), (0, .ref 171), (1, .int v1), (2, .int v2)], [.int y41], 0, 0) 87 2 (fun _ => rfl) h) ?_
            have q58 : (pj_fi G 171 30).toInt = y1.toInt := by rw [show pj_fi G 171 30 = y1 from hy1.symm]
            have q59 : (pj_fi G 171 22).toInt = y2.toInt := by rw [show pj_fi G 171 22 = y2 from hy2.symm]
            have q60 : (pj_fi G 171 21).toInt = y3.toInt := by rw [show pj_fi G 171 21 = y3 from hy3.symm]
            have q61 : (pj_fi G 171 3).toInt = y4.toInt := by rw [show pj_fi G 171 3 = y4 from hy4.symm]
            have q62 : (pj_fi G 171 4).toInt = y5.toInt := by rw [show pj_fi G 171 4 = y5 from hy5.symm]
            have t63 : pj_kpt ([], [], []) G G := pj_kpt_r _ _
            exact pj_X_rt rfl rfl ⟨_, rfl, hI, hK, pj_i32 _, ⟨pj_RI_k x0_ t63 rfl, by omega⟩, rfl⟩
        | false =>
          rw [pj_cF]
          have ub35 := pj_u_geF b35
          refine pj_X_of (fun r h => pj_R_icF rfl b35 h) ?_
          refine pj_X_of (fun r h => pj_R_to (G, 59, [(0, .ref 171), (1, .int v1), (2, .int v2)], [.int ((Int8.ofInt 59).toInt32), .ref 171], 0, 0) 59 3 (fun _ => rfl) h) ?_
          have q64 : (pj_fi G 171 30).toInt = y1.toInt := by rw [show pj_fi G 171 30 = y1 from hy1.symm]
          have q65 : (pj_fi G 171 22).toInt = y2.toInt := by rw [show pj_fi G 171 22 = y2 from hy2.symm]
          have q66 : (pj_fi G 171 21).toInt = y3.toInt := by rw [show pj_fi G 171 21 = y3 from hy3.symm]
          have q67 : (pj_fi G 171 3).toInt = y4.toInt := by rw [show pj_fi G 171 3 = y4 from hy4.symm]
          have q68 : (pj_fi G 171 4).toInt = y5.toInt := by rw [show pj_fi G 171 4 = y5 from hy5.symm]
          refine pj_X_ca (vs := [.ref 171, .int ((Int8.ofInt 59).toInt32)]) rfl (fun _ => rfl) ⟨Nat.le_of_ble_eq_true rfl, Nat.le_of_ble_eq_true rfl, pj_T_rcv hI rfl⟩ ⟨rfl, rfl⟩ (pj_Y_up (by decide) (ct_182x G hI ((Int8.ofInt 59).toInt32) ⟨by omega, by omega⟩)) ?_
          rintro _ G70 ⟨y69, rfl, iG70, jG70, ry69, ey69, fy69⟩
          replace ey69 := ey69 _ rfl
          rw [← fy69, pj_bd_e]
          have kG70 : pj_kpt kc_191x G0 G70 := pj_kpt_t hK (pj_kpt_s jG70 rfl)
          have q71 : (pj_fi G70 171 30).toInt = (pj_fi G 171 30).toInt := by rw [jG70.1 (171, 30) (by decide)]
          have q72 : (pj_fi G70 171 22).toInt = (pj_fi G 171 22).toInt := by rw [jG70.1 (171, 22) (by decide)]
          have q73 : (pj_fi G70 171 21).toInt = (pj_fi G 171 21).toInt := by rw [jG70.1 (171, 21) (by decide)]
          have q74 : (pj_fi G70 171 3).toInt = (pj_fi G 171 3).toInt := by rw [jG70.1 (171, 3) (by decide)]
          have q75 : (pj_fi G70 171 4).toInt = (pj_fi G 171 4).toInt := by rw [jG70.1 (171, 4) (by decide)]
          obtain ⟨y76, hy76⟩ : ∃ z : Int32, z = pj_fi G70 171 30 := ⟨_, rfl⟩
          have ey76 : (pj_fi G70 171 30).toInt = y76.toInt := by rw [hy76]
          have ry76 : (0 : Int) ≤ y76.toInt ∧ y76.toInt ≤ 16 := by rw [hy76]; exact iG70.2.1 171 30 (0, 16) rfl
          obtain ⟨y77, hy77⟩ : ∃ z : Int32, z = pj_fi G70 171 22 := ⟨_, rfl⟩
          have ey77 : (pj_fi G70 171 22).toInt = y77.toInt := by rw [hy77]
          have ry77 : (0 : Int) ≤ y77.toInt ∧ y77.toInt ≤ 10 := by rw [hy77]; exact iG70.2.1 171 22 (0, 10) rfl
          obtain ⟨y78, hy78⟩ : ∃ z : Int32, z = pj_fi G70 171 21 := ⟨_, rfl⟩
          have ey78 : (pj_fi G70 171 21).toInt = y78.toInt := by rw [hy78]
          have ry78 : (0 : Int) ≤ y78.toInt ∧ y78.toInt ≤ 8 := by rw [hy78]; exact iG70.2.1 171 21 (0, 8) rfl
          obtain ⟨y79, hy79⟩ : ∃ z : Int32, z = pj_fi G70 171 3 := ⟨_, rfl⟩
          have ey79 : (pj_fi G70 171 3).toInt = y79.toInt := by rw [hy79]
          have ry79 : (0 : Int) ≤ y79.toInt ∧ y79.toInt ≤ 8 := by rw [hy79]; exact iG70.2.1 171 3 (0, 8) rfl
          obtain ⟨y80, hy80⟩ : ∃ z : Int32, z = pj_fi G70 171 4 := ⟨_, rfl⟩
          have ey80 : (pj_fi G70 171 4).toInt = y80.toInt := by rw [hy80]
          have ry80 : (0 : Int) ≤ y80.toInt ∧ y80.toInt ≤ 10 := by rw [hy80]; exact iG70.2.1 171 4 (0, 10) rfl
          show pj_X _ _ G70 62 [(0, .ref 171), (1, .int v1), (2, .int v2)] [.int y69] _
          cases b81 : pj_c1 .eq y69 0 with
          | true =>
            rw [pj_cT]
            have ub81 := pj_u0_eqT b81
            refine pj_X_of (fun r h => pj_R_ifT 73 rfl rfl b81 h) ?_
            refine pj_X_of (fun r h => pj_R_to (G70, 78, [(0, .ref 171), (1, .int v1), (2, .int v2)], [.int v2, .int ((Int8.ofInt 72).toInt32), .int v1, .ref 171], 0, 0) 78 5 (fun _ => rfl) h) ?_
            have q82 : (pj_fi G70 171 30).toInt = y76.toInt := by rw [show pj_fi G70 171 30 = y76 from hy76.symm]
            have q83 : (pj_fi G70 171 22).toInt = y77.toInt := by rw [show pj_fi G70 171 22 = y77 from hy77.symm]
            have q84 : (pj_fi G70 171 21).toInt = y78.toInt := by rw [show pj_fi G70 171 21 = y78 from hy78.symm]
            have q85 : (pj_fi G70 171 3).toInt = y79.toInt := by rw [show pj_fi G70 171 3 = y79 from hy79.symm]
            have q86 : (pj_fi G70 171 4).toInt = y80.toInt := by rw [show pj_fi G70 171 4 = y80 from hy80.symm]
            refine pj_X_ca (vs := [.ref 171, .int v1, .int ((Int8.ofInt 72).toInt32), .int v2]) rfl (fun _ => rfl) ⟨Nat.le_of_ble_eq_true rfl, Nat.le_of_ble_eq_true rfl, pj_T_rcv iG70 rfl⟩ ⟨rfl, rfl⟩ (pj_Y_up (by decide) (ct_188x G70 iG70 v1 ((Int8.ofInt 72).toInt32) v2 ⟨by omega, by omega⟩ ⟨by omega, by omega⟩ ⟨by omega, by omega⟩)) ?_
            rintro _ _ ⟨y87, rfl, rfl, ry87, ey87, fy87⟩
            replace ey87 := ey87 _ rfl
            rw [← fy87, pj_nm_e]
            show pj_X _ _ G70 81 [(0, .ref 171), (1, .int v1), (2, .int v2)] [.int y87] _
            refine pj_X_of (fun r h => pj_R_to (G70, 83, [(3, .int y87), (0, .ref 171), (1, .int v1), (2, .int v2)], [.int y87], 0, 0) 83 3 (fun _ => rfl) h) ?_
            cases b88 : pj_c1 .ge y87 0 with
            | true =>
              rw [pj_cT]
              have ub88 := pj_u0_geT b88
              refine pj_X_of (fun r h => pj_R_ifT 88 rfl rfl b88 h) ?_
              refine pj_X_of (fun r h => pj_R_to (G70, 90, [(3, .int y87), (0, .ref 171), (1, .int v1), (2, .int v2)], [.ref 171, .ref 171], 0, 0) 90 3 (fun _ => rfl) h) ?_
              have rd89 : pj_rd G70 (pj_fi G70 171 22).toInt (pj_fi G70 171 21).toInt := by rw [show pj_fi G70 171 22 = pj_fi G 171 22 from by rw [jG70.1 (171, 22) (by decide)], show pj_fi G70 171 21 = pj_fi G 171 21 from by rw [jG70.1 (171, 21) (by decide)]]; exact pj_rd_k (fun j => by rw [jG70.2.2 181 (by decide)]) (x1_ (by omega))
              refine pj_X_of (fun r h => pj_T_gi iG70 rfl rfl h) ?_
              show pj_X _ _ G70 93 [(3, .int y87), (0, .ref 171), (1, .int v1), (2, .int v2)] [.int (pj_fi G70 171 21), .ref 171] _
              rw [← hy78, pj_nm_e]
              refine pj_X_of (fun r h => pj_T_pf iG70 rfl rfl rfl h) ?_
              show pj_X _ _ (pj_wv G70 171 3 (.int y78)) 96 [(3, .int y87), (0, .ref 171), (1, .int v1), (2, .int v2)] [] _
              obtain ⟨G90, hG90⟩ : ∃ H, H = pj_wv G70 171 3 (.int y78) := ⟨_, rfl⟩
              have iG90 : pj_Inv G90 := by rw [hG90]; exact pj_Inv_wi iG70 (ci := 12) rfl (fun q hq => by cases hq; exact ⟨by show (0 : Int) ≤ _; omega, by show _ ≤ (8 : Int); omega⟩)
              have kG90 : pj_kpt kc_191x G0 G90 := by rw [hG90]; exact pj_kpt_v kG70 rfl
              rw [← hG90]
              rw [pj_nm_e]
              refine pj_X_of (fun r h => pj_R_to (G90, 98, [(3, .int y87), (0, .ref 171), (1, .int v1), (2, .int v2)], [.ref 171, .ref 171], 0, 0) 98 3 (fun _ => rfl) h) ?_
              refine pj_X_of (fun r h => pj_T_gi iG90 rfl rfl h) ?_
              show pj_X _ _ G90 101 [(3, .int y87), (0, .ref 171), (1, .int v1), (2, .int v2)] [.int (pj_fi G90 171 22), .ref 171] _
              rw [← hy77, pj_nm_e]
              refine pj_X_eqi (show pj_fi G90 171 22 = y77 from by rw [hG90, pj_fi_wv_ne _ _ _ _ _ _ (by decide)]; exact hy77.symm) ?_
              refine pj_X_of (fun r h => pj_T_pf iG90 rfl rfl rfl h) ?_
              show pj_X _ _ (pj_wv G90 171 4 (.int y77)) 104 [(3, .int y87), (0, .ref 171), (1, .int v1), (2, .int v2)] [] _
              obtain ⟨G91, hG91⟩ : ∃ H, H = pj_wv G90 171 4 (.int y77) := ⟨_, rfl⟩
              have iG91 : pj_Inv G91 := by rw [hG91]; exact pj_Inv_wi iG90 (ci := 12) rfl (fun q hq => by cases hq; exact ⟨by show (0 : Int) ≤ _; omega, by show _ ≤ (10 : Int); omega⟩)
              have kG91 : pj_kpt kc_191x G0 G91 := by rw [hG91]; exact pj_kpt_v kG90 rfl
              rw [← hG91]
              rw [pj_nm_e]
              refine pj_X_of (fun r h => pj_R_to (G91, 107, [(4, .int (Int32.ofInt 0)), (3, .int y87), (0, .ref 171), (1, .int v1), (2, .int v2)], [], 0, 0) 107 3 (fun _ => rfl) h) ?_
              have q92 : (pj_fi G91 171 30).toInt = y76.toInt := by rw [show pj_fi G91 171 30 = y76 from by rw [hG91, pj_fi_wv_ne _ _ _ _ _ _ (by decide)]; exact (by rw [hG90, pj_fi_wv_ne _ _ _ _ _ _ (by decide)]; exact hy76.symm)]
              have q93 : (pj_fi G91 171 22).toInt = y77.toInt := by rw [show pj_fi G91 171 22 = y77 from by rw [hG91, pj_fi_wv_ne _ _ _ _ _ _ (by decide)]; exact (by rw [hG90, pj_fi_wv_ne _ _ _ _ _ _ (by decide)]; exact hy77.symm)]
              have q94 : (pj_fi G91 171 21).toInt = y78.toInt := by rw [show pj_fi G91 171 21 = y78 from by rw [hG91, pj_fi_wv_ne _ _ _ _ _ _ (by decide)]; exact (by rw [hG90, pj_fi_wv_ne _ _ _ _ _ _ (by decide)]; exact hy78.symm)]
              have q95 : (pj_fi G91 171 3).toInt = y78.toInt := by rw [show pj_fi G91 171 3 = y78 from by rw [hG91, pj_fi_wv_ne _ _ _ _ _ _ (by decide)]; exact (by rw [hG90]; exact pj_fi_wi iG70.1 (ci := 12) rfl _)]
              have q96 : (pj_fi G91 171 4).toInt = y77.toInt := by rw [show pj_fi G91 171 4 = y77 from by rw [hG91]; exact pj_fi_wi iG90.1 (ci := 12) rfl _]
              have q97 : (pj_fi G91 171 30).toInt = y76.toInt := by rw [show pj_fi G91 171 30 = y76 from by rw [hG91, pj_fi_wv_ne _ _ _ _ _ _ (by decide)]; exact (by rw [hG90, pj_fi_wv_ne _ _ _ _ _ _ (by decide)]; exact hy76.symm)]
              have q98 : (pj_fi G91 171 22).toInt = y77.toInt := by rw [show pj_fi G91 171 22 = y77 from by rw [hG91, pj_fi_wv_ne _ _ _ _ _ _ (by decide)]; exact (by rw [hG90, pj_fi_wv_ne _ _ _ _ _ _ (by decide)]; exact hy77.symm)]
              have q99 : (pj_fi G91 171 21).toInt = y78.toInt := by rw [show pj_fi G91 171 21 = y78 from by rw [hG91, pj_fi_wv_ne _ _ _ _ _ _ (by decide)]; exact (by rw [hG90, pj_fi_wv_ne _ _ _ _ _ _ (by decide)]; exact hy78.symm)]
              have q100 : (pj_fi G91 171 3).toInt = y78.toInt := by rw [show pj_fi G91 171 3 = y78 from by rw [hG91, pj_fi_wv_ne _ _ _ _ _ _ (by decide)]; exact (by rw [hG90]; exact pj_fi_wi iG70.1 (ci := 12) rfl _)]
              have q101 : (pj_fi G91 171 4).toInt = y77.toInt := by rw [show pj_fi G91 171 4 = y77 from by rw [hG91]; exact pj_fi_wi iG90.1 (ci := 12) rfl _]
              have c102 : (pj_fi G91 171 4).toInt = (pj_fi G70 171 22).toInt := by omega
              have c103 : (pj_fi G91 171 3).toInt = (pj_fi G70 171 21).toInt := by omega
              exact pj_X_sub [(0, .ref 171), (1, .int v1), (2, .int v2), (3, .int y87), (4, .int (Int32.ofInt 0))] (show List.Nodup [0, 1, 2, 3, 4] by decide) ⟨rfl, rfl, rfl, rfl, rfl, trivial⟩ (ih.2 G91 iG91 kG91 v1 v2 y87 (Int32.ofInt 0) ⟨by omega, by omega⟩ ⟨by omega, by omega⟩ (pj_i32 _) ⟨by omega, by omega⟩ (by rw [c102, c103]; exact pj_rd_k (fun j => by rw [hG91, pj_ai_wv, hG90, pj_ai_wv]) rd89) (pj_ro_0 (by omega)) (by omega) (by omega) (by omega))
            | false =>
              rw [pj_cF]
              have ub88 := pj_u0_geF b88
              refine pj_X_of (fun r h => pj_R_ifF rfl b88 h) ?_
              refine pj_X_of (fun r h => pj_R_to (G70, 87, [(3, .int y87), (0, .ref 171), (1, .int v1), (2, .int v2)], [.int y87], 0, 0) 87 2 (fun _ => rfl) h) ?_
              have q104 : (pj_fi G70 171 30).toInt = y76.toInt := by rw [show pj_fi G70 171 30 = y76 from hy76.symm]
              have q105 : (pj_fi G70 171 22).toInt = y77.toInt := by rw [show pj_fi G70 171 22 = y77 from hy77.symm]
              have q106 : (pj_fi G70 171 21).toInt = y78.toInt := by rw [show pj_fi G70 171 21 = y78 from hy78.symm]
              have q107 : (pj_fi G70 171 3).toInt = y79.toInt := by rw [show pj_fi G70 171 3 = y79 from hy79.symm]
              have q108 : (pj_fi G70 171 4).toInt = y80.toInt := by rw [show pj_fi G70 171 4 = y80 from hy80.symm]
              have t109 : pj_kpt ([(171, 17)], [171], []) G G := pj_kpt_r _ _
              have t110 : pj_kpt ([(171, 17)], [171], []) G G70 := pj_kpt_t t109 (pj_kpt_s jG70 rfl)
              exact pj_X_rt rfl rfl ⟨_, rfl, iG70, kG70, pj_i32 _, ⟨pj_RI_k x0_ t110 rfl, by omega⟩, rfl⟩
          | false =>
            rw [pj_cF]
            have ub81 := pj_u0_eqF b81
            refine pj_X_of (fun r h => pj_R_ifF rfl b81 h) ?_
            refine pj_X_of (fun r h => pj_R_to (G70, 66, [(0, .ref 171), (1, .int v1), (2, .int v2)], [.ref 171], 0, 0) 66 2 (fun _ => rfl) h) ?_
            have q111 : (pj_fi G70 171 30).toInt = y76.toInt := by rw [show pj_fi G70 171 30 = y76 from hy76.symm]
            have q112 : (pj_fi G70 171 22).toInt = y77.toInt := by rw [show pj_fi G70 171 22 = y77 from hy77.symm]
            have q113 : (pj_fi G70 171 21).toInt = y78.toInt := by rw [show pj_fi G70 171 21 = y78 from hy78.symm]
            have q114 : (pj_fi G70 171 3).toInt = y79.toInt := by rw [show pj_fi G70 171 3 = y79 from hy79.symm]
            have q115 : (pj_fi G70 171 4).toInt = y80.toInt := by rw [show pj_fi G70 171 4 = y80 from hy80.symm]
            refine pj_X_ca (vs := [.ref 171]) rfl (fun _ => rfl) ⟨Nat.le_of_ble_eq_true rfl, Nat.le_of_ble_eq_true rfl, pj_T_rcv iG70 rfl⟩ ⟨rfl, rfl⟩ (pj_Y_up (by decide) (ct_190x G70 iG70 (by omega))) ?_
            rintro _ G117 ⟨y116, rfl, iG117, jG117, ry116, ey116, fy116⟩
            replace ey116 := ey116 _ rfl
            rw [← fy116, pj_bd_e]
            have kG117 : pj_kpt kc_191x G0 G117 := pj_kpt_t kG70 (pj_kpt_s jG117 rfl)
            have q118 : (pj_fi G117 171 30).toInt = (pj_fi G70 171 30).toInt := by rw [jG117.1 (171, 30) (by decide)]
            have q119 : (pj_fi G117 171 21).toInt = (pj_fi G70 171 21).toInt := by rw [jG117.1 (171, 21) (by decide)]
            have q120 : (pj_fi G117 171 3).toInt = (pj_fi G70 171 3).toInt := by rw [jG117.1 (171, 3) (by decide)]
            have q121 : (pj_fi G117 171 4).toInt = (pj_fi G70 171 4).toInt := by rw [jG117.1 (171, 4) (by decide)]
            obtain ⟨y122, hy122⟩ : ∃ z : Int32, z = pj_fi G117 171 30 := ⟨_, rfl⟩
            have ey122 : (pj_fi G117 171 30).toInt = y122.toInt := by rw [hy122]
            have ry122 : (0 : Int) ≤ y122.toInt ∧ y122.toInt ≤ 16 := by rw [hy122]; exact iG117.2.1 171 30 (0, 16) rfl
            obtain ⟨y123, hy123⟩ : ∃ z : Int32, z = pj_fi G117 171 22 := ⟨_, rfl⟩
            have ey123 : (pj_fi G117 171 22).toInt = y123.toInt := by rw [hy123]
            have ry123 : (0 : Int) ≤ y123.toInt ∧ y123.toInt ≤ 10 := by rw [hy123]; exact iG117.2.1 171 22 (0, 10) rfl
            obtain ⟨y124, hy124⟩ : ∃ z : Int32, z = pj_fi G117 171 21 := ⟨_, rfl⟩
            have ey124 : (pj_fi G117 171 21).toInt = y124.toInt := by rw [hy124]
            have ry124 : (0 : Int) ≤ y124.toInt ∧ y124.toInt ≤ 8 := by rw [hy124]; exact iG117.2.1 171 21 (0, 8) rfl
            obtain ⟨y125, hy125⟩ : ∃ z : Int32, z = pj_fi G117 171 3 := ⟨_, rfl⟩
            have ey125 : (pj_fi G117 171 3).toInt = y125.toInt := by rw [hy125]
            have ry125 : (0 : Int) ≤ y125.toInt ∧ y125.toInt ≤ 8 := by rw [hy125]; exact iG117.2.1 171 3 (0, 8) rfl
            obtain ⟨y126, hy126⟩ : ∃ z : Int32, z = pj_fi G117 171 4 := ⟨_, rfl⟩
            have ey126 : (pj_fi G117 171 4).toInt = y126.toInt := by rw [hy126]
            have ry126 : (0 : Int) ≤ y126.toInt ∧ y126.toInt ≤ 10 := by rw [hy126]; exact iG117.2.1 171 4 (0, 10) rfl
            show pj_X _ _ G117 69 [(0, .ref 171), (1, .int v1), (2, .int v2)] [.int y116] _
            refine pj_X_of (fun r h => pj_R_to (G117, 43, [(2, .int y116), (0, .ref 171), (1, .int v1)], [], 0, 0) 43 3 (fun _ => rfl) h) ?_
            have q127 : (pj_fi G117 171 30).toInt = y122.toInt := by rw [show pj_fi G117 171 30 = y122 from hy122.symm]
            have q128 : (pj_fi G117 171 22).toInt = y123.toInt := by rw [show pj_fi G117 171 22 = y123 from hy123.symm]
            have q129 : (pj_fi G117 171 21).toInt = y124.toInt := by rw [show pj_fi G117 171 21 = y124 from hy124.symm]
            have q130 : (pj_fi G117 171 3).toInt = y125.toInt := by rw [show pj_fi G117 171 3 = y125 from hy125.symm]
            have q131 : (pj_fi G117 171 4).toInt = y126.toInt := by rw [show pj_fi G117 171 4 = y126 from hy126.symm]
            have t132 : pj_kpt ([(171, 17), (171, 22), (171, 23)], [171, 181], [181]) G G := pj_kpt_r _ _
            have t133 : pj_kpt ([(171, 17), (171, 22), (171, 23)], [171, 181], [181]) G G70 := pj_kpt_t t132 (pj_kpt_s jG70 rfl)
            have t134 : pj_kpt ([(171, 17), (171, 22), (171, 23)], [171, 181], [181]) G G117 := pj_kpt_t t133 (pj_kpt_s jG117 rfl)
            have rd135 : 1 ≤ v2.toInt → pj_rd G70 (pj_fi G70 171 22).toInt (pj_fi G70 171 21).toInt := fun q => by rw [show pj_fi G70 171 22 = pj_fi G 171 22 from by rw [jG70.1 (171, 22) (by decide)], show pj_fi G70 171 21 = pj_fi G 171 21 from by rw [jG70.1 (171, 21) (by decide)]]; exact pj_rd_k (fun j => by rw [jG70.2.2 181 (by decide)]) (x1_ q)
            exact pj_X_sub [(0, .ref 171), (1, .int v1), (2, .int y116)] (show List.Nodup [0, 1, 2] by decide) ⟨rfl, rfl, rfl, trivial⟩ (ih.1 G117 iG117 kG117 v1 y116 ⟨by omega, by omega⟩ ⟨by omega, by omega⟩ (pj_RI_k x0_ t134 rfl) (fun q => (ey116.2 q).2 (rd135 (by omega))) (by omega) (by omega) (by omega))
    · intro G hI hK v1 v2 v3 v4 rv1 rv2 rv3 rv4 x0_ x1_ x2_ x3_ hm
      rw [L_192x_s1]
      obtain ⟨y136, hy136⟩ : ∃ z : Int32, z = pj_fi G 171 30 := ⟨_, rfl⟩
      have ey136 : (pj_fi G 171 30).toInt = y136.toInt := by rw [hy136]
      have ry136 : (0 : Int) ≤ y136.toInt ∧ y136.toInt ≤ 16 := by rw [hy136]; exact hI.2.1 171 30 (0, 16) rfl
      obtain ⟨y137, hy137⟩ : ∃ z : Int32, z = pj_fi G 171 22 := ⟨_, rfl⟩
      have ey137 : (pj_fi G 171 22).toInt = y137.toInt := by rw [hy137]
      have ry137 : (0 : Int) ≤ y137.toInt ∧ y137.toInt ≤ 10 := by rw [hy137]; exact hI.2.1 171 22 (0, 10) rfl
      obtain ⟨y138, hy138⟩ : ∃ z : Int32, z = pj_fi G 171 21 := ⟨_, rfl⟩
      have ey138 : (pj_fi G 171 21).toInt = y138.toInt := by rw [hy138]
      have ry138 : (0 : Int) ≤ y138.toInt ∧ y138.toInt ≤ 8 := by rw [hy138]; exact hI.2.1 171 21 (0, 8) rfl
      obtain ⟨y139, hy139⟩ : ∃ z : Int32, z = pj_fi G 171 3 := ⟨_, rfl⟩
      have ey139 : (pj_fi G 171 3).toInt = y139.toInt := by rw [hy139]
      have ry139 : (0 : Int) ≤ y139.toInt ∧ y139.toInt ≤ 8 := by rw [hy139]; exact hI.2.1 171 3 (0, 8) rfl
      obtain ⟨y140, hy140⟩ : ∃ z : Int32, z = pj_fi G 171 4 := ⟨_, rfl⟩
      have ey140 : (pj_fi G 171 4).toInt = y140.toInt := by rw [hy140]
      have ry140 : (0 : Int) ≤ y140.toInt ∧ y140.toInt ≤ 10 := by rw [hy140]; exact hI.2.1 171 4 (0, 10) rfl
      refine pj_X_of (fun r h => pj_R_to (G, 110, [(0, .ref 171), (1, .int v1), (2, .int v2), (3, .int v3), (4, .int v4)], [.ref 171, .int v4], 0, 0) 110 3 (fun _ => rfl) h) ?_
      refine pj_X_of (fun r h => pj_T_gi hI rfl rfl h) ?_
      show pj_X _ _ G 113 [(0, .ref 171), (1, .int v1), (2, .int v2), (3, .int v3), (4, .int v4)] [.int (pj_fi G 171 4), .int v4] _
      rw [← hy140, pj_nm_e]
      cases b141 : pj_c1 .ge v4 y140 with
      | true =>
        rw [pj_cT]
        have ub141 := pj_u_geT b141
        refine pj_X_of (fun r h => pj_R_icT 192 rfl rfl b141 h) ?_
        refine pj_X_of (fun r h => pj_R_to (G, 194, [(0, .ref 171), (1, .int v1), (2, .int v2), (3, .int v3), (4, .int v4)], [.int (Int32.ofInt 0), .ref 171], 0, 0) 194 3 (fun _ => rfl) h) ?_
        refine pj_X_of (fun r h => pj_T_pf hI rfl rfl rfl h) ?_
        show pj_X _ _ (pj_wv G 171 5 (.int (Int32.ofInt 0))) 197 [(0, .ref 171), (1, .int v1), (2, .int v2), (3, .int v3), (4, .int v4)] [] _
        obtain ⟨G142, hG142⟩ : ∃ H, H = pj_wv G 171 5 (.int (Int32.ofInt 0)) := ⟨_, rfl⟩
        have iG142 : pj_Inv G142 := by rw [hG142]; exact pj_Inv_wi hI (ci := 12) rfl (fun q hq => by cases hq; exact ⟨by show (0 : Int) ≤ _; omega, by show _ ≤ (6 : Int); omega⟩)
        have kG142 : pj_kpt kc_191x G0 G142 := by rw [hG142]; exact pj_kpt_v hK rfl
        rw [← hG142]
        rw [pj_nm_e]
        refine pj_X_of (fun r h => pj_R_to (G142, 199, [(0, .ref 171), (1, .int v1), (2, .int v2), (3, .int v3), (4, .int v4)], [.int (Int32.ofInt 0), .ref 171], 0, 0) 199 3 (fun _ => rfl) h) ?_
        refine pj_X_of (fun r h => pj_T_pf iG142 rfl rfl rfl h) ?_
        show pj_X _ _ (pj_wv G142 171 6 (.int (Int32.ofInt 0))) 202 [(0, .ref 171), (1, .int v1), (2, .int v2), (3, .int v3), (4, .int v4)] [] _
        obtain ⟨G143, hG143⟩ : ∃ H, H = pj_wv G142 171 6 (.int (Int32.ofInt 0)) := ⟨_, rfl⟩
        have iG143 : pj_Inv G143 := by rw [hG143]; exact pj_Inv_wi iG142 (ci := 12) rfl (fun q hq => by cases hq; exact ⟨by show (0 : Int) ≤ _; omega, by show _ ≤ (6 : Int); omega⟩)
        have kG143 : pj_kpt kc_191x G0 G143 := by rw [hG143]; exact pj_kpt_v kG142 rfl
        rw [← hG143]
        rw [pj_nm_e]
        refine pj_X_of (fun r h => pj_R_to (G143, 203, [(0, .ref 171), (1, .int v1), (2, .int v2), (3, .int v3), (4, .int v4)], [.ref 171], 0, 0) 203 2 (fun _ => rfl) h) ?_
        refine pj_X_of (fun r h => pj_T_gr iG143 rfl rfl rfl h) ?_
        refine pj_X_of (fun r h => pj_R_to (G143, 209, [(0, .ref 171), (1, .int v1), (2, .int v2), (3, .int v3), (4, .int v4)], [.int (Int32.ofInt 0), .int ((Int8.ofInt 30).toInt32), .ref 179], 0, 0) 209 3 (fun _ => rfl) h) ?_
        refine pj_X_of (fun r h => pj_T_is iG143 rfl rfl (by omega) (by omega) h) ?_
        show pj_X _ _ (pj_wa G143 179 ((Int8.ofInt 30).toInt32).toInt.toNat (Int32.ofInt 0)) 210 [(0, .ref 171), (1, .int v1), (2, .int v2), (3, .int v3), (4, .int v4)] [] _
        obtain ⟨G144, hG144⟩ : ∃ H, H = pj_wa G143 179 ((Int8.ofInt 30).toInt32).toInt.toNat (Int32.ofInt 0) := ⟨_, rfl⟩
        have iG144 : pj_Inv G144 := by rw [hG144]; exact pj_Inv_wa iG143 rfl (fun q hq => by cases hq) (fun n hn => ⟨fun h1 => ⟨fun h2 => by omega, fun h2 => by omega⟩, fun h1 => by omega⟩)
        have kG144 : pj_kpt kc_191x G0 G144 := by rw [hG144]; exact pj_kpt_a kG143 rfl
        rw [← hG144]
        rw [pj_nm_e]
        refine pj_X_of (fun r h => pj_R_to (G144, 211, [(0, .ref 171), (1, .int v1), (2, .int v2), (3, .int v3), (4, .int v4)], [.ref 171], 0, 0) 211 2 (fun _ => rfl) h) ?_
        refine pj_X_of (fun r h => pj_T_gr iG144 rfl rfl rfl h) ?_
        refine pj_X_of (fun r h => pj_R_to (G144, 217, [(0, .ref 171), (1, .int v1), (2, .int v2), (3, .int v3), (4, .int v4)], [.int (Int32.ofInt 0), .int ((Int8.ofInt 31).toInt32), .ref 179], 0, 0) 217 3 (fun _ => rfl) h) ?_
        refine pj_X_of (fun r h => pj_T_is iG144 rfl rfl (by omega) (by omega) h) ?_
        show pj_X _ _ (pj_wa G144 179 ((Int8.ofInt 31).toInt32).toInt.toNat (Int32.ofInt 0)) 218 [(0, .ref 171), (1, .int v1), (2, .int v2), (3, .int v3), (4, .int v4)] [] _
        obtain ⟨G145, hG145⟩ : ∃ H, H = pj_wa G144 179 ((Int8.ofInt 31).toInt32).toInt.toNat (Int32.ofInt 0) := ⟨_, rfl⟩
        have iG145 : pj_Inv G145 := by rw [hG145]; exact pj_Inv_wa iG144 rfl (fun q hq => by cases hq) (fun n hn => ⟨fun h1 => ⟨fun h2 => by omega, fun h2 => by omega⟩, fun h1 => by omega⟩)
        have kG145 : pj_kpt kc_191x G0 G145 := by rw [hG145]; exact pj_kpt_a kG144 rfl
        rw [← hG145]
        rw [pj_nm_e]
        refine pj_X_of (fun r h => pj_R_to (G145, 219, [(0, .ref 171), (1, .int v1), (2, .int v2), (3, .int v3), (4, .int v4)], [.ref 171], 0, 0) 219 2 (fun _ => rfl) h) ?_
        have q146 : (pj_fi G145 171 30).toInt = y136.toInt := by rw [show pj_fi G145 171 30 = y136 from by rw [hG145, pj_fi_wa]; exact (by rw [hG144, pj_fi_wa]; exact (by rw [hG143, pj_fi_wv_ne _ _ _ _ _ _ (by decide)]; exact (by rw [hG142, pj_fi_wv_ne _ _ _ _ _ _ (by decide)]; exact hy136.symm)))]
        have q147 : (pj_fi G145 171 22).toInt = y137.toInt := by rw [show pj_fi G145 171 22 = y137 from by rw [hG145, pj_fi_wa]; exact (by rw [hG144, pj_fi_wa]; exact (by rw [hG143, pj_fi_wv_ne _ _ _ _ _ _ (by decide)]; exact (by rw [hG142, pj_fi_wv_ne _ _ _ _ _ _ (by decide)]; exact hy137.symm)))]
        have q148 : (pj_fi G145 171 21).toInt = y138.toInt := by rw [show pj_fi G145 171 21 = y138 from by rw [hG145, pj_fi_wa]; exact (by rw [hG144, pj_fi_wa]; exact (by rw [hG143, pj_fi_wv_ne _ _ _ _ _ _ (by decide)]; exact (by rw [hG142, pj_fi_wv_ne _ _ _ _ _ _ (by decide)]; exact hy138.symm)))]
        have q149 : (pj_fi G145 171 3).toInt = y139.toInt := by rw [show pj_fi G145 171 3 = y139 from by rw [hG145, pj_fi_wa]; exact (by rw [hG144, pj_fi_wa]; exact (by rw [hG143, pj_fi_wv_ne _ _ _ _ _ _ (by decide)]; exact (by rw [hG142, pj_fi_wv_ne _ _ _ _ _ _ (by decide)]; exact hy139.symm)))]
        have q150 : (pj_fi G145 171 4).toInt = y140.toInt := by rw [show pj_fi G145 171 4 = y140 from by rw [hG145, pj_fi_wa]; exact (by rw [hG144, pj_fi_wa]; exact (by rw [hG143, pj_fi_wv_ne _ _ _ _ _ _ (by decide)]; exact (by rw [hG142, pj_fi_wv_ne _ _ _ _ _ _ (by decide)]; exact hy140.symm)))]
        refine pj_X_ca (vs := [.ref 171]) rfl (fun _ => rfl) ⟨Nat.le_of_ble_eq_true rfl, Nat.le_of_ble_eq_true rfl, pj_T_rcv iG145 rfl⟩ ⟨rfl, rfl⟩ (pj_Y_up (by decide) (ct_192x G145 iG145)) ?_
        rintro _ G152 ⟨rfl, iG152, jG152, eG152, fy151⟩
        rw [← fy151, pj_nm_e]
        have kG152 : pj_kpt kc_191x G0 G152 := pj_kpt_t kG145 (pj_kpt_s jG152 rfl)
        have q153 : (pj_fi G152 171 22).toInt = (pj_fi G145 171 22).toInt := by rw [jG152.1 (171, 22) (by decide)]
        have q154 : (pj_fi G152 171 21).toInt = (pj_fi G145 171 21).toInt := by rw [jG152.1 (171, 21) (by decide)]
        have q155 : (pj_fi G152 171 3).toInt = (pj_fi G145 171 3).toInt := by rw [jG152.1 (171, 3) (by decide)]
        have q156 : (pj_fi G152 171 4).toInt = (pj_fi G145 171 4).toInt := by rw [jG152.1 (171, 4) (by decide)]
        obtain ⟨y157, hy157⟩ : ∃ z : Int32, z = pj_fi G152 171 30 := ⟨_, rfl⟩
        have ey157 : (pj_fi G152 171 30).toInt = y157.toInt := by rw [hy157]
        have ry157 : (0 : Int) ≤ y157.toInt ∧ y157.toInt ≤ 16 := by rw [hy157]; exact iG152.2.1 171 30 (0, 16) rfl
        obtain ⟨y158, hy158⟩ : ∃ z : Int32, z = pj_fi G152 171 22 := ⟨_, rfl⟩
        have ey158 : (pj_fi G152 171 22).toInt = y158.toInt := by rw [hy158]
        have ry158 : (0 : Int) ≤ y158.toInt ∧ y158.toInt ≤ 10 := by rw [hy158]; exact iG152.2.1 171 22 (0, 10) rfl
        obtain ⟨y159, hy159⟩ : ∃ z : Int32, z = pj_fi G152 171 21 := ⟨_, rfl⟩
        have ey159 : (pj_fi G152 171 21).toInt = y159.toInt := by rw [hy159]
        have ry159 : (0 : Int) ≤ y159.toInt ∧ y159.toInt ≤ 8 := by rw [hy159]; exact iG152.2.1 171 21 (0, 8) rfl
        obtain ⟨y160, hy160⟩ : ∃ z : Int32, z = pj_fi G152 171 3 := ⟨_, rfl⟩
        have ey160 : (pj_fi G152 171 3).toInt = y160.toInt := by rw [hy160]
        have ry160 : (0 : Int) ≤ y160.toInt ∧ y160.toInt ≤ 8 := by rw [hy160]; exact iG152.2.1 171 3 (0, 8) rfl
        obtain ⟨y161, hy161⟩ : ∃ z : Int32, z = pj_fi G152 171 4 := ⟨_, rfl⟩
        have ey161 : (pj_fi G152 171 4).toInt = y161.toInt := by rw [hy161]
        have ry161 : (0 : Int) ≤ y161.toInt ∧ y161.toInt ≤ 10 := by rw [hy161]; exact iG152.2.1 171 4 (0, 10) rfl
        show pj_X _ _ G152 222 [(0, .ref 171), (1, .int v1), (2, .int v2), (3, .int v3), (4, .int v4)] [] _
        refine pj_X_of (fun r h => pj_R_to (G152, 223, [(0, .ref 171), (1, .int v1), (2, .int v2), (3, .int v3), (4, .int v4)], [.ref 171], 0, 0) 223 2 (fun _ => rfl) h) ?_
        refine pj_X_of (fun r h => pj_T_gi iG152 rfl rfl h) ?_
        show pj_X _ _ G152 226 [(0, .ref 171), (1, .int v1), (2, .int v2), (3, .int v3), (4, .int v4)] [.int (pj_fi G152 171 4)] _
        rw [← hy161, pj_nm_e]
        have q162 : (pj_fi G152 171 30).toInt = y157.toInt := by rw [show pj_fi G152 171 30 = y157 from hy157.symm]
        have q163 : (pj_fi G152 171 22).toInt = y158.toInt := by rw [show pj_fi G152 171 22 = y158 from hy158.symm]
        have q164 : (pj_fi G152 171 21).toInt = y159.toInt := by rw [show pj_fi G152 171 21 = y159 from hy159.symm]
        have q165 : (pj_fi G152 171 3).toInt = y160.toInt := by rw [show pj_fi G152 171 3 = y160 from hy160.symm]
        have q166 : (pj_fi G152 171 4).toInt = y161.toInt := by rw [show pj_fi G152 171 4 = y161 from hy161.symm]
        have hro : pj_ro G152 (pj_fi G152 171 4).toInt (pj_fi G152 171 3).toInt := by rw [show pj_fi G152 171 4 = pj_fi G 171 4 from by rw [jG152.1 (171, 4) (by decide), hG145, pj_fi_wa, hG144, pj_fi_wa, hG143, pj_fi_wv_ne _ _ _ _ _ _ (by decide), hG142, pj_fi_wv_ne _ _ _ _ _ _ (by decide)], show pj_fi G152 171 3 = pj_fi G 171 3 from by rw [jG152.1 (171, 3) (by decide), hG145, pj_fi_wa, hG144, pj_fi_wa, hG143, pj_fi_wv_ne _ _ _ _ _ _ (by decide), hG142, pj_fi_wv_ne _ _ _ _ _ _ (by decide)], show (pj_fi G 171 4).toInt = v4.toInt by omega]; exact pj_ro_k (fun j => by rw [jG152.2.2 173 (by decide), hG145, pj_ai_wa_ne _ _ _ _ _ _ (by decide), hG144, pj_ai_wa_ne _ _ _ _ _ _ (by decide), hG143, pj_ai_wv, hG142, pj_ai_wv]) (fun j => by rw [jG152.2.2 174 (by decide), hG145, pj_ai_wa_ne _ _ _ _ _ _ (by decide), hG144, pj_ai_wa_ne _ _ _ _ _ _ (by decide), hG143, pj_ai_wv, hG142, pj_ai_wv]) x1_
        exact pj_X_rt rfl rfl ⟨_, rfl, iG152, kG152, pj_i32 _, ⟨pj_RI_of hro p0_ (kG152.1 (171, 26) (by decide)) (fun j => kG152.2.2 182 (by decide) j), by omega⟩, rfl⟩
      | false =>
        rw [pj_cF]
        have ub141 := pj_u_geF b141
        refine pj_X_of (fun r h => pj_R_icF rfl b141 h) ?_
        have hq := x0_ v4.toInt.toNat (by omega)
        refine pj_X_of (fun r h => pj_R_to (G, 117, [(0, .ref 171), (1, .int v1), (2, .int v2), (3, .int v3), (4, .int v4)], [.ref 171], 0, 0) 117 2 (fun _ => rfl) h) ?_
        refine pj_X_of (fun r h => pj_T_gr hI rfl rfl rfl h) ?_
        refine pj_X_of (fun r h => pj_R_to (G, 123, [(0, .ref 171), (1, .int v1), (2, .int v2), (3, .int v3), (4, .int v4)], [.ref 171, .int v4, .ref 173], 0, 0) 123 3 (fun _ => rfl) h) ?_
        refine pj_X_of (fun r h => pj_T_gr hI rfl rfl rfl h) ?_
        refine pj_X_of (fun r h => pj_R_to (G, 130, [(0, .ref 171), (1, .int v1), (2, .int v2), (3, .int v3), (4, .int v4)], [.int ((Int32.ofInt 4) * v4), .ref 181, .int v4, .ref 173], 0, 0) 130 4 (fun _ => rfl) h) ?_
        obtain ⟨z167, hz167⟩ : ∃ z : Int32, z = (Int32.ofInt 4) * v4 := ⟨_, rfl⟩
        refine pj_X_eqi hz167.symm ?_
        rw [← hz167, pj_nm_e]
        have fz167_0 : z167.toInt = 4 * v4.toInt := by rw [hz167]; exact pj_mulL (by decide) (by omega) (by omega)
        refine pj_X_of (fun r h => pj_T_il hI rfl rfl (by omega) (by omega) h) ?_
        show pj_X _ _ G 131 [(0, .ref 171), (1, .int v1), (2, .int v2), (3, .int v3), (4, .int v4)] [.int (pj_ai G 181 z167.toInt.toNat), .int v4, .ref 173] _
        obtain ⟨z168, hz168⟩ : ∃ z : Int32, z = pj_ai G 181 z167.toInt.toNat := ⟨_, rfl⟩
        refine pj_X_eqi hz168.symm ?_
        rw [← hz168, pj_nm_e]
        have ez168 : (pj_ai G 181 z167.toInt.toNat).toInt = z168.toInt := by rw [hz168]
        have fz168_0 : (-1 : Int) ≤ z168.toInt ∧ z168.toInt ≤ 99 ∧ (z168.toInt ≤ -1 ∨ -1 ≤ z168.toInt) := by rw [hz168]; exact hI.2.2.1 181 (40, -1, 99, -1, -1) rfl _ (by show _ < 40; omega)
        have k169 : z168.toInt = (pj_ai G 181 (4 * v4.toInt.toNat)).toInt := by rw [hz168, show z167.toInt.toNat = 4 * v4.toInt.toNat by omega]
        refine pj_X_of (fun r h => pj_T_is hI rfl rfl (by omega) (by omega) h) ?_
        show pj_X _ _ (pj_wa G 173 v4.toInt.toNat z168) 132 [(0, .ref 171), (1, .int v1), (2, .int v2), (3, .int v3), (4, .int v4)] [] _
        obtain ⟨G170, hG170⟩ : ∃ H, H = pj_wa G 173 v4.toInt.toNat z168 := ⟨_, rfl⟩
        have iG170 : pj_Inv G170 := by rw [hG170]; exact pj_Inv_wa hI rfl (fun q hq => by cases hq; exact ⟨by show (0 : Int) ≤ _; omega, by show _ ≤ (7 : Int); omega, by show _ ≤ (0 : Int) ∨ (0 : Int) ≤ _; omega⟩) (fun n hn => by cases hn)
        have kG170 : pj_kpt kc_191x G0 G170 := by rw [hG170]; exact pj_kpt_a hK rfl
        rw [← hG170]
        rw [pj_nm_e]
        refine pj_X_of (fun r h => pj_R_to (G170, 133, [(0, .ref 171), (1, .int v1), (2, .int v2), (3, .int v3), (4, .int v4)], [.ref 171], 0, 0) 133 2 (fun _ => rfl) h) ?_
        refine pj_X_of (fun r h => pj_T_gr iG170 rfl rfl rfl h) ?_
        refine pj_X_of (fun r h => pj_R_to (G170, 139, [(0, .ref 171), (1, .int v1), (2, .int v2), (3, .int v3), (4, .int v4)], [.ref 171, .int v4, .ref 174], 0, 0) 139 3 (fun _ => rfl) h) ?_
        refine pj_X_of (fun r h => pj_T_gr iG170 rfl rfl rfl h) ?_
        refine pj_X_of (fun r h => pj_R_to (G170, 146, [(0, .ref 171), (1, .int v1), (2, .int v2), (3, .int v3), (4, .int v4)], [.int ((Int32.ofInt 4) * v4), .ref 181, .int v4, .ref 174], 0, 0) 146 4 (fun _ => rfl) h) ?_
        refine pj_X_eqi hz167.symm ?_
        refine pj_X_of (fun r h => pj_R_to (G170, 148, [(0, .ref 171), (1, .int v1), (2, .int v2), (3, .int v3), (4, .int v4)], [.int (z167 + (Int32.ofInt 1)), .ref 181, .int v4, .ref 174], 0, 0) 148 3 (fun _ => rfl) h) ?_
        obtain ⟨z171, hz171⟩ : ∃ z : Int32, z = z167 + (Int32.ofInt 1) := ⟨_, rfl⟩
        refine pj_X_eqi hz171.symm ?_
        rw [← hz171, pj_nm_e]
        have fz171_0 : z171.toInt = z167.toInt + (Int32.ofInt 1).toInt := by rw [hz171]; exact pj_addI (by have := pj_i32 z167; have := pj_i32 (Int32.ofInt 1); omega) (by have := pj_i32 z167; have := pj_i32 (Int32.ofInt 1); omega)
        refine pj_X_of (fun r h => pj_T_il iG170 rfl rfl (by omega) (by omega) h) ?_
        show pj_X _ _ G170 149 [(0, .ref 171), (1, .int v1), (2, .int v2), (3, .int v3), (4, .int v4)] [.int (pj_ai G170 181 z171.toInt.toNat), .int v4, .ref 174] _
        obtain ⟨z172, hz172⟩ : ∃ z : Int32, z = pj_ai G170 181 z171.toInt.toNat := ⟨_, rfl⟩
        refine pj_X_eqi hz172.symm ?_
        rw [← hz172, pj_nm_e]
        have ez172 : (pj_ai G170 181 z171.toInt.toNat).toInt = z172.toInt := by rw [hz172]
        have fz172_0 : (-1 : Int) ≤ z172.toInt ∧ z172.toInt ≤ 99 ∧ (z172.toInt ≤ -1 ∨ -1 ≤ z172.toInt) := by rw [hz172]; exact iG170.2.2.1 181 (40, -1, 99, -1, -1) rfl _ (by show _ < 40; omega)
        have k173 : z172.toInt = (pj_ai G 181 (4 * v4.toInt.toNat + 1)).toInt := by rw [hz172, hG170, pj_ai_wa_ne _ _ _ _ _ _ (by decide), show z171.toInt.toNat = 4 * v4.toInt.toNat + 1 by omega]
        refine pj_X_of (fun r h => pj_T_is iG170 rfl rfl (by omega) (by omega) h) ?_
        show pj_X _ _ (pj_wa G170 174 v4.toInt.toNat z172) 150 [(0, .ref 171), (1, .int v1), (2, .int v2), (3, .int v3), (4, .int v4)] [] _
        obtain ⟨G174, hG174⟩ : ∃ H, H = pj_wa G170 174 v4.toInt.toNat z172 := ⟨_, rfl⟩
        have iG174 : pj_Inv G174 := by rw [hG174]; exact pj_Inv_wa iG170 rfl (fun q hq => by cases hq; exact ⟨by show (0 : Int) ≤ _; omega, by show _ ≤ (7 : Int); omega, by show _ ≤ (0 : Int) ∨ (0 : Int) ≤ _; omega⟩) (fun n hn => by cases hn)
        have kG174 : pj_kpt kc_191x G0 G174 := by rw [hG174]; exact pj_kpt_a kG170 rfl
        rw [← hG174]
        rw [pj_nm_e]
        refine pj_X_of (fun r h => pj_R_to (G174, 151, [(0, .ref 171), (1, .int v1), (2, .int v2), (3, .int v3), (4, .int v4)], [.ref 171], 0, 0) 151 2 (fun _ => rfl) h) ?_
        refine pj_X_of (fun r h => pj_T_gr iG174 rfl rfl rfl h) ?_
        refine pj_X_of (fun r h => pj_R_to (G174, 157, [(0, .ref 171), (1, .int v1), (2, .int v2), (3, .int v3), (4, .int v4)], [.ref 171, .int v4, .ref 175], 0, 0) 157 3 (fun _ => rfl) h) ?_
        refine pj_X_of (fun r h => pj_T_gr iG174 rfl rfl rfl h) ?_
        refine pj_X_of (fun r h => pj_R_to (G174, 164, [(0, .ref 171), (1, .int v1), (2, .int v2), (3, .int v3), (4, .int v4)], [.int ((Int32.ofInt 4) * v4), .ref 181, .int v4, .ref 175], 0, 0) 164 4 (fun _ => rfl) h) ?_
        refine pj_X_eqi hz167.symm ?_
        refine pj_X_of (fun r h => pj_R_to (G174, 166, [(0, .ref 171), (1, .int v1), (2, .int v2), (3, .int v3), (4, .int v4)], [.int (z167 + (Int32.ofInt 2)), .ref 181, .int v4, .ref 175], 0, 0) 166 3 (fun _ => rfl) h) ?_
        obtain ⟨z175, hz175⟩ : ∃ z : Int32, z = z167 + (Int32.ofInt 2) := ⟨_, rfl⟩
        refine pj_X_eqi hz175.symm ?_
        rw [← hz175, pj_nm_e]
        have fz175_0 : z175.toInt = z167.toInt + (Int32.ofInt 2).toInt := by rw [hz175]; exact pj_addI (by have := pj_i32 z167; have := pj_i32 (Int32.ofInt 2); omega) (by have := pj_i32 z167; have := pj_i32 (Int32.ofInt 2); omega)
        refine pj_X_of (fun r h => pj_T_il iG174 rfl rfl (by omega) (by omega) h) ?_
        show pj_X _ _ G174 167 [(0, .ref 171), (1, .int v1), (2, .int v2), (3, .int v3), (4, .int v4)] [.int (pj_ai G174 181 z175.toInt.toNat), .int v4, .ref 175] _
        obtain ⟨z176, hz176⟩ : ∃ z : Int32, z = pj_ai G174 181 z175.toInt.toNat := ⟨_, rfl⟩
        refine pj_X_eqi hz176.symm ?_
        rw [← hz176, pj_nm_e]
        have ez176 : (pj_ai G174 181 z175.toInt.toNat).toInt = z176.toInt := by rw [hz176]
        have fz176_0 : (-1 : Int) ≤ z176.toInt ∧ z176.toInt ≤ 99 ∧ (z176.toInt ≤ -1 ∨ -1 ≤ z176.toInt) := by rw [hz176]; exact iG174.2.2.1 181 (40, -1, 99, -1, -1) rfl _ (by show _ < 40; omega)
        have k177 : z176.toInt = (pj_ai G 181 (4 * v4.toInt.toNat + 2)).toInt := by rw [hz176, hG174, pj_ai_wa_ne _ _ _ _ _ _ (by decide), hG170, pj_ai_wa_ne _ _ _ _ _ _ (by decide), show z175.toInt.toNat = 4 * v4.toInt.toNat + 2 by omega]
        refine pj_X_of (fun r h => pj_T_is iG174 rfl rfl (by omega) (by omega) h) ?_
        show pj_X _ _ (pj_wa G174 175 v4.toInt.toNat z176) 168 [(0, .ref 171), (1, .int v1), (2, .int v2), (3, .int v3), (4, .int v4)] [] _
        obtain ⟨G178, hG178⟩ : ∃ H, H = pj_wa G174 175 v4.toInt.toNat z176 := ⟨_, rfl⟩
        have iG178 : pj_Inv G178 := by rw [hG178]; exact pj_Inv_wa iG174 rfl (fun q hq => by cases hq; exact ⟨by show (0 : Int) ≤ _; omega, by show _ ≤ (99 : Int); omega, by show _ ≤ (0 : Int) ∨ (0 : Int) ≤ _; omega⟩) (fun n hn => by cases hn)
        have kG178 : pj_kpt kc_191x G0 G178 := by rw [hG178]; exact pj_kpt_a kG174 rfl
        rw [← hG178]
        rw [pj_nm_e]
        refine pj_X_of (fun r h => pj_R_to (G178, 169, [(0, .ref 171), (1, .int v1), (2, .int v2), (3, .int v3), (4, .int v4)], [.ref 171], 0, 0) 169 2 (fun _ => rfl) h) ?_
        refine pj_X_of (fun r h => pj_T_gr iG178 rfl rfl rfl h) ?_
        refine pj_X_of (fun r h => pj_R_to (G178, 175, [(0, .ref 171), (1, .int v1), (2, .int v2), (3, .int v3), (4, .int v4)], [.ref 171, .int v4, .ref 176], 0, 0) 175 3 (fun _ => rfl) h) ?_
        refine pj_X_of (fun r h => pj_T_gr iG178 rfl rfl rfl h) ?_
        refine pj_X_of (fun r h => pj_R_to (G178, 182, [(0, .ref 171), (1, .int v1), (2, .int v2), (3, .int v3), (4, .int v4)], [.int ((Int32.ofInt 4) * v4), .ref 181, .int v4, .ref 176], 0, 0) 182 4 (fun _ => rfl) h) ?_
        refine pj_X_eqi hz167.symm ?_
        refine pj_X_of (fun r h => pj_R_to (G178, 184, [(0, .ref 171), (1, .int v1), (2, .int v2), (3, .int v3), (4, .int v4)], [.int (z167 + (Int32.ofInt 3)), .ref 181, .int v4, .ref 176], 0, 0) 184 3 (fun _ => rfl) h) ?_
        obtain ⟨z179, hz179⟩ : ∃ z : Int32, z = z167 + (Int32.ofInt 3) := ⟨_, rfl⟩
        refine pj_X_eqi hz179.symm ?_
        rw [← hz179, pj_nm_e]
        have fz179_0 : z179.toInt = z167.toInt + (Int32.ofInt 3).toInt := by rw [hz179]; exact pj_addI (by have := pj_i32 z167; have := pj_i32 (Int32.ofInt 3); omega) (by have := pj_i32 z167; have := pj_i32 (Int32.ofInt 3); omega)
        refine pj_X_of (fun r h => pj_T_il iG178 rfl rfl (by omega) (by omega) h) ?_
        show pj_X _ _ G178 185 [(0, .ref 171), (1, .int v1), (2, .int v2), (3, .int v3), (4, .int v4)] [.int (pj_ai G178 181 z179.toInt.toNat), .int v4, .ref 176] _
        obtain ⟨z180, hz180⟩ : ∃ z : Int32, z = pj_ai G178 181 z179.toInt.toNat := ⟨_, rfl⟩
        refine pj_X_eqi hz180.symm ?_
        rw [← hz180, pj_nm_e]
        have ez180 : (pj_ai G178 181 z179.toInt.toNat).toInt = z180.toInt := by rw [hz180]
        have fz180_0 : (-1 : Int) ≤ z180.toInt ∧ z180.toInt ≤ 99 ∧ (z180.toInt ≤ -1 ∨ -1 ≤ z180.toInt) := by rw [hz180]; exact iG178.2.2.1 181 (40, -1, 99, -1, -1) rfl _ (by show _ < 40; omega)
        have k181 : z180.toInt = (pj_ai G 181 (4 * v4.toInt.toNat + 3)).toInt := by rw [hz180, hG178, pj_ai_wa_ne _ _ _ _ _ _ (by decide), hG174, pj_ai_wa_ne _ _ _ _ _ _ (by decide), hG170, pj_ai_wa_ne _ _ _ _ _ _ (by decide), show z179.toInt.toNat = 4 * v4.toInt.toNat + 3 by omega]
        refine pj_X_of (fun r h => pj_T_is iG178 rfl rfl (by omega) (by omega) h) ?_
        show pj_X _ _ (pj_wa G178 176 v4.toInt.toNat z180) 186 [(0, .ref 171), (1, .int v1), (2, .int v2), (3, .int v3), (4, .int v4)] [] _
        obtain ⟨G182, hG182⟩ : ∃ H, H = pj_wa G178 176 v4.toInt.toNat z180 := ⟨_, rfl⟩
        have iG182 : pj_Inv G182 := by rw [hG182]; exact pj_Inv_wa iG178 rfl (fun q hq => by cases hq) (fun n hn => by cases hn)
        have kG182 : pj_kpt kc_191x G0 G182 := by rw [hG182]; exact pj_kpt_a kG178 rfl
        rw [← hG182]
        rw [pj_nm_e]
        refine pj_X_of (fun r h => pj_R_to (G182, 189, [(4, .int (v4 + Int32.ofInt 1)), (0, .ref 171), (1, .int v1), (2, .int v2), (3, .int v3)], [], 0, 0) 189 2 (fun _ => rfl) h) ?_
        obtain ⟨z183, hz183⟩ : ∃ z : Int32, z = v4 + Int32.ofInt 1 := ⟨_, rfl⟩
        rw [← hz183]
        rw [pj_nm_e]
        have fz183_0 : z183.toInt = v4.toInt + (Int32.ofInt 1).toInt := by rw [hz183]; exact pj_addI (by have := pj_i32 v4; have := pj_i32 (Int32.ofInt 1); omega) (by have := pj_i32 v4; have := pj_i32 (Int32.ofInt 1); omega)
        refine pj_X_of (fun r h => pj_R_to (G182, 107, [(4, .int z183), (0, .ref 171), (1, .int v1), (2, .int v2), (3, .int v3)], [], 0, 0) 107 2 (fun _ => rfl) h) ?_
        have q184 : (pj_fi G182 171 30).toInt = y136.toInt := by rw [show pj_fi G182 171 30 = y136 from by rw [hG182, pj_fi_wa]; exact (by rw [hG178, pj_fi_wa]; exact (by rw [hG174, pj_fi_wa]; exact (by rw [hG170, pj_fi_wa]; exact hy136.symm)))]
        have q185 : (pj_fi G182 171 22).toInt = y137.toInt := by rw [show pj_fi G182 171 22 = y137 from by rw [hG182, pj_fi_wa]; exact (by rw [hG178, pj_fi_wa]; exact (by rw [hG174, pj_fi_wa]; exact (by rw [hG170, pj_fi_wa]; exact hy137.symm)))]
        have q186 : (pj_fi G182 171 21).toInt = y138.toInt := by rw [show pj_fi G182 171 21 = y138 from by rw [hG182, pj_fi_wa]; exact (by rw [hG178, pj_fi_wa]; exact (by rw [hG174, pj_fi_wa]; exact (by rw [hG170, pj_fi_wa]; exact hy138.symm)))]
        have q187 : (pj_fi G182 171 3).toInt = y139.toInt := by rw [show pj_fi G182 171 3 = y139 from by rw [hG182, pj_fi_wa]; exact (by rw [hG178, pj_fi_wa]; exact (by rw [hG174, pj_fi_wa]; exact (by rw [hG170, pj_fi_wa]; exact hy139.symm)))]
        have q188 : (pj_fi G182 171 4).toInt = y140.toInt := by rw [show pj_fi G182 171 4 = y140 from by rw [hG182, pj_fi_wa]; exact (by rw [hG178, pj_fi_wa]; exact (by rw [hG174, pj_fi_wa]; exact (by rw [hG170, pj_fi_wa]; exact hy140.symm)))]
        have v189 : (pj_ai G182 173 v4.toInt.toNat).toInt = z168.toInt := by rw [hG182, pj_ai_wa_ne _ _ _ _ _ _ (by decide), hG178, pj_ai_wa_ne _ _ _ _ _ _ (by decide), hG174, pj_ai_wa_ne _ _ _ _ _ _ (by decide), hG170, pj_ai_wa_eq hI.1 rfl]
        have v190 : (pj_ai G182 174 v4.toInt.toNat).toInt = z172.toInt := by rw [hG182, pj_ai_wa_ne _ _ _ _ _ _ (by decide), hG178, pj_ai_wa_ne _ _ _ _ _ _ (by decide), hG174, pj_ai_wa_eq iG170.1 rfl]
        have hold : ∀ j : Nat, j < v4.toInt.toNat → pj_ai G182 173 j = pj_ai G 173 j ∧ pj_ai G182 174 j = pj_ai G 174 j := fun j hj => ⟨by rw [hG182, pj_ai_wa_ne _ _ _ _ _ _ (by decide), hG178, pj_ai_wa_ne _ _ _ _ _ _ (by decide), hG174, pj_ai_wa_ne _ _ _ _ _ _ (by decide), hG170, pj_ai_wa_nj _ _ _ _ _ (by omega)], by rw [hG182, pj_ai_wa_ne _ _ _ _ _ _ (by decide), hG178, pj_ai_wa_ne _ _ _ _ _ _ (by decide), hG174, pj_ai_wa_nj _ _ _ _ _ (by omega), hG170, pj_ai_wa_ne _ _ _ _ _ _ (by decide)]⟩
        have eb191 : pj_fi G182 171 3 = pj_fi G 171 3 := by rw [hG182, pj_fi_wa, hG178, pj_fi_wa, hG174, pj_fi_wa, hG170, pj_fi_wa]
        exact pj_X_sub [(0, .ref 171), (1, .int v1), (2, .int v2), (3, .int v3), (4, .int z183)] (show List.Nodup [0, 1, 2, 3, 4] by decide) ⟨rfl, rfl, rfl, rfl, rfl, trivial⟩ (ih.2 G182 iG182 kG182 v1 v2 v3 z183 ⟨by omega, by omega⟩ ⟨by omega, by omega⟩ (pj_i32 _) ⟨by omega, by omega⟩ (by rw [show pj_fi G182 171 4 = pj_fi G 171 4 from by rw [hG182, pj_fi_wa, hG178, pj_fi_wa, hG174, pj_fi_wa, hG170, pj_fi_wa], show pj_fi G182 171 3 = pj_fi G 171 3 from by rw [hG182, pj_fi_wa, hG178, pj_fi_wa, hG174, pj_fi_wa, hG170, pj_fi_wa]]; exact pj_rd_k (fun j => by rw [hG182, pj_ai_wa_ne _ _ _ _ _ _ (by decide), hG178, pj_ai_wa_ne _ _ _ _ _ _ (by decide), hG174, pj_ai_wa_ne _ _ _ _ _ _ (by decide), hG170, pj_ai_wa_ne _ _ _ _ _ _ (by decide)]) x0_) (by rw [eb191, show z183.toInt = v4.toInt + 1 by omega]; exact pj_ro_s x1_ v4.toInt.toNat (by omega) hold (by omega) (by omega)) (by omega) (by omega) (by omega))
theorem ct_191x (G0 : pj_G) (hI : pj_Inv G0) (p0_ : pj_RI G0) (p1_ : (pj_fi G0 171 30).toInt ≤ 15) : pj_Y 19 191 [.ref 171] G0 (fun v' G' => ∃ y : Int32, v' = some (.int y) ∧ pj_Inv G' ∧ pj_kpt kc_191x G0 G' ∧ ((-2147483648 : Int) ≤ y.toInt ∧ y.toInt ≤ 2147483647) ∧ (pj_RI G' ∧ (pj_fi G' 171 30).toInt ≤ 15) ∧ ((y, G') = F_192x G0)) := by
  have c0_ : ((Int8.ofInt 10).toInt32).toInt = 10 := by decide
  have c1_ : ((Int8.ofInt 30).toInt32).toInt = 30 := by decide
  have c2_ : ((Int8.ofInt 31).toInt32).toInt = 31 := by decide
  have c3_ : ((Int8.ofInt 59).toInt32).toInt = 59 := by decide
  have c4_ : ((Int8.ofInt 72).toInt32).toInt = 72 := by decide
  have c5_ : (Int32.ofInt 0).toInt = 0 := by decide
  have c6_ : (Int32.ofInt 1).toInt = 1 := by decide
  have c7_ : (Int32.ofInt 2).toInt = 2 := by decide
  have c8_ : (Int32.ofInt 3).toInt = 3 := by decide
  have c9_ : (Int32.ofInt 4).toInt = 4 := by decide
  refine pj_Y_X (M := pj_m191) rfl rfl (Nat.le_of_ble_eq_true rfl) ?_
  have hK : pj_kpt kc_191x G0 G0 := pj_kpt_r _ _
  show pj_X _ _ G0 0 [(0, .ref 171)] [] _
  rw [F_192x_e]
  obtain ⟨y192, hy192⟩ : ∃ z : Int32, z = pj_fi G0 171 30 := ⟨_, rfl⟩
  have ey192 : (pj_fi G0 171 30).toInt = y192.toInt := by rw [hy192]
  have ry192 : (0 : Int) ≤ y192.toInt ∧ y192.toInt ≤ 16 := by rw [hy192]; exact hI.2.1 171 30 (0, 16) rfl
  obtain ⟨y193, hy193⟩ : ∃ z : Int32, z = pj_fi G0 171 22 := ⟨_, rfl⟩
  have ey193 : (pj_fi G0 171 22).toInt = y193.toInt := by rw [hy193]
  have ry193 : (0 : Int) ≤ y193.toInt ∧ y193.toInt ≤ 10 := by rw [hy193]; exact hI.2.1 171 22 (0, 10) rfl
  obtain ⟨y194, hy194⟩ : ∃ z : Int32, z = pj_fi G0 171 21 := ⟨_, rfl⟩
  have ey194 : (pj_fi G0 171 21).toInt = y194.toInt := by rw [hy194]
  have ry194 : (0 : Int) ≤ y194.toInt ∧ y194.toInt ≤ 8 := by rw [hy194]; exact hI.2.1 171 21 (0, 8) rfl
  obtain ⟨y195, hy195⟩ : ∃ z : Int32, z = pj_fi G0 171 3 := ⟨_, rfl⟩
  have ey195 : (pj_fi G0 171 3).toInt = y195.toInt := by rw [hy195]
  have ry195 : (0 : Int) ≤ y195.toInt ∧ y195.toInt ≤ 8 := by rw [hy195]; exact hI.2.1 171 3 (0, 8) rfl
  obtain ⟨y196, hy196⟩ : ∃ z : Int32, z = pj_fi G0 171 4 := ⟨_, rfl⟩
  have ey196 : (pj_fi G0 171 4).toInt = y196.toInt := by rw [hy196]
  have ry196 : (0 : Int) ≤ y196.toInt ∧ y196.toInt ≤ 10 := by rw [hy196]; exact hI.2.1 171 4 (0, 10) rfl
  refine pj_X_of (fun r h => pj_R_to (G0, 2, [(0, .ref 171)], [.int (Int32.ofInt 0), .ref 171], 0, 0) 2 3 (fun _ => rfl) h) ?_
  refine pj_X_of (fun r h => pj_T_pf hI rfl rfl rfl h) ?_
  show pj_X _ _ (pj_wv G0 171 0 (.int (Int32.ofInt 0))) 5 [(0, .ref 171)] [] _
  obtain ⟨G197, hG197⟩ : ∃ H, H = pj_wv G0 171 0 (.int (Int32.ofInt 0)) := ⟨_, rfl⟩
  have iG197 : pj_Inv G197 := by rw [hG197]; exact pj_Inv_wi hI (ci := 12) rfl (fun q hq => by cases hq)
  have kG197 : pj_kpt kc_191x G0 G197 := by rw [hG197]; exact pj_kpt_v hK rfl
  rw [← hG197]
  rw [pj_nm_e]
  refine pj_X_of (fun r h => pj_R_to (G197, 8, [(0, .ref 171)], [.int ((Int8.ofInt 72).toInt32), .ref 171], 0, 0) 8 3 (fun _ => rfl) h) ?_
  have q198 : (pj_fi G197 171 30).toInt = y192.toInt := by rw [show pj_fi G197 171 30 = y192 from by rw [hG197, pj_fi_wv_ne _ _ _ _ _ _ (by decide)]; exact hy192.symm]
  have q199 : (pj_fi G197 171 22).toInt = y193.toInt := by rw [show pj_fi G197 171 22 = y193 from by rw [hG197, pj_fi_wv_ne _ _ _ _ _ _ (by decide)]; exact hy193.symm]
  have q200 : (pj_fi G197 171 21).toInt = y194.toInt := by rw [show pj_fi G197 171 21 = y194 from by rw [hG197, pj_fi_wv_ne _ _ _ _ _ _ (by decide)]; exact hy194.symm]
  have q201 : (pj_fi G197 171 3).toInt = y195.toInt := by rw [show pj_fi G197 171 3 = y195 from by rw [hG197, pj_fi_wv_ne _ _ _ _ _ _ (by decide)]; exact hy195.symm]
  have q202 : (pj_fi G197 171 4).toInt = y196.toInt := by rw [show pj_fi G197 171 4 = y196 from by rw [hG197, pj_fi_wv_ne _ _ _ _ _ _ (by decide)]; exact hy196.symm]
  refine pj_X_ca (vs := [.ref 171, .int ((Int8.ofInt 72).toInt32)]) rfl (fun _ => rfl) ⟨Nat.le_of_ble_eq_true rfl, Nat.le_of_ble_eq_true rfl, pj_T_rcv iG197 rfl⟩ ⟨rfl, rfl⟩ (pj_Y_up (by decide) (ct_181etx G197 iG197 ((Int8.ofInt 72).toInt32) ⟨by omega, by omega⟩)) ?_
  rintro _ G204 ⟨y203, rfl, iG204, jG204, ry203, ey203, fy203⟩
  replace ey203 := ey203 _ rfl
  rw [← fy203, pj_bd_e]
  have kG204 : pj_kpt kc_191x G0 G204 := pj_kpt_t kG197 (pj_kpt_s jG204 rfl)
  have q205 : (pj_fi G204 171 30).toInt = (pj_fi G197 171 30).toInt := by rw [jG204.1 (171, 30) (by decide)]
  have q206 : (pj_fi G204 171 22).toInt = (pj_fi G197 171 22).toInt := by rw [jG204.1 (171, 22) (by decide)]
  have q207 : (pj_fi G204 171 21).toInt = (pj_fi G197 171 21).toInt := by rw [jG204.1 (171, 21) (by decide)]
  have q208 : (pj_fi G204 171 3).toInt = (pj_fi G197 171 3).toInt := by rw [jG204.1 (171, 3) (by decide)]
  have q209 : (pj_fi G204 171 4).toInt = (pj_fi G197 171 4).toInt := by rw [jG204.1 (171, 4) (by decide)]
  obtain ⟨y210, hy210⟩ : ∃ z : Int32, z = pj_fi G204 171 30 := ⟨_, rfl⟩
  have ey210 : (pj_fi G204 171 30).toInt = y210.toInt := by rw [hy210]
  have ry210 : (0 : Int) ≤ y210.toInt ∧ y210.toInt ≤ 16 := by rw [hy210]; exact iG204.2.1 171 30 (0, 16) rfl
  obtain ⟨y211, hy211⟩ : ∃ z : Int32, z = pj_fi G204 171 22 := ⟨_, rfl⟩
  have ey211 : (pj_fi G204 171 22).toInt = y211.toInt := by rw [hy211]
  have ry211 : (0 : Int) ≤ y211.toInt ∧ y211.toInt ≤ 10 := by rw [hy211]; exact iG204.2.1 171 22 (0, 10) rfl
  obtain ⟨y212, hy212⟩ : ∃ z : Int32, z = pj_fi G204 171 21 := ⟨_, rfl⟩
  have ey212 : (pj_fi G204 171 21).toInt = y212.toInt := by rw [hy212]
  have ry212 : (0 : Int) ≤ y212.toInt ∧ y212.toInt ≤ 8 := by rw [hy212]; exact iG204.2.1 171 21 (0, 8) rfl
  obtain ⟨y213, hy213⟩ : ∃ z : Int32, z = pj_fi G204 171 3 := ⟨_, rfl⟩
  have ey213 : (pj_fi G204 171 3).toInt = y213.toInt := by rw [hy213]
  have ry213 : (0 : Int) ≤ y213.toInt ∧ y213.toInt ≤ 8 := by rw [hy213]; exact iG204.2.1 171 3 (0, 8) rfl
  obtain ⟨y214, hy214⟩ : ∃ z : Int32, z = pj_fi G204 171 4 := ⟨_, rfl⟩
  have ey214 : (pj_fi G204 171 4).toInt = y214.toInt := by rw [hy214]
  have ry214 : (0 : Int) ≤ y214.toInt ∧ y214.toInt ≤ 10 := by rw [hy214]; exact iG204.2.1 171 4 (0, 10) rfl
  show pj_X _ _ G204 11 [(0, .ref 171)] [.int y203] _
  refine pj_X_of (fun r h => pj_R_to (G204, 14, [(1, .int y203), (0, .ref 171)], [.int (Int32.ofInt 0), .ref 171], 0, 0) 14 4 (fun _ => rfl) h) ?_
  refine pj_X_of (fun r h => pj_T_pf iG204 rfl rfl rfl h) ?_
  show pj_X _ _ (pj_wv G204 171 22 (.int (Int32.ofInt 0))) 17 [(1, .int y203), (0, .ref 171)] [] _
  obtain ⟨G215, hG215⟩ : ∃ H, H = pj_wv G204 171 22 (.int (Int32.ofInt 0)) := ⟨_, rfl⟩
  have iG215 : pj_Inv G215 := by rw [hG215]; exact pj_Inv_wi iG204 (ci := 12) rfl (fun q hq => by cases hq; exact ⟨by show (0 : Int) ≤ _; omega, by show _ ≤ (10 : Int); omega⟩)
  have kG215 : pj_kpt kc_191x G0 G215 := by rw [hG215]; exact pj_kpt_v kG204 rfl
  rw [← hG215]
  rw [pj_nm_e]
  refine pj_X_of (fun r h => pj_R_to (G215, 22, [(1, .int y203), (0, .ref 171)], [.retAddr 10, .ref 171, .int (Int32.ofInt 2), .ref 171], 0, 0) 22 5 (fun _ => rfl) h) ?_
  have q216 : (pj_fi G215 171 30).toInt = y210.toInt := by rw [show pj_fi G215 171 30 = y210 from by rw [hG215, pj_fi_wv_ne _ _ _ _ _ _ (by decide)]; exact hy210.symm]
  have q217 : (pj_fi G215 171 22).toInt = (Int32.ofInt 0).toInt := by rw [show pj_fi G215 171 22 = Int32.ofInt 0 from by rw [hG215]; exact pj_fi_wi iG204.1 (ci := 12) rfl _]
  have q218 : (pj_fi G215 171 21).toInt = y212.toInt := by rw [show pj_fi G215 171 21 = y212 from by rw [hG215, pj_fi_wv_ne _ _ _ _ _ _ (by decide)]; exact hy212.symm]
  have q219 : (pj_fi G215 171 3).toInt = y213.toInt := by rw [show pj_fi G215 171 3 = y213 from by rw [hG215, pj_fi_wv_ne _ _ _ _ _ _ (by decide)]; exact hy213.symm]
  have q220 : (pj_fi G215 171 4).toInt = y214.toInt := by rw [show pj_fi G215 171 4 = y214 from by rw [hG215, pj_fi_wv_ne _ _ _ _ _ _ (by decide)]; exact hy214.symm]
  refine pj_X_ca (vs := [.ref 171, .retAddr 10]) rfl (fun _ => rfl) ⟨Nat.le_of_ble_eq_true rfl, Nat.le_of_ble_eq_true rfl, pj_T_rcv iG215 rfl⟩ ⟨rfl, rfl⟩ (pj_Y_up (by decide) (ct_185_s10x G215 iG215)) ?_
  rintro _ G222 ⟨y221, rfl, iG222, jG222, ry221, ey221, fy221⟩
  replace ey221 := ey221 _ rfl
  rw [← fy221, pj_bd_e]
  have kG222 : pj_kpt kc_191x G0 G222 := pj_kpt_t kG215 (pj_kpt_s jG222 rfl)
  have q223 : (pj_fi G222 171 30).toInt = (pj_fi G215 171 30).toInt := by rw [jG222.1 (171, 30) (by decide)]
  have q224 : (pj_fi G222 171 22).toInt = (pj_fi G215 171 22).toInt := by rw [jG222.1 (171, 22) (by decide)]
  have q225 : (pj_fi G222 171 21).toInt = (pj_fi G215 171 21).toInt := by rw [jG222.1 (171, 21) (by decide)]
  have q226 : (pj_fi G222 171 3).toInt = (pj_fi G215 171 3).toInt := by rw [jG222.1 (171, 3) (by decide)]
  have q227 : (pj_fi G222 171 4).toInt = (pj_fi G215 171 4).toInt := by rw [jG222.1 (171, 4) (by decide)]
  obtain ⟨y228, hy228⟩ : ∃ z : Int32, z = pj_fi G222 171 30 := ⟨_, rfl⟩
  have ey228 : (pj_fi G222 171 30).toInt = y228.toInt := by rw [hy228]
  have ry228 : (0 : Int) ≤ y228.toInt ∧ y228.toInt ≤ 16 := by rw [hy228]; exact iG222.2.1 171 30 (0, 16) rfl
  obtain ⟨y229, hy229⟩ : ∃ z : Int32, z = pj_fi G222 171 22 := ⟨_, rfl⟩
  have ey229 : (pj_fi G222 171 22).toInt = y229.toInt := by rw [hy229]
  have ry229 : (0 : Int) ≤ y229.toInt ∧ y229.toInt ≤ 10 := by rw [hy229]; exact iG222.2.1 171 22 (0, 10) rfl
  obtain ⟨y230, hy230⟩ : ∃ z : Int32, z = pj_fi G222 171 21 := ⟨_, rfl⟩
  have ey230 : (pj_fi G222 171 21).toInt = y230.toInt := by rw [hy230]
  have ry230 : (0 : Int) ≤ y230.toInt ∧ y230.toInt ≤ 8 := by rw [hy230]; exact iG222.2.1 171 21 (0, 8) rfl
  obtain ⟨y231, hy231⟩ : ∃ z : Int32, z = pj_fi G222 171 3 := ⟨_, rfl⟩
  have ey231 : (pj_fi G222 171 3).toInt = y231.toInt := by rw [hy231]
  have ry231 : (0 : Int) ≤ y231.toInt ∧ y231.toInt ≤ 8 := by rw [hy231]; exact iG222.2.1 171 3 (0, 8) rfl
  obtain ⟨y232, hy232⟩ : ∃ z : Int32, z = pj_fi G222 171 4 := ⟨_, rfl⟩
  have ey232 : (pj_fi G222 171 4).toInt = y232.toInt := by rw [hy232]
  have ry232 : (0 : Int) ≤ y232.toInt ∧ y232.toInt ≤ 10 := by rw [hy232]; exact iG222.2.1 171 4 (0, 10) rfl
  show pj_X _ _ G222 25 [(1, .int y203), (0, .ref 171)] [.int y221, .int (Int32.ofInt 2), .ref 171] _
  refine pj_X_of (fun r h => pj_R_to (G222, 26, [(1, .int y203), (0, .ref 171)], [.int ((Int32.ofInt 2) + y221), .ref 171], 0, 0) 26 2 (fun _ => rfl) h) ?_
  obtain ⟨z233, hz233⟩ : ∃ z : Int32, z = (Int32.ofInt 2) + y221 := ⟨_, rfl⟩
  refine pj_X_eqi hz233.symm ?_
  rw [← hz233, pj_nm_e]
  have fz233_0 : z233.toInt = (Int32.ofInt 2).toInt + y221.toInt := by rw [hz233]; exact pj_addI (by have := pj_i32 (Int32.ofInt 2); have := pj_i32 y221; omega) (by have := pj_i32 (Int32.ofInt 2); have := pj_i32 y221; omega)
  refine pj_X_of (fun r h => pj_T_pf iG222 rfl rfl rfl h) ?_
  show pj_X _ _ (pj_wv G222 171 21 (.int z233)) 29 [(1, .int y203), (0, .ref 171)] [] _
  obtain ⟨G234, hG234⟩ : ∃ H, H = pj_wv G222 171 21 (.int z233) := ⟨_, rfl⟩
  have iG234 : pj_Inv G234 := by rw [hG234]; exact pj_Inv_wi iG222 (ci := 12) rfl (fun q hq => by cases hq; exact ⟨by show (0 : Int) ≤ _; omega, by show _ ≤ (8 : Int); omega⟩)
  have kG234 : pj_kpt kc_191x G0 G234 := by rw [hG234]; exact pj_kpt_v kG222 rfl
  rw [← hG234]
  rw [pj_nm_e]
  refine pj_X_of (fun r h => pj_R_to (G234, 30, [(1, .int y203), (0, .ref 171)], [.ref 171], 0, 0) 30 2 (fun _ => rfl) h) ?_
  refine pj_X_of (fun r h => pj_T_gi iG234 rfl rfl h) ?_
  show pj_X _ _ G234 33 [(1, .int y203), (0, .ref 171)] [.int (pj_fi G234 171 21)] _
  refine pj_X_eqi (show pj_fi G234 171 21 = z233 from by rw [hG234]; exact pj_fi_wi iG222.1 (ci := 12) rfl _) ?_
  refine pj_X_of (fun r h => pj_R_to (G234, 34, [(1, .int y203), (0, .ref 171)], [.int (Int32.ofInt 1), .int z233], 0, 0) 34 2 (fun _ => rfl) h) ?_
  cases b235 : pj_c1 .le z233 (Int32.ofInt 1) with
  | true =>
    rw [pj_cT]
    have ub235 := pj_u_leT b235
    refine pj_X_of (fun r h => pj_R_icT 41 rfl rfl b235 h) ?_
    refine pj_X_of (fun r h => pj_R_to (G234, 43, [(2, .int (Int32.ofInt 0)), (1, .int y203), (0, .ref 171)], [], 0, 0) 43 3 (fun _ => rfl) h) ?_
    have q236 : (pj_fi G234 171 30).toInt = y228.toInt := by rw [show pj_fi G234 171 30 = y228 from by rw [hG234, pj_fi_wv_ne _ _ _ _ _ _ (by decide)]; exact hy228.symm]
    have q237 : (pj_fi G234 171 22).toInt = y229.toInt := by rw [show pj_fi G234 171 22 = y229 from by rw [hG234, pj_fi_wv_ne _ _ _ _ _ _ (by decide)]; exact hy229.symm]
    have q238 : (pj_fi G234 171 21).toInt = z233.toInt := by rw [show pj_fi G234 171 21 = z233 from by rw [hG234]; exact pj_fi_wi iG222.1 (ci := 12) rfl _]
    have q239 : (pj_fi G234 171 3).toInt = y231.toInt := by rw [show pj_fi G234 171 3 = y231 from by rw [hG234, pj_fi_wv_ne _ _ _ _ _ _ (by decide)]; exact hy231.symm]
    have q240 : (pj_fi G234 171 4).toInt = y232.toInt := by rw [show pj_fi G234 171 4 = y232 from by rw [hG234, pj_fi_wv_ne _ _ _ _ _ _ (by decide)]; exact hy232.symm]
    have t241 : pj_kpt ([(171, 0), (171, 16), (171, 17), (171, 18), (171, 19), (171, 21), (171, 22)], [171], []) G0 G0 := pj_kpt_r _ _
    have t242 : pj_kpt ([(171, 0), (171, 16), (171, 17), (171, 18), (171, 19), (171, 21), (171, 22)], [171], []) G0 G197 := by rw [hG197]; exact pj_kpt_v t241 rfl
    have t243 : pj_kpt ([(171, 0), (171, 16), (171, 17), (171, 18), (171, 19), (171, 21), (171, 22)], [171], []) G0 G204 := pj_kpt_t t242 (pj_kpt_s jG204 rfl)
    have t244 : pj_kpt ([(171, 0), (171, 16), (171, 17), (171, 18), (171, 19), (171, 21), (171, 22)], [171], []) G0 G215 := by rw [hG215]; exact pj_kpt_v t243 rfl
    have t245 : pj_kpt ([(171, 0), (171, 16), (171, 17), (171, 18), (171, 19), (171, 21), (171, 22)], [171], []) G0 G222 := pj_kpt_t t244 (pj_kpt_s jG222 rfl)
    have t246 : pj_kpt ([(171, 0), (171, 16), (171, 17), (171, 18), (171, 19), (171, 21), (171, 22)], [171], []) G0 G234 := by rw [hG234]; exact pj_kpt_v t245 rfl
    exact pj_X_sub [(0, .ref 171), (1, .int y203), (2, .int (Int32.ofInt 0))] (show List.Nodup [0, 1, 2] by decide) ⟨rfl, rfl, rfl, trivial⟩ ((lp_ct_191x G0 hI   p0_ p1_ 2001).1 G234 iG234 kG234 y203 (Int32.ofInt 0) ⟨by omega, by omega⟩ ⟨by omega, by omega⟩ (pj_RI_k p0_ t246 rfl) (fun _ => pj_rd_0 (by omega)) (by omega) (by omega) (by omega))
  | false =>
    rw [pj_cF]
    have ub235 := pj_u_leF b235
    refine pj_X_of (fun r h => pj_R_icF rfl b235 h) ?_
    refine pj_X_of (fun r h => pj_R_to (G234, 43, [(2, .int (Int32.ofInt 1)), (1, .int y203), (0, .ref 171)], [], 0, 0) 43 4 (fun _ => rfl) h) ?_
    have q247 : (pj_fi G234 171 30).toInt = y228.toInt := by rw [show pj_fi G234 171 30 = y228 from by rw [hG234, pj_fi_wv_ne _ _ _ _ _ _ (by decide)]; exact hy228.symm]
    have q248 : (pj_fi G234 171 22).toInt = y229.toInt := by rw [show pj_fi G234 171 22 = y229 from by rw [hG234, pj_fi_wv_ne _ _ _ _ _ _ (by decide)]; exact hy229.symm]
    have q249 : (pj_fi G234 171 21).toInt = z233.toInt := by rw [show pj_fi G234 171 21 = z233 from by rw [hG234]; exact pj_fi_wi iG222.1 (ci := 12) rfl _]
    have q250 : (pj_fi G234 171 3).toInt = y231.toInt := by rw [show pj_fi G234 171 3 = y231 from by rw [hG234, pj_fi_wv_ne _ _ _ _ _ _ (by decide)]; exact hy231.symm]
    have q251 : (pj_fi G234 171 4).toInt = y232.toInt := by rw [show pj_fi G234 171 4 = y232 from by rw [hG234, pj_fi_wv_ne _ _ _ _ _ _ (by decide)]; exact hy232.symm]
    have t252 : pj_kpt ([(171, 0), (171, 16), (171, 17), (171, 18), (171, 19), (171, 21), (171, 22)], [171], []) G0 G0 := pj_kpt_r _ _
    have t253 : pj_kpt ([(171, 0), (171, 16), (171, 17), (171, 18), (171, 19), (171, 21), (171, 22)], [171], []) G0 G197 := by rw [hG197]; exact pj_kpt_v t252 rfl
    have t254 : pj_kpt ([(171, 0), (171, 16), (171, 17), (171, 18), (171, 19), (171, 21), (171, 22)], [171], []) G0 G204 := pj_kpt_t t253 (pj_kpt_s jG204 rfl)
    have t255 : pj_kpt ([(171, 0), (171, 16), (171, 17), (171, 18), (171, 19), (171, 21), (171, 22)], [171], []) G0 G215 := by rw [hG215]; exact pj_kpt_v t254 rfl
    have t256 : pj_kpt ([(171, 0), (171, 16), (171, 17), (171, 18), (171, 19), (171, 21), (171, 22)], [171], []) G0 G222 := pj_kpt_t t255 (pj_kpt_s jG222 rfl)
    have t257 : pj_kpt ([(171, 0), (171, 16), (171, 17), (171, 18), (171, 19), (171, 21), (171, 22)], [171], []) G0 G234 := by rw [hG234]; exact pj_kpt_v t256 rfl
    exact pj_X_sub [(0, .ref 171), (1, .int y203), (2, .int (Int32.ofInt 1))] (show List.Nodup [0, 1, 2] by decide) ⟨rfl, rfl, rfl, trivial⟩ ((lp_ct_191x G0 hI   p0_ p1_ 2001).1 G234 iG234 kG234 y203 (Int32.ofInt 1) ⟨by omega, by omega⟩ ⟨by omega, by omega⟩ (pj_RI_k p0_ t257 rfl) (fun _ => pj_rd_0 (by omega)) (by omega) (by omega) (by omega))
theorem fr_192x (G0 : pj_G) (hI : pj_Inv G0) (p0_ : pj_RI G0) (p1_ : (pj_fi G0 171 30).toInt ≤ 15) : pj_Inv (F_192x G0).2 ∧ pj_kpt kc_191x G0 (F_192x G0).2 ∧ (pj_RI (F_192x G0).2 ∧ (pj_fi (F_192x G0).2 171 30).toInt ≤ 15) := by
  obtain ⟨v, G', -, y, -, i, j, r, x, e⟩ := ct_191x G0 hI p0_ p1_
  rw [← e]
  exact ⟨i, j, x⟩
def kc_191tx : pj_KT := ([(171, 0), (171, 3), (171, 4), (171, 5), (171, 6), (171, 7), (171, 16), (171, 17), (171, 18), (171, 19), (171, 21), (171, 22), (171, 23), (171, 30)], [171, 173, 174, 175, 176, 179, 181], [173, 174, 175, 176, 179, 181])
noncomputable def L_192tx (G0 : pj_G) (fu : Nat) : Nat → Int32 → Int32 → Int32 → Int32 → pj_G → Int32 × pj_G := Nat.rec (motive := fun _ => Nat → Int32 → Int32 → Int32 → Int32 → pj_G → Int32 × pj_G) (fun _ _ _ _ _ G => (0, G)) (fun _ ih lab v1 v2 v3 v4 G => cond (Nat.beq lab 0) (cond (pj_c1 .eq v2 0) (pj_nm (F_189x G v1 ((Int8.ofInt 72).toInt32) v2) (fun y14 => cond (pj_c1 .ge y14 0) (pj_nm (pj_fi G 171 21) (fun y3 => pj_nm (pj_wv G 171 3 (.int y3)) (fun G17 => pj_nm (pj_fi G 171 22) (fun y2 => pj_nm (pj_wv G17 171 4 (.int y2)) (fun G18 => ih 1 v1 v2 y14 (Int32.ofInt 0) G18))))) ((y14, G)))) (pj_nm (pj_fi G 171 22) (fun y2 => cond (pj_c1 .ge y2 ((Int8.ofInt 10).toInt32)) (pj_nm (F_189x G v1 ((Int8.ofInt 72).toInt32) v2) (fun y47 => cond (pj_c1 .ge y47 0) (pj_nm (pj_fi G 171 21) (fun y3 => pj_nm (pj_wv G 171 3 (.int y3)) (fun G50 => pj_nm (pj_wv G50 171 4 (.int y2)) (fun G51 => ih 1 v1 v2 y47 (Int32.ofInt 0) G51)))) ((y47, G)))) (pj_bd (F_183x G ((Int8.ofInt 59).toInt32)) (fun y79 G80 => cond (pj_c1 .eq y79 0) (pj_nm (F_189x G80 v1 ((Int8.ofInt 72).toInt32) v2) (fun y100 => cond (pj_c1 .ge y100 0) (pj_nm (pj_fi G80 171 21) (fun y89 => pj_nm (pj_wv G80 171 3 (.int y89)) (fun G103 => pj_nm (pj_fi G80 171 22) (fun y88 => pj_nm (pj_wv G103 171 4 (.int y88)) (fun G104 => ih 1 v1 v2 y100 (Int32.ofInt 0) G104))))) ((y100, G80)))) (pj_bd (F_191x G80) (fun y133 G134 => ih 0 v1 y133 0 0 G134))))))) (pj_nm (pj_fi G 171 4) (fun y160 => cond (pj_c1 .ge v4 y160) (pj_nm (pj_wv G 171 5 (.int (Int32.ofInt 0))) (fun G163 => pj_nm (pj_wv G163 171 6 (.int (Int32.ofInt 0))) (fun G164 => pj_nm (pj_wa G164 179 ((Int8.ofInt 30).toInt32).toInt.toNat (Int32.ofInt 0)) (fun G165 => pj_nm (pj_wa G165 179 ((Int8.ofInt 31).toInt32).toInt.toNat (Int32.ofInt 0)) (fun G166 => pj_nm (F_193x G166) (fun G174 => pj_nm (pj_fi G174 171 4) (fun y184 => (y184, G174)))))))) (pj_nm ((Int32.ofInt 4) * v4) (fun z192 => pj_nm (pj_ai G 181 z192.toInt.toNat) (fun z193 => pj_nm (pj_wa G 173 v4.toInt.toNat z193) (fun G195 => pj_nm (z192 + (Int32.ofInt 1)) (fun z196 => pj_nm (pj_ai G195 181 z196.toInt.toNat) (fun z197 => pj_nm (pj_wa G195 174 v4.toInt.toNat z197) (fun G199 => pj_nm (z192 + (Int32.ofInt 2)) (fun z200 => pj_nm (pj_ai G199 181 z200.toInt.toNat) (fun z201 => pj_nm (pj_wa G199 175 v4.toInt.toNat z201) (fun G203 => pj_nm (z192 + (Int32.ofInt 3)) (fun z204 => pj_nm (pj_ai G203 181 z204.toInt.toNat) (fun z205 => pj_nm (pj_wa G203 176 v4.toInt.toNat z205) (fun G207 => pj_nm (v4 + Int32.ofInt 1) (fun z208 => ih 1 v1 v2 v3 z208 G207))))))))))))))))) fu
theorem L_192tx_s0 (G0 : pj_G) (fu : Nat) (v1 : Int32) (v2 : Int32) (G : pj_G) : L_192tx G0 (fu + 1) 0 v1 v2 0 0 G = cond (pj_c1 .eq v2 0) (pj_nm (F_189x G v1 ((Int8.ofInt 72).toInt32) v2) (fun y14 => cond (pj_c1 .ge y14 0) (pj_nm (pj_fi G 171 21) (fun y3 => pj_nm (pj_wv G 171 3 (.int y3)) (fun G17 => pj_nm (pj_fi G 171 22) (fun y2 => pj_nm (pj_wv G17 171 4 (.int y2)) (fun G18 => L_192tx G0 fu 1 v1 v2 y14 (Int32.ofInt 0) G18))))) ((y14, G)))) (pj_nm (pj_fi G 171 22) (fun y2 => cond (pj_c1 .ge y2 ((Int8.ofInt 10).toInt32)) (pj_nm (F_189x G v1 ((Int8.ofInt 72).toInt32) v2) (fun y47 => cond (pj_c1 .ge y47 0) (pj_nm (pj_fi G 171 21) (fun y3 => pj_nm (pj_wv G 171 3 (.int y3)) (fun G50 => pj_nm (pj_wv G50 171 4 (.int y2)) (fun G51 => L_192tx G0 fu 1 v1 v2 y47 (Int32.ofInt 0) G51)))) ((y47, G)))) (pj_bd (F_183x G ((Int8.ofInt 59).toInt32)) (fun y79 G80 => cond (pj_c1 .eq y79 0) (pj_nm (F_189x G80 v1 ((Int8.ofInt 72).toInt32) v2) (fun y100 => cond (pj_c1 .ge y100 0) (pj_nm (pj_fi G80 171 21) (fun y89 => pj_nm (pj_wv G80 171 3 (.int y89)) (fun G103 => pj_nm (pj_fi G80 171 22) (fun y88 => pj_nm (pj_wv G103 171 4 (.int y88)) (fun G104 => L_192tx G0 fu 1 v1 v2 y100 (Int32.ofInt 0) G104))))) ((y100, G80)))) (pj_bd (F_191x G80) (fun y133 G134 => L_192tx G0 fu 0 v1 y133 0 0 G134)))))) := rfl
theorem L_192tx_s1 (G0 : pj_G) (fu : Nat) (v1 : Int32) (v2 : Int32) (v3 : Int32) (v4 : Int32) (G : pj_G) : L_192tx G0 (fu + 1) 1 v1 v2 v3 v4 G = pj_nm (pj_fi G 171 4) (fun y160 => cond (pj_c1 .ge v4 y160) (pj_nm (pj_wv G 171 5 (.int (Int32.ofInt 0))) (fun G163 => pj_nm (pj_wv G163 171 6 (.int (Int32.ofInt 0))) (fun G164 => pj_nm (pj_wa G164 179 ((Int8.ofInt 30).toInt32).toInt.toNat (Int32.ofInt 0)) (fun G165 => pj_nm (pj_wa G165 179 ((Int8.ofInt 31).toInt32).toInt.toNat (Int32.ofInt 0)) (fun G166 => pj_nm (F_193x G166) (fun G174 => pj_nm (pj_fi G174 171 4) (fun y184 => (y184, G174)))))))) (pj_nm ((Int32.ofInt 4) * v4) (fun z192 => pj_nm (pj_ai G 181 z192.toInt.toNat) (fun z193 => pj_nm (pj_wa G 173 v4.toInt.toNat z193) (fun G195 => pj_nm (z192 + (Int32.ofInt 1)) (fun z196 => pj_nm (pj_ai G195 181 z196.toInt.toNat) (fun z197 => pj_nm (pj_wa G195 174 v4.toInt.toNat z197) (fun G199 => pj_nm (z192 + (Int32.ofInt 2)) (fun z200 => pj_nm (pj_ai G199 181 z200.toInt.toNat) (fun z201 => pj_nm (pj_wa G199 175 v4.toInt.toNat z201) (fun G203 => pj_nm (z192 + (Int32.ofInt 3)) (fun z204 => pj_nm (pj_ai G203 181 z204.toInt.toNat) (fun z205 => pj_nm (pj_wa G203 176 v4.toInt.toNat z205) (fun G207 => pj_nm (v4 + Int32.ofInt 1) (fun z208 => L_192tx G0 fu 1 v1 v2 v3 z208 G207))))))))))))))) := rfl
noncomputable def F_192tx (G0 : pj_G) : Int32 × pj_G := pj_nm (pj_wv G0 171 0 (.int (Int32.ofInt 0))) (fun G224 => pj_bd (F_182etx G224 ((Int8.ofInt 72).toInt32)) (fun y231 G232 => pj_nm (pj_wv G232 171 22 (.int (Int32.ofInt 0))) (fun G244 => pj_bd (F_186_s10x G244) (fun y251 G252 => pj_nm ((Int32.ofInt 2) + y251) (fun z265 => pj_nm (pj_wv G252 171 21 (.int z265)) (fun G266 => cond (pj_c1 .le z265 (Int32.ofInt 1)) (L_192tx G0 2001 0 y231 (Int32.ofInt 0) 0 0 G266) (L_192tx G0 2001 0 y231 (Int32.ofInt 1) 0 0 G266)))))))
theorem F_192tx_e (G0 : pj_G) : F_192tx G0 = pj_nm (pj_wv G0 171 0 (.int (Int32.ofInt 0))) (fun G224 => pj_bd (F_182etx G224 ((Int8.ofInt 72).toInt32)) (fun y231 G232 => pj_nm (pj_wv G232 171 22 (.int (Int32.ofInt 0))) (fun G244 => pj_bd (F_186_s10x G244) (fun y251 G252 => pj_nm ((Int32.ofInt 2) + y251) (fun z265 => pj_nm (pj_wv G252 171 21 (.int z265)) (fun G266 => cond (pj_c1 .le z265 (Int32.ofInt 1)) (L_192tx G0 2001 0 y231 (Int32.ofInt 0) 0 0 G266) (L_192tx G0 2001 0 y231 (Int32.ofInt 1) 0 0 G266))))))) := rfl
theorem lp_ct_191tx (G0 : pj_G) (hI0 : pj_Inv G0) (p0_ : pj_RI G0) (p1_ : (pj_fi G0 171 30).toInt ≤ 15) : ∀ mn : Nat, (∀ (G : pj_G) (hI : pj_Inv G) (hK : pj_kpt kc_191tx G0 G) (v1 : Int32) (v2 : Int32), ((0 : Int) ≤ v1.toInt ∧ v1.toInt ≤ 80) → ((0 : Int) ≤ v2.toInt ∧ v2.toInt ≤ 1) → (pj_RI G) → (1 ≤ v2.toInt → pj_rd G (pj_fi G 171 22).toInt (pj_fi G 171 21).toInt) → ((pj_fi G 171 30).toInt ≤ 15) → ((pj_fi G 171 22).toInt ≤ 10) → ((pj_fi G 171 16).toInt = 0) → 1000 + 20 * (11 - (pj_fi G 171 22).toInt) + 10 * v2.toInt < (mn : Int) → pj_X 18 pj_m191 G 43 [(0, .ref 171), (1, .int v1), (2, .int v2)] [] (fun v' G' => ∃ y : Int32, v' = some (.int y) ∧ pj_Inv G' ∧ pj_kpt kc_191tx G0 G' ∧ ((-2147483648 : Int) ≤ y.toInt ∧ y.toInt ≤ 2147483647) ∧ (pj_RI G' ∧ ((pj_fi G' 171 30).toInt ≤ 15 ∧ (pj_fi G' 171 16).toInt = 0)) ∧ ((y, G') = L_192tx G0 mn 0 v1 v2 0 0 G))) ∧ (∀ (G : pj_G) (hI : pj_Inv G) (hK : pj_kpt kc_191tx G0 G) (v1 : Int32) (v2 : Int32) (v3 : Int32) (v4 : Int32), ((0 : Int) ≤ v1.toInt ∧ v1.toInt ≤ 80) → ((0 : Int) ≤ v2.toInt ∧ v2.toInt ≤ 1) → ((-2147483648 : Int) ≤ v3.toInt ∧ v3.toInt ≤ 2147483647) → ((0 : Int) ≤ v4.toInt ∧ v4.toInt ≤ 10) → (pj_rd G (pj_fi G 171 4).toInt (pj_fi G 171 3).toInt) → (pj_ro G v4.toInt (pj_fi G 171 3).toInt) → ((pj_fi G 171 30).toInt ≤ 15) → (v4.toInt ≤ (pj_fi G 171 4).toInt) → ((pj_fi G 171 16).toInt = 0) → 10 - v4.toInt < (mn : Int) → pj_X 18 pj_m191 G 107 [(0, .ref 171), (1, .int v1), (2, .int v2), (3, .int v3), (4, .int v4)] [] (fun v' G' => ∃ y : Int32, v' = some (.int y) ∧ pj_Inv G' ∧ pj_kpt kc_191tx G0 G' ∧ ((-2147483648 : Int) ≤ y.toInt ∧ y.toInt ≤ 2147483647) ∧ (pj_RI G' ∧ ((pj_fi G' 171 30).toInt ≤ 15 ∧ (pj_fi G' 171 16).toInt = 0)) ∧ ((y, G') = L_192tx G0 mn 1 v1 v2 v3 v4 G))) := by
  have c0_ : ((Int8.ofInt 10).toInt32).toInt = 10 := by decide
  have c1_ : ((Int8.ofInt 30).toInt32).toInt = 30 := by decide
  have c2_ : ((Int8.ofInt 31).toInt32).toInt = 31 := by decide
  have c3_ : ((Int8.ofInt 59).toInt32).toInt = 59 := by decide
  have c4_ : ((Int8.ofInt 72).toInt32).toInt = 72 := by decide
  have c5_ : (Int32.ofInt 0).toInt = 0 := by decide
  have c6_ : (Int32.ofInt 1).toInt = 1 := by decide
  have c7_ : (Int32.ofInt 2).toInt = 2 := by decide
  have c8_ : (Int32.ofInt 3).toInt = 3 := by decide
  have c9_ : (Int32.ofInt 4).toInt = 4 := by decide
  intro mn
  induction mn with
  | zero =>
    refine ⟨?_, ?_⟩
    · intro G hI hK v1 v2 rv1 rv2 x0_ x1_ x2_ x3_ x4_ hm
      exfalso
      omega
    · intro G hI hK v1 v2 v3 v4 rv1 rv2 rv3 rv4 x0_ x1_ x2_ x3_ x4_ hm
      exfalso
      omega
  | succ mn ih =>
    refine ⟨?_, ?_⟩
    · intro G hI hK v1 v2 rv1 rv2 x0_ x1_ x2_ x3_ x4_ hm
      rw [L_192tx_s0]
      obtain ⟨y1, hy1⟩ : ∃ z : Int32, z = pj_fi G 171 30 := ⟨_, rfl⟩
      have ey1 : (pj_fi G 171 30).toInt = y1.toInt := by rw [hy1]
      have ry1 : (0 : Int) ≤ y1.toInt ∧ y1.toInt ≤ 16 := by rw [hy1]; exact hI.2.1 171 30 (0, 16) rfl
      obtain ⟨y2, hy2⟩ : ∃ z : Int32, z = pj_fi G 171 22 := ⟨_, rfl⟩
      have ey2 : (pj_fi G 171 22).toInt = y2.toInt := by rw [hy2]
      have ry2 : (0 : Int) ≤ y2.toInt ∧ y2.toInt ≤ 10 := by rw [hy2]; exact hI.2.1 171 22 (0, 10) rfl
      obtain ⟨y3, hy3⟩ : ∃ z : Int32, z = pj_fi G 171 21 := ⟨_, rfl⟩
      have ey3 : (pj_fi G 171 21).toInt = y3.toInt := by rw [hy3]
      have ry3 : (0 : Int) ≤ y3.toInt ∧ y3.toInt ≤ 8 := by rw [hy3]; exact hI.2.1 171 21 (0, 8) rfl
      obtain ⟨y4, hy4⟩ : ∃ z : Int32, z = pj_fi G 171 3 := ⟨_, rfl⟩
      have ey4 : (pj_fi G 171 3).toInt = y4.toInt := by rw [hy4]
      have ry4 : (0 : Int) ≤ y4.toInt ∧ y4.toInt ≤ 8 := by rw [hy4]; exact hI.2.1 171 3 (0, 8) rfl
      obtain ⟨y5, hy5⟩ : ∃ z : Int32, z = pj_fi G 171 4 := ⟨_, rfl⟩
      have ey5 : (pj_fi G 171 4).toInt = y5.toInt := by rw [hy5]
      have ry5 : (0 : Int) ≤ y5.toInt ∧ y5.toInt ≤ 10 := by rw [hy5]; exact hI.2.1 171 4 (0, 10) rfl
      obtain ⟨y6, hy6⟩ : ∃ z : Int32, z = pj_fi G 171 16 := ⟨_, rfl⟩
      have ey6 : (pj_fi G 171 16).toInt = y6.toInt := by rw [hy6]
      have ry6 : (0 : Int) ≤ y6.toInt ∧ y6.toInt ≤ 80 := by rw [hy6]; exact hI.2.1 171 16 (0, 80) rfl
      refine pj_X_of (fun r h => pj_R_to (G, 44, [(0, .ref 171), (1, .int v1), (2, .int v2)], [.int v2], 0, 0) 44 2 (fun _ => rfl) h) ?_
      cases b7 : pj_c1 .eq v2 0 with
      | true =>
        rw [pj_cT]
        have ub7 := pj_u0_eqT b7
        refine pj_X_of (fun r h => pj_R_ifT 73 rfl rfl b7 h) ?_
        refine pj_X_of (fun r h => pj_R_to (G, 78, [(0, .ref 171), (1, .int v1), (2, .int v2)], [.int v2, .int ((Int8.ofInt 72).toInt32), .int v1, .ref 171], 0, 0) 78 5 (fun _ => rfl) h) ?_
        have q8 : (pj_fi G 171 30).toInt = y1.toInt := by rw [show pj_fi G 171 30 = y1 from hy1.symm]
        have q9 : (pj_fi G 171 22).toInt = y2.toInt := by rw [show pj_fi G 171 22 = y2 from hy2.symm]
        have q10 : (pj_fi G 171 21).toInt = y3.toInt := by rw [show pj_fi G 171 21 = y3 from hy3.symm]
        have q11 : (pj_fi G 171 3).toInt = y4.toInt := by rw [show pj_fi G 171 3 = y4 from hy4.symm]
        have q12 : (pj_fi G 171 4).toInt = y5.toInt := by rw [show pj_fi G 171 4 = y5 from hy5.symm]
        have q13 : (pj_fi G 171 16).toInt = y6.toInt := by rw [show pj_fi G 171 16 = y6 from hy6.symm]
        refine pj_X_ca (vs := [.ref 171, .int v1, .int ((Int8.ofInt 72).toInt32), .int v2]) rfl (fun _ => rfl) ⟨Nat.le_of_ble_eq_true rfl, Nat.le_of_ble_eq_true rfl, pj_T_rcv hI rfl⟩ ⟨rfl, rfl⟩ (pj_Y_up (by decide) (ct_188x G hI v1 ((Int8.ofInt 72).toInt32) v2 ⟨by omega, by omega⟩ ⟨by omega, by omega⟩ ⟨by omega, by omega⟩)) ?_
        rintro _ _ ⟨y14, rfl, rfl, ry14, ey14, fy14⟩
        replace ey14 := ey14 _ rfl
        rw [← fy14, pj_nm_e]
        show pj_X _ _ G 81 [(0, .ref 171), (1, .int v1), (2, .int v2)] [.int y14] _
        refine pj_X_of (fun r h => pj_R_to (G, 83, [(3, .int y14), (0, .ref 171), (1, .int v1), (2, .int v2)], [.int y14], 0, 0) 83 3 (fun _ => rfl) h) ?_
        cases b15 : pj_c1 .ge y14 0 with
        | true =>
          rw [pj_cT]
          have ub15 := pj_u0_geT b15
          refine pj_X_of (fun r h => pj_R_ifT 88 rfl rfl b15 h) ?_
          refine pj_X_of (fun r h => pj_R_to (G, 90, [(3, .int y14), (0, .ref 171), (1, .int v1), (2, .int v2)], [.ref 171, .ref 171], 0, 0) 90 3 (fun _ => rfl) h) ?_
          have rd16 : pj_rd G (pj_fi G 171 22).toInt (pj_fi G 171 21).toInt := by rw [show pj_fi G 171 22 = pj_fi G 171 22 from by rfl, show pj_fi G 171 21 = pj_fi G 171 21 from by rfl]; exact pj_rd_k (fun j => by rfl) (x1_ (by omega))
          refine pj_X_of (fun r h => pj_T_gi hI rfl rfl h) ?_
          show pj_X _ _ G 93 [(3, .int y14), (0, .ref 171), (1, .int v1), (2, .int v2)] [.int (pj_fi G 171 21), .ref 171] _
          rw [← hy3, pj_nm_e]
          refine pj_X_of (fun r h => pj_T_pf hI rfl rfl rfl h) ?_
          show pj_X _ _ (pj_wv G 171 3 (.int y3)) 96 [(3, .int y14), (0, .ref 171), (1, .int v1), (2, .int v2)] [] _
          obtain ⟨G17, hG17⟩ : ∃ H, H = pj_wv G 171 3 (.int y3) := ⟨_, rfl⟩
          have iG17 : pj_Inv G17 := by rw [hG17]; exact pj_Inv_wi hI (ci := 12) rfl (fun q hq => by cases hq; exact ⟨by show (0 : Int) ≤ _; omega, by show _ ≤ (8 : Int); omega⟩)
          have kG17 : pj_kpt kc_191tx G0 G17 := by rw [hG17]; exact pj_kpt_v hK rfl
          rw [← hG17]
          rw [pj_nm_e]
          refine pj_X_of (fun r h => pj_R_to (G17, 98, [(3, .int y14), (0, .ref 171), (1, .int v1), (2, .int v2)], [.ref 171, .ref 171], 0, 0) 98 3 (fun _ => rfl) h) ?_
          refine pj_X_of (fun r h => pj_T_gi iG17 rfl rfl h) ?_
          show pj_X _ _ G17 101 [(3, .int y14), (0, .ref 171), (1, .int v1), (2, .int v2)] [.int (pj_fi G17 171 22), .ref 171] _
          rw [← hy2, pj_nm_e]
          refine pj_X_eqi (show pj_fi G17 171 22 = y2 from by rw [hG17, pj_fi_wv_ne _ _ _ _ _ _ (by decide)]; exact hy2.symm) ?_
          refine pj_X_of (fun r h => pj_T_pf iG17 rfl rfl rfl h) ?_
          show pj_X _ _ (pj_wv G17 171 4 (.int y2)) 104 [(3, .int y14), (0, .ref 171), (1, .int v1), (2, .int v2)] [] _
          obtain ⟨G18, hG18⟩ : ∃ H, H = pj_wv G17 171 4 (.int y2) := ⟨_, rfl⟩
          have iG18 : pj_Inv G18 := by rw [hG18]; exact pj_Inv_wi iG17 (ci := 12) rfl (fun q hq => by cases hq; exact ⟨by show (0 : Int) ≤ _; omega, by show _ ≤ (10 : Int); omega⟩)
          have kG18 : pj_kpt kc_191tx G0 G18 := by rw [hG18]; exact pj_kpt_v kG17 rfl
          rw [← hG18]
          rw [pj_nm_e]
          refine pj_X_of (fun r h => pj_R_to (G18, 107, [(4, .int (Int32.ofInt 0)), (3, .int y14), (0, .ref 171), (1, .int v1), (2, .int v2)], [], 0, 0) 107 3 (fun _ => rfl) h) ?_
          have q19 : (pj_fi G18 171 30).toInt = y1.toInt := by rw [show pj_fi G18 171 30 = y1 from by rw [hG18, pj_fi_wv_ne _ _ _ _ _ _ (by decide)]; exact (by rw [hG17, pj_fi_wv_ne _ _ _ _ _ _ (by decide)]; exact hy1.symm)]
          have q20 : (pj_fi G18 171 22).toInt = y2.toInt := by rw [show pj_fi G18 171 22 = y2 from by rw [hG18, pj_fi_wv_ne _ _ _ _ _ _ (by decide)]; exact (by rw [hG17, pj_fi_wv_ne _ _ _ _ _ _ (by decide)]; exact hy2.symm)]
          have q21 : (pj_fi G18 171 21).toInt = y3.toInt := by rw [show pj_fi G18 171 21 = y3 from by rw [hG18, pj_fi_wv_ne _ _ _ _ _ _ (by decide)]; exact (by rw [hG17, pj_fi_wv_ne _ _ _ _ _ _ (by decide)]; exact hy3.symm)]
          have q22 : (pj_fi G18 171 3).toInt = y3.toInt := by rw [show pj_fi G18 171 3 = y3 from by rw [hG18, pj_fi_wv_ne _ _ _ _ _ _ (by decide)]; exact (by rw [hG17]; exact pj_fi_wi hI.1 (ci := 12) rfl _)]
          have q23 : (pj_fi G18 171 4).toInt = y2.toInt := by rw [show pj_fi G18 171 4 = y2 from by rw [hG18]; exact pj_fi_wi iG17.1 (ci := 12) rfl _]
          have q24 : (pj_fi G18 171 16).toInt = y6.toInt := by rw [show pj_fi G18 171 16 = y6 from by rw [hG18, pj_fi_wv_ne _ _ _ _ _ _ (by decide)]; exact (by rw [hG17, pj_fi_wv_ne _ _ _ _ _ _ (by decide)]; exact hy6.symm)]
          have q25 : (pj_fi G18 171 30).toInt = y1.toInt := by rw [show pj_fi G18 171 30 = y1 from by rw [hG18, pj_fi_wv_ne _ _ _ _ _ _ (by decide)]; exact (by rw [hG17, pj_fi_wv_ne _ _ _ _ _ _ (by decide)]; exact hy1.symm)]
          have q26 : (pj_fi G18 171 22).toInt = y2.toInt := by rw [show pj_fi G18 171 22 = y2 from by rw [hG18, pj_fi_wv_ne _ _ _ _ _ _ (by decide)]; exact (by rw [hG17, pj_fi_wv_ne _ _ _ _ _ _ (by decide)]; exact hy2.symm)]
          have q27 : (pj_fi G18 171 21).toInt = y3.toInt := by rw [show pj_fi G18 171 21 = y3 from by rw [hG18, pj_fi_wv_ne _ _ _ _ _ _ (by decide)]; exact (by rw [hG17, pj_fi_wv_ne _ _ _ _ _ _ (by decide)]; exact hy3.symm)]
          have q28 : (pj_fi G18 171 3).toInt = y3.toInt := by rw [show pj_fi G18 171 3 = y3 from by rw [hG18, pj_fi_wv_ne _ _ _ _ _ _ (by decide)]; exact (by rw [hG17]; exact pj_fi_wi hI.1 (ci := 12) rfl _)]
          have q29 : (pj_fi G18 171 4).toInt = y2.toInt := by rw [show pj_fi G18 171 4 = y2 from by rw [hG18]; exact pj_fi_wi iG17.1 (ci := 12) rfl _]
          have q30 : (pj_fi G18 171 16).toInt = y6.toInt := by rw [show pj_fi G18 171 16 = y6 from by rw [hG18, pj_fi_wv_ne _ _ _ _ _ _ (by decide)]; exact (by rw [hG17, pj_fi_wv_ne _ _ _ _ _ _ (by decide)]; exact hy6.symm)]
          have c31 : (pj_fi G18 171 4).toInt = (pj_fi G 171 22).toInt := by omega
          have c32 : (pj_fi G18 171 3).toInt = (pj_fi G 171 21).toInt := by omega
          exact pj_X_sub [(0, .ref 171), (1, .int v1), (2, .int v2), (3, .int y14), (4, .int (Int32.ofInt 0))] (show List.Nodup [0, 1, 2, 3, 4] by decide) ⟨rfl, rfl, rfl, rfl, rfl, trivial⟩ (ih.2 G18 iG18 kG18 v1 v2 y14 (Int32.ofInt 0) ⟨by omega, by omega⟩ ⟨by omega, by omega⟩ (pj_i32 _) ⟨by omega, by omega⟩ (by rw [c31, c32]; exact pj_rd_k (fun j => by rw [hG18, pj_ai_wv, hG17, pj_ai_wv]) rd16) (pj_ro_0 (by omega)) (by omega) (by omega) (by omega) (by omega))
        | false =>
          rw [pj_cF]
          have ub15 := pj_u0_geF b15
          refine pj_X_of (fun r h => pj_R_ifF rfl b15 h) ?_
          refine pj_X_of (fun r h => pj_R_to (G, 87, [(3, .int y14), (0, .ref 171), (1, .int v1), (2, .int v2)], [.int y14], 0, 0) 87 2 (fun _ => rfl) h) ?_
          have q33 : (pj_fi G 171 30).toInt = y1.toInt := by rw [show pj_fi G 171 30 = y1 from hy1.symm]
          have q34 : (pj_fi G 171 22).toInt = y2.toInt := by rw [show pj_fi G 171 22 = y2 from hy2.symm]
          have q35 : (pj_fi G 171 21).toInt = y3.toInt := by rw [show pj_fi G 171 21 = y3 from hy3.symm]
          have q36 : (pj_fi G 171 3).toInt = y4.toInt := by rw [show pj_fi G 171 3 = y4 from hy4.symm]
          have q37 : (pj_fi G 171 4).toInt = y5.toInt := by rw [show pj_fi G 171 4 = y5 from hy5.symm]
          have q38 : (pj_fi G 171 16).toInt = y6.toInt := by rw [show pj_fi G 171 16 = y6 from hy6.symm]
          have t39 : pj_kpt ([], [], []) G G := pj_kpt_r _ _
          exact pj_X_rt rfl rfl ⟨_, rfl, hI, hK, pj_i32 _, ⟨pj_RI_k x0_ t39 rfl, by omega⟩, rfl⟩
      | false =>
        rw [pj_cF]
        have ub7 := pj_u0_eqF b7
        refine pj_X_of (fun r h => pj_R_ifF rfl b7 h) ?_
        refine pj_X_of (fun r h => pj_R_to (G, 48, [(0, .ref 171), (1, .int v1), (2, .int v2)], [.ref 171], 0, 0) 48 2 (fun _ => rfl) h) ?_
        refine pj_X_of (fun r h => pj_T_gi hI rfl rfl h) ?_
        show pj_X _ _ G 51 [(0, .ref 171), (1, .int v1), (2, .int v2)] [.int (pj_fi G 171 22)] _
        rw [← hy2, pj_nm_e]
        refine pj_X_of (fun r h => pj_R_to (G, 53, [(0, .ref 171), (1, .int v1), (2, .int v2)], [.int ((Int8.ofInt 10).toInt32), .int y2], 0, 0) 53 2 (fun _ => rfl) h) ?_
        cases b40 : pj_c1 .ge y2 ((Int8.ofInt 10).toInt32) with
        | true =>
          rw [pj_cT]
          have ub40 := pj_u_geT b40
          refine pj_X_of (fun r h => pj_R_icT 73 rfl rfl b40 h) ?_
          refine pj_X_of (fun r h => pj_R_to (G, 78, [(0, .ref 171), (1, .int v1), (2, .int v2)], [.int v2, .int ((Int8.ofInt 72).toInt32), .int v1, .ref 171], 0, 0) 78 5 (fun _ => rfl) h) ?_
          have q41 : (pj_fi G 171 30).toInt = y1.toInt := by rw [show pj_fi G 171 30 = y1 from hy1.symm]
          have q42 : (pj_fi G 171 22).toInt = y2.toInt := by rw [show pj_fi G 171 22 = y2 from hy2.symm]
          have q43 : (pj_fi G 171 21).toInt = y3.toInt := by rw [show pj_fi G 171 21 = y3 from hy3.symm]
          have q44 : (pj_fi G 171 3).toInt = y4.toInt := by rw [show pj_fi G 171 3 = y4 from hy4.symm]
          have q45 : (pj_fi G 171 4).toInt = y5.toInt := by rw [show pj_fi G 171 4 = y5 from hy5.symm]
          have q46 : (pj_fi G 171 16).toInt = y6.toInt := by rw [show pj_fi G 171 16 = y6 from hy6.symm]
          refine pj_X_ca (vs := [.ref 171, .int v1, .int ((Int8.ofInt 72).toInt32), .int v2]) rfl (fun _ => rfl) ⟨Nat.le_of_ble_eq_true rfl, Nat.le_of_ble_eq_true rfl, pj_T_rcv hI rfl⟩ ⟨rfl, rfl⟩ (pj_Y_up (by decide) (ct_188x G hI v1 ((Int8.ofInt 72).toInt32) v2 ⟨by omega, by omega⟩ ⟨by omega, by omega⟩ ⟨by omega, by omega⟩)) ?_
          rintro _ _ ⟨y47, rfl, rfl, ry47, ey47, fy47⟩
          replace ey47 := ey47 _ rfl
          rw [← fy47, pj_nm_e]
          show pj_X _ _ G 81 [(0, .ref 171), (1, .int v1), (2, .int v2)] [.int y47] _
          refine pj_X_of (fun r h => pj_R_to (G, 83, [(3, .int y47), (0, .ref 171), (1, .int v1), (2, .int v2)], [.int y47], 0, 0) 83 3 (fun _ => rfl) h) ?_
          cases b48 : pj_c1 .ge y47 0 with
          | true =>
            rw [pj_cT]
            have ub48 := pj_u0_geT b48
            refine pj_X_of (fun r h => pj_R_ifT 88 rfl rfl b48 h) ?_
            refine pj_X_of (fun r h => pj_R_to (G, 90, [(3, .int y47), (0, .ref 171), (1, .int v1), (2, .int v2)], [.ref 171, .ref 171], 0, 0) 90 3 (fun _ => rfl) h) ?_
            have rd49 : pj_rd G (pj_fi G 171 22).toInt (pj_fi G 171 21).toInt := by rw [show pj_fi G 171 22 = pj_fi G 171 22 from by rfl, show pj_fi G 171 21 = pj_fi G 171 21 from by rfl]; exact pj_rd_k (fun j => by rfl) (x1_ (by omega))
            refine pj_X_of (fun r h => pj_T_gi hI rfl rfl h) ?_
            show pj_X _ _ G 93 [(3, .int y47), (0, .ref 171), (1, .int v1), (2, .int v2)] [.int (pj_fi G 171 21), .ref 171] _
            rw [← hy3, pj_nm_e]
            refine pj_X_of (fun r h => pj_T_pf hI rfl rfl rfl h) ?_
            show pj_X _ _ (pj_wv G 171 3 (.int y3)) 96 [(3, .int y47), (0, .ref 171), (1, .int v1), (2, .int v2)] [] _
            obtain ⟨G50, hG50⟩ : ∃ H, H = pj_wv G 171 3 (.int y3) := ⟨_, rfl⟩
            have iG50 : pj_Inv G50 := by rw [hG50]; exact pj_Inv_wi hI (ci := 12) rfl (fun q hq => by cases hq; exact ⟨by show (0 : Int) ≤ _; omega, by show _ ≤ (8 : Int); omega⟩)
            have kG50 : pj_kpt kc_191tx G0 G50 := by rw [hG50]; exact pj_kpt_v hK rfl
            rw [← hG50]
            rw [pj_nm_e]
            refine pj_X_of (fun r h => pj_R_to (G50, 98, [(3, .int y47), (0, .ref 171), (1, .int v1), (2, .int v2)], [.ref 171, .ref 171], 0, 0) 98 3 (fun _ => rfl) h) ?_
            refine pj_X_of (fun r h => pj_T_gi iG50 rfl rfl h) ?_
            show pj_X _ _ G50 101 [(3, .int y47), (0, .ref 171), (1, .int v1), (2, .int v2)] [.int (pj_fi G50 171 22), .ref 171] _
            refine pj_X_eqi (show pj_fi G50 171 22 = y2 from by rw [hG50, pj_fi_wv_ne _ _ _ _ _ _ (by decide)]; exact hy2.symm) ?_
            refine pj_X_of (fun r h => pj_T_pf iG50 rfl rfl rfl h) ?_
            show pj_X _ _ (pj_wv G50 171 4 (.int y2)) 104 [(3, .int y47), (0, .ref 171), (1, .int v1), (2, .int v2)] [] _
            obtain ⟨G51, hG51⟩ : ∃ H, H = pj_wv G50 171 4 (.int y2) := ⟨_, rfl⟩
            have iG51 : pj_Inv G51 := by rw [hG51]; exact pj_Inv_wi iG50 (ci := 12) rfl (fun q hq => by cases hq; exact ⟨by show (0 : Int) ≤ _; omega, by show _ ≤ (10 : Int); omega⟩)
            have kG51 : pj_kpt kc_191tx G0 G51 := by rw [hG51]; exact pj_kpt_v kG50 rfl
            rw [← hG51]
            rw [pj_nm_e]
            refine pj_X_of (fun r h => pj_R_to (G51, 107, [(4, .int (Int32.ofInt 0)), (3, .int y47), (0, .ref 171), (1, .int v1), (2, .int v2)], [], 0, 0) 107 3 (fun _ => rfl) h) ?_
            have q52 : (pj_fi G51 171 30).toInt = y1.toInt := by rw [show pj_fi G51 171 30 = y1 from by rw [hG51, pj_fi_wv_ne _ _ _ _ _ _ (by decide)]; exact (by rw [hG50, pj_fi_wv_ne _ _ _ _ _ _ (by decide)]; exact hy1.symm)]
            have q53 : (pj_fi G51 171 22).toInt = y2.toInt := by rw [show pj_fi G51 171 22 = y2 from by rw [hG51, pj_fi_wv_ne _ _ _ _ _ _ (by decide)]; exact (by rw [hG50, pj_fi_wv_ne _ _ _ _ _ _ (by decide)]; exact hy2.symm)]
            have q54 : (pj_fi G51 171 21).toInt = y3.toInt := by rw [show pj_fi G51 171 21 = y3 from by rw [hG51, pj_fi_wv_ne _ _ _ _ _ _ (by decide)]; exact (by rw [hG50, pj_fi_wv_ne _ _ _ _ _ _ (by decide)]; exact hy3.symm)]
            have q55 : (pj_fi G51 171 3).toInt = y3.toInt := by rw [show pj_fi G51 171 3 = y3 from by rw [hG51, pj_fi_wv_ne _ _ _ _ _ _ (by decide)]; exact (by rw [hG50]; exact pj_fi_wi hI.1 (ci := 12) rfl _)]
            have q56 : (pj_fi G51 171 4).toInt = y2.toInt := by rw [show pj_fi G51 171 4 = y2 from by rw [hG51]; exact pj_fi_wi iG50.1 (ci := 12) rfl _]
            have q57 : (pj_fi G51 171 16).toInt = y6.toInt := by rw [show pj_fi G51 171 16 = y6 from by rw [hG51, pj_fi_wv_ne _ _ _ _ _ _ (by decide)]; exact (by rw [hG50, pj_fi_wv_ne _ _ _ _ _ _ (by decide)]; exact hy6.symm)]
            have q58 : (pj_fi G51 171 30).toInt = y1.toInt := by rw [show pj_fi G51 171 30 = y1 from by rw [hG51, pj_fi_wv_ne _ _ _ _ _ _ (by decide)]; exact (by rw [hG50, pj_fi_wv_ne _ _ _ _ _ _ (by decide)]; exact hy1.symm)]
            have q59 : (pj_fi G51 171 22).toInt = y2.toInt := by rw [show pj_fi G51 171 22 = y2 from by rw [hG51, pj_fi_wv_ne _ _ _ _ _ _ (by decide)]; exact (by rw [hG50, pj_fi_wv_ne _ _ _ _ _ _ (by decide)]; exact hy2.symm)]
            have q60 : (pj_fi G51 171 21).toInt = y3.toInt := by rw [show pj_fi G51 171 21 = y3 from by rw [hG51, pj_fi_wv_ne _ _ _ _ _ _ (by decide)]; exact (by rw [hG50, pj_fi_wv_ne _ _ _ _ _ _ (by decide)]; exact hy3.symm)]
            have q61 : (pj_fi G51 171 3).toInt = y3.toInt := by rw [show pj_fi G51 171 3 = y3 from by rw [hG51, pj_fi_wv_ne _ _ _ _ _ _ (by decide)]; exact (by rw [hG50]; exact pj_fi_wi hI.1 (ci := 12) rfl _)]
            have q62 : (pj_fi G51 171 4).toInt = y2.toInt := by rw [show pj_fi G51 171 4 = y2 from by rw [hG51]; exact pj_fi_wi iG50.1 (ci := 12) rfl _]
            have q63 : (pj_fi G51 171 16).toInt = y6.toInt := by rw [show pj_fi G51 171 16 = y6 from by rw [hG51, pj_fi_wv_ne _ _ _ _ _ _ (by decide)]; exact (by rw [hG50, pj_fi_wv_ne _ _ _ _ _ _ (by decide)]; exact hy6.symm)]
            have c64 : (pj_fi G51 171 4).toInt = (pj_fi G 171 22).toInt := by omega
            have c65 : (pj_fi G51 171 3).toInt = (pj_fi G 171 21).toInt := by omega
            exact pj_X_sub [(0, .ref 171), (1, .int v1), (2, .int v2), (3, .int y47), (4, .int (Int32.ofInt 0))] (show List.Nodup [0, 1, 2, 3, 4] by decide) ⟨rfl, rfl, rfl, rfl, rfl, trivial⟩ (ih.2 G51 iG51 kG51 v1 v2 y47 (Int32.ofInt 0) ⟨by omega, by omega⟩ ⟨by omega, by omega⟩ (pj_i32 _) ⟨by omega, by omega⟩ (by rw [c64, c65]; exact pj_rd_k (fun j => by rw [hG51, pj_ai_wv, hG50, pj_ai_wv]) rd49) (pj_ro_0 (by omega)) (by omega) (by omega) (by omega) (by omega))
          | false =>
            rw [pj_cF]
            have ub48 := pj_u0_geF b48
            refine pj_X_of (fun r h => pj_R_ifF rfl b48 h) ?_
            refine pj_X_of (fun r h => pj_R_to (G, 87, [(3, .int y47), (0, .ref 171), (1, .int v1), (2, .int v2)], [.int y47], 0, 0) 87 2 (fun _ => rfl) h) ?_
            have q66 : (pj_fi G 171 30).toInt = y1.toInt := by rw [show pj_fi G 171 30 = y1 from hy1.symm]
            have q67 : (pj_fi G 171 22).toInt = y2.toInt := by rw [show pj_fi G 171 22 = y2 from hy2.symm]
            have q68 : (pj_fi G 171 21).toInt = y3.toInt := by rw [show pj_fi G 171 21 = y3 from hy3.symm]
            have q69 : (pj_fi G 171 3).toInt = y4.toInt := by rw [show pj_fi G 171 3 = y4 from hy4.symm]
            have q70 : (pj_fi G 171 4).toInt = y5.toInt := by rw [show pj_fi G 171 4 = y5 from hy5.symm]
            have q71 : (pj_fi G 171 16).toInt = y6.toInt := by rw [show pj_fi G 171 16 = y6 from hy6.symm]
            have t72 : pj_kpt ([], [], []) G G := pj_kpt_r _ _
            exact pj_X_rt rfl rfl ⟨_, rfl, hI, hK, pj_i32 _, ⟨pj_RI_k x0_ t72 rfl, by omega⟩, rfl⟩
        | false =>
          rw [pj_cF]
          have ub40 := pj_u_geF b40
          refine pj_X_of (fun r h => pj_R_icF rfl b40 h) ?_
          refine pj_X_of (fun r h => pj_R_to (G, 59, [(0, .ref 171), (1, .int v1), (2, .int v2)], [.int ((Int8.ofInt 59).toInt32), .ref 171], 0, 0) 59 3 (fun _ => rfl) h) ?_
          have q73 : (pj_fi G 171 30).toInt = y1.toInt := by rw [show pj_fi G 171 30 = y1 from hy1.symm]
          have q74 : (pj_fi G 171 22).toInt = y2.toInt := by rw [show pj_fi G 171 22 = y2 from hy2.symm]
          have q75 : (pj_fi G 171 21).toInt = y3.toInt := by rw [show pj_fi G 171 21 = y3 from hy3.symm]
          have q76 : (pj_fi G 171 3).toInt = y4.toInt := by rw [show pj_fi G 171 3 = y4 from hy4.symm]
          have q77 : (pj_fi G 171 4).toInt = y5.toInt := by rw [show pj_fi G 171 4 = y5 from hy5.symm]
          have q78 : (pj_fi G 171 16).toInt = y6.toInt := by rw [show pj_fi G 171 16 = y6 from hy6.symm]
          refine pj_X_ca (vs := [.ref 171, .int ((Int8.ofInt 59).toInt32)]) rfl (fun _ => rfl) ⟨Nat.le_of_ble_eq_true rfl, Nat.le_of_ble_eq_true rfl, pj_T_rcv hI rfl⟩ ⟨rfl, rfl⟩ (pj_Y_up (by decide) (ct_182x G hI ((Int8.ofInt 59).toInt32) ⟨by omega, by omega⟩)) ?_
          rintro _ G80 ⟨y79, rfl, iG80, jG80, ry79, ey79, fy79⟩
          replace ey79 := ey79 _ rfl
          rw [← fy79, pj_bd_e]
          have kG80 : pj_kpt kc_191tx G0 G80 := pj_kpt_t hK (pj_kpt_s jG80 rfl)
          have q81 : (pj_fi G80 171 30).toInt = (pj_fi G 171 30).toInt := by rw [jG80.1 (171, 30) (by decide)]
          have q82 : (pj_fi G80 171 22).toInt = (pj_fi G 171 22).toInt := by rw [jG80.1 (171, 22) (by decide)]
          have q83 : (pj_fi G80 171 21).toInt = (pj_fi G 171 21).toInt := by rw [jG80.1 (171, 21) (by decide)]
          have q84 : (pj_fi G80 171 3).toInt = (pj_fi G 171 3).toInt := by rw [jG80.1 (171, 3) (by decide)]
          have q85 : (pj_fi G80 171 4).toInt = (pj_fi G 171 4).toInt := by rw [jG80.1 (171, 4) (by decide)]
          have q86 : (pj_fi G80 171 16).toInt = (pj_fi G 171 16).toInt := by rw [jG80.1 (171, 16) (by decide)]
          obtain ⟨y87, hy87⟩ : ∃ z : Int32, z = pj_fi G80 171 30 := ⟨_, rfl⟩
          have ey87 : (pj_fi G80 171 30).toInt = y87.toInt := by rw [hy87]
          have ry87 : (0 : Int) ≤ y87.toInt ∧ y87.toInt ≤ 16 := by rw [hy87]; exact iG80.2.1 171 30 (0, 16) rfl
          obtain ⟨y88, hy88⟩ : ∃ z : Int32, z = pj_fi G80 171 22 := ⟨_, rfl⟩
          have ey88 : (pj_fi G80 171 22).toInt = y88.toInt := by rw [hy88]
          have ry88 : (0 : Int) ≤ y88.toInt ∧ y88.toInt ≤ 10 := by rw [hy88]; exact iG80.2.1 171 22 (0, 10) rfl
          obtain ⟨y89, hy89⟩ : ∃ z : Int32, z = pj_fi G80 171 21 := ⟨_, rfl⟩
          have ey89 : (pj_fi G80 171 21).toInt = y89.toInt := by rw [hy89]
          have ry89 : (0 : Int) ≤ y89.toInt ∧ y89.toInt ≤ 8 := by rw [hy89]; exact iG80.2.1 171 21 (0, 8) rfl
          obtain ⟨y90, hy90⟩ : ∃ z : Int32, z = pj_fi G80 171 3 := ⟨_, rfl⟩
          have ey90 : (pj_fi G80 171 3).toInt = y90.toInt := by rw [hy90]
          have ry90 : (0 : Int) ≤ y90.toInt ∧ y90.toInt ≤ 8 := by rw [hy90]; exact iG80.2.1 171 3 (0, 8) rfl
          obtain ⟨y91, hy91⟩ : ∃ z : Int32, z = pj_fi G80 171 4 := ⟨_, rfl⟩
          have ey91 : (pj_fi G80 171 4).toInt = y91.toInt := by rw [hy91]
          have ry91 : (0 : Int) ≤ y91.toInt ∧ y91.toInt ≤ 10 := by rw [hy91]; exact iG80.2.1 171 4 (0, 10) rfl
          obtain ⟨y92, hy92⟩ : ∃ z : Int32, z = pj_fi G80 171 16 := ⟨_, rfl⟩
          have ey92 : (pj_fi G80 171 16).toInt = y92.toInt := by rw [hy92]
          have ry92 : (0 : Int) ≤ y92.toInt ∧ y92.toInt ≤ 80 := by rw [hy92]; exact iG80.2.1 171 16 (0, 80) rfl
          show pj_X _ _ G80 62 [(0, .ref 171), (1, .int v1), (2, .int v2)] [.int y79] _
          cases b93 : pj_c1 .eq y79 0 with
          | true =>
            rw [pj_cT]
            have ub93 := pj_u0_eqT b93
            refine pj_X_of (fun r h => pj_R_ifT 73 rfl rfl b93 h) ?_
            refine pj_X_of (fun r h => pj_R_to (G80, 78, [(0, .ref 171), (1, .int v1), (2, .int v2)], [.int v2, .int ((Int8.ofInt 72).toInt32), .int v1, .ref 171], 0, 0) 78 5 (fun _ => rfl) h) ?_
            have q94 : (pj_fi G80 171 30).toInt = y87.toInt := by rw [show pj_fi G80 171 30 = y87 from hy87.symm]
            have q95 : (pj_fi G80 171 22).toInt = y88.toInt := by rw [show pj_fi G80 171 22 = y88 from hy88.symm]
            have q96 : (pj_fi G80 171 21).toInt = y89.toInt := by rw [show pj_fi G80 171 21 = y89 from hy89.symm]
            have q97 : (pj_fi G80 171 3).toInt = y90.toInt := by rw [show pj_fi G80 171 3 = y90 from hy90.symm]
            have q98 : (pj_fi G80 171 4).toInt = y91.toInt := by rw [show pj_fi G80 171 4 = y91 from hy91.symm]
            have q99 : (pj_fi G80 171 16).toInt = y92.toInt := by rw [show pj_fi G80 171 16 = y92 from hy92.symm]
            refine pj_X_ca (vs := [.ref 171, .int v1, .int ((Int8.ofInt 72).toInt32), .int v2]) rfl (fun _ => rfl) ⟨Nat.le_of_ble_eq_true rfl, Nat.le_of_ble_eq_true rfl, pj_T_rcv iG80 rfl⟩ ⟨rfl, rfl⟩ (pj_Y_up (by decide) (ct_188x G80 iG80 v1 ((Int8.ofInt 72).toInt32) v2 ⟨by omega, by omega⟩ ⟨by omega, by omega⟩ ⟨by omega, by omega⟩)) ?_
            rintro _ _ ⟨y100, rfl, rfl, ry100, ey100, fy100⟩
            replace ey100 := ey100 _ rfl
            rw [← fy100, pj_nm_e]
            show pj_X _ _ G80 81 [(0, .ref 171), (1, .int v1), (2, .int v2)] [.int y100] _
            refine pj_X_of (fun r h => pj_R_to (G80, 83, [(3, .int y100), (0, .ref 171), (1, .int v1), (2, .int v2)], [.int y100], 0, 0) 83 3 (fun _ => rfl) h) ?_
            cases b101 : pj_c1 .ge y100 0 with
            | true =>
              rw [pj_cT]
              have ub101 := pj_u0_geT b101
              refine pj_X_of (fun r h => pj_R_ifT 88 rfl rfl b101 h) ?_
              refine pj_X_of (fun r h => pj_R_to (G80, 90, [(3, .int y100), (0, .ref 171), (1, .int v1), (2, .int v2)], [.ref 171, .ref 171], 0, 0) 90 3 (fun _ => rfl) h) ?_
              have rd102 : pj_rd G80 (pj_fi G80 171 22).toInt (pj_fi G80 171 21).toInt := by rw [show pj_fi G80 171 22 = pj_fi G 171 22 from by rw [jG80.1 (171, 22) (by decide)], show pj_fi G80 171 21 = pj_fi G 171 21 from by rw [jG80.1 (171, 21) (by decide)]]; exact pj_rd_k (fun j => by rw [jG80.2.2 181 (by decide)]) (x1_ (by omega))
              refine pj_X_of (fun r h => pj_T_gi iG80 rfl rfl h) ?_
              show pj_X _ _ G80 93 [(3, .int y100), (0, .ref 171), (1, .int v1), (2, .int v2)] [.int (pj_fi G80 171 21), .ref 171] _
              rw [← hy89, pj_nm_e]
              refine pj_X_of (fun r h => pj_T_pf iG80 rfl rfl rfl h) ?_
              show pj_X _ _ (pj_wv G80 171 3 (.int y89)) 96 [(3, .int y100), (0, .ref 171), (1, .int v1), (2, .int v2)] [] _
              obtain ⟨G103, hG103⟩ : ∃ H, H = pj_wv G80 171 3 (.int y89) := ⟨_, rfl⟩
              have iG103 : pj_Inv G103 := by rw [hG103]; exact pj_Inv_wi iG80 (ci := 12) rfl (fun q hq => by cases hq; exact ⟨by show (0 : Int) ≤ _; omega, by show _ ≤ (8 : Int); omega⟩)
              have kG103 : pj_kpt kc_191tx G0 G103 := by rw [hG103]; exact pj_kpt_v kG80 rfl
              rw [← hG103]
              rw [pj_nm_e]
              refine pj_X_of (fun r h => pj_R_to (G103, 98, [(3, .int y100), (0, .ref 171), (1, .int v1), (2, .int v2)], [.ref 171, .ref 171], 0, 0) 98 3 (fun _ => rfl) h) ?_
              refine pj_X_of (fun r h => pj_T_gi iG103 rfl rfl h) ?_
              show pj_X _ _ G103 101 [(3, .int y100), (0, .ref 171), (1, .int v1), (2, .int v2)] [.int (pj_fi G103 171 22), .ref 171] _
              rw [← hy88, pj_nm_e]
              refine pj_X_eqi (show pj_fi G103 171 22 = y88 from by rw [hG103, pj_fi_wv_ne _ _ _ _ _ _ (by decide)]; exact hy88.symm) ?_
              refine pj_X_of (fun r h => pj_T_pf iG103 rfl rfl rfl h) ?_
              show pj_X _ _ (pj_wv G103 171 4 (.int y88)) 104 [(3, .int y100), (0, .ref 171), (1, .int v1), (2, .int v2)] [] _
              obtain ⟨G104, hG104⟩ : ∃ H, H = pj_wv G103 171 4 (.int y88) := ⟨_, rfl⟩
              have iG104 : pj_Inv G104 := by rw [hG104]; exact pj_Inv_wi iG103 (ci := 12) rfl (fun q hq => by cases hq; exact ⟨by show (0 : Int) ≤ _; omega, by show _ ≤ (10 : Int); omega⟩)
              have kG104 : pj_kpt kc_191tx G0 G104 := by rw [hG104]; exact pj_kpt_v kG103 rfl
              rw [← hG104]
              rw [pj_nm_e]
              refine pj_X_of (fun r h => pj_R_to (G104, 107, [(4, .int (Int32.ofInt 0)), (3, .int y100), (0, .ref 171), (1, .int v1), (2, .int v2)], [], 0, 0) 107 3 (fun _ => rfl) h) ?_
              have q105 : (pj_fi G104 171 30).toInt = y87.toInt := by rw [show pj_fi G104 171 30 = y87 from by rw [hG104, pj_fi_wv_ne _ _ _ _ _ _ (by decide)]; exact (by rw [hG103, pj_fi_wv_ne _ _ _ _ _ _ (by decide)]; exact hy87.symm)]
              have q106 : (pj_fi G104 171 22).toInt = y88.toInt := by rw [show pj_fi G104 171 22 = y88 from by rw [hG104, pj_fi_wv_ne _ _ _ _ _ _ (by decide)]; exact (by rw [hG103, pj_fi_wv_ne _ _ _ _ _ _ (by decide)]; exact hy88.symm)]
              have q107 : (pj_fi G104 171 21).toInt = y89.toInt := by rw [show pj_fi G104 171 21 = y89 from by rw [hG104, pj_fi_wv_ne _ _ _ _ _ _ (by decide)]; exact (by rw [hG103, pj_fi_wv_ne _ _ _ _ _ _ (by decide)]; exact hy89.symm)]
              have q108 : (pj_fi G104 171 3).toInt = y89.toInt := by rw [show pj_fi G104 171 3 = y89 from by rw [hG104, pj_fi_wv_ne _ _ _ _ _ _ (by decide)]; exact (by rw [hG103]; exact pj_fi_wi iG80.1 (ci := 12) rfl _)]
              have q109 : (pj_fi G104 171 4).toInt = y88.toInt := by rw [show pj_fi G104 171 4 = y88 from by rw [hG104]; exact pj_fi_wi iG103.1 (ci := 12) rfl _]
              have q110 : (pj_fi G104 171 16).toInt = y92.toInt := by rw [show pj_fi G104 171 16 = y92 from by rw [hG104, pj_fi_wv_ne _ _ _ _ _ _ (by decide)]; exact (by rw [hG103, pj_fi_wv_ne _ _ _ _ _ _ (by decide)]; exact hy92.symm)]
              have q111 : (pj_fi G104 171 30).toInt = y87.toInt := by rw [show pj_fi G104 171 30 = y87 from by rw [hG104, pj_fi_wv_ne _ _ _ _ _ _ (by decide)]; exact (by rw [hG103, pj_fi_wv_ne _ _ _ _ _ _ (by decide)]; exact hy87.symm)]
              have q112 : (pj_fi G104 171 22).toInt = y88.toInt := by rw [show pj_fi G104 171 22 = y88 from by rw [hG104, pj_fi_wv_ne _ _ _ _ _ _ (by decide)]; exact (by rw [hG103, pj_fi_wv_ne _ _ _ _ _ _ (by decide)]; exact hy88.symm)]
              have q113 : (pj_fi G104 171 21).toInt = y89.toInt := by rw [show pj_fi G104 171 21 = y89 from by rw [hG104, pj_fi_wv_ne _ _ _ _ _ _ (by decide)]; exact (by rw [hG103, pj_fi_wv_ne _ _ _ _ _ _ (by decide)]; exact hy89.symm)]
              have q114 : (pj_fi G104 171 3).toInt = y89.toInt := by rw [show pj_fi G104 171 3 = y89 from by rw [hG104, pj_fi_wv_ne _ _ _ _ _ _ (by decide)]; exact (by rw [hG103]; exact pj_fi_wi iG80.1 (ci := 12) rfl _)]
              have q115 : (pj_fi G104 171 4).toInt = y88.toInt := by rw [show pj_fi G104 171 4 = y88 from by rw [hG104]; exact pj_fi_wi iG103.1 (ci := 12) rfl _]
              have q116 : (pj_fi G104 171 16).toInt = y92.toInt := by rw [show pj_fi G104 171 16 = y92 from by rw [hG104, pj_fi_wv_ne _ _ _ _ _ _ (by decide)]; exact (by rw [hG103, pj_fi_wv_ne _ _ _ _ _ _ (by decide)]; exact hy92.symm)]
              have c117 : (pj_fi G104 171 4).toInt = (pj_fi G80 171 22).toInt := by omega
              have c118 : (pj_fi G104 171 3).toInt = (pj_fi G80 171 21).toInt := by omega
              exact pj_X_sub [(0, .ref 171), (1, .int v1), (2, .int v2), (3, .int y100), (4, .int (Int32.ofInt 0))] (show List.Nodup [0, 1, 2, 3, 4] by decide) ⟨rfl, rfl, rfl, rfl, rfl, trivial⟩ (ih.2 G104 iG104 kG104 v1 v2 y100 (Int32.ofInt 0) ⟨by omega, by omega⟩ ⟨by omega, by omega⟩ (pj_i32 _) ⟨by omega, by omega⟩ (by rw [c117, c118]; exact pj_rd_k (fun j => by rw [hG104, pj_ai_wv, hG103, pj_ai_wv]) rd102) (pj_ro_0 (by omega)) (by omega) (by omega) (by omega) (by omega))
            | false =>
              rw [pj_cF]
              have ub101 := pj_u0_geF b101
              refine pj_X_of (fun r h => pj_R_ifF rfl b101 h) ?_
              refine pj_X_of (fun r h => pj_R_to (G80, 87, [(3, .int y100), (0, .ref 171), (1, .int v1), (2, .int v2)], [.int y100], 0, 0) 87 2 (fun _ => rfl) h) ?_
              have q119 : (pj_fi G80 171 30).toInt = y87.toInt := by rw [show pj_fi G80 171 30 = y87 from hy87.symm]
              have q120 : (pj_fi G80 171 22).toInt = y88.toInt := by rw [show pj_fi G80 171 22 = y88 from hy88.symm]
              have q121 : (pj_fi G80 171 21).toInt = y89.toInt := by rw [show pj_fi G80 171 21 = y89 from hy89.symm]
              have q122 : (pj_fi G80 171 3).toInt = y90.toInt := by rw [show pj_fi G80 171 3 = y90 from hy90.symm]
              have q123 : (pj_fi G80 171 4).toInt = y91.toInt := by rw [show pj_fi G80 171 4 = y91 from hy91.symm]
              have q124 : (pj_fi G80 171 16).toInt = y92.toInt := by rw [show pj_fi G80 171 16 = y92 from hy92.symm]
              have t125 : pj_kpt ([(171, 17)], [171], []) G G := pj_kpt_r _ _
              have t126 : pj_kpt ([(171, 17)], [171], []) G G80 := pj_kpt_t t125 (pj_kpt_s jG80 rfl)
              exact pj_X_rt rfl rfl ⟨_, rfl, iG80, kG80, pj_i32 _, ⟨pj_RI_k x0_ t126 rfl, by omega⟩, rfl⟩
          | false =>
            rw [pj_cF]
            have ub93 := pj_u0_eqF b93
            refine pj_X_of (fun r h => pj_R_ifF rfl b93 h) ?_
            refine pj_X_of (fun r h => pj_R_to (G80, 66, [(0, .ref 171), (1, .int v1), (2, .int v2)], [.ref 171], 0, 0) 66 2 (fun _ => rfl) h) ?_
            have q127 : (pj_fi G80 171 30).toInt = y87.toInt := by rw [show pj_fi G80 171 30 = y87 from hy87.symm]
            have q128 : (pj_fi G80 171 22).toInt = y88.toInt := by rw [show pj_fi G80 171 22 = y88 from hy88.symm]
            have q129 : (pj_fi G80 171 21).toInt = y89.toInt := by rw [show pj_fi G80 171 21 = y89 from hy89.symm]
            have q130 : (pj_fi G80 171 3).toInt = y90.toInt := by rw [show pj_fi G80 171 3 = y90 from hy90.symm]
            have q131 : (pj_fi G80 171 4).toInt = y91.toInt := by rw [show pj_fi G80 171 4 = y91 from hy91.symm]
            have q132 : (pj_fi G80 171 16).toInt = y92.toInt := by rw [show pj_fi G80 171 16 = y92 from hy92.symm]
            refine pj_X_ca (vs := [.ref 171]) rfl (fun _ => rfl) ⟨Nat.le_of_ble_eq_true rfl, Nat.le_of_ble_eq_true rfl, pj_T_rcv iG80 rfl⟩ ⟨rfl, rfl⟩ (pj_Y_up (by decide) (ct_190x G80 iG80 (by omega))) ?_
            rintro _ G134 ⟨y133, rfl, iG134, jG134, ry133, ey133, fy133⟩
            replace ey133 := ey133 _ rfl
            rw [← fy133, pj_bd_e]
            have kG134 : pj_kpt kc_191tx G0 G134 := pj_kpt_t kG80 (pj_kpt_s jG134 rfl)
            have q135 : (pj_fi G134 171 30).toInt = (pj_fi G80 171 30).toInt := by rw [jG134.1 (171, 30) (by decide)]
            have q136 : (pj_fi G134 171 21).toInt = (pj_fi G80 171 21).toInt := by rw [jG134.1 (171, 21) (by decide)]
            have q137 : (pj_fi G134 171 3).toInt = (pj_fi G80 171 3).toInt := by rw [jG134.1 (171, 3) (by decide)]
            have q138 : (pj_fi G134 171 4).toInt = (pj_fi G80 171 4).toInt := by rw [jG134.1 (171, 4) (by decide)]
            have q139 : (pj_fi G134 171 16).toInt = (pj_fi G80 171 16).toInt := by rw [jG134.1 (171, 16) (by decide)]
            obtain ⟨y140, hy140⟩ : ∃ z : Int32, z = pj_fi G134 171 30 := ⟨_, rfl⟩
            have ey140 : (pj_fi G134 171 30).toInt = y140.toInt := by rw [hy140]
            have ry140 : (0 : Int) ≤ y140.toInt ∧ y140.toInt ≤ 16 := by rw [hy140]; exact iG134.2.1 171 30 (0, 16) rfl
            obtain ⟨y141, hy141⟩ : ∃ z : Int32, z = pj_fi G134 171 22 := ⟨_, rfl⟩
            have ey141 : (pj_fi G134 171 22).toInt = y141.toInt := by rw [hy141]
            have ry141 : (0 : Int) ≤ y141.toInt ∧ y141.toInt ≤ 10 := by rw [hy141]; exact iG134.2.1 171 22 (0, 10) rfl
            obtain ⟨y142, hy142⟩ : ∃ z : Int32, z = pj_fi G134 171 21 := ⟨_, rfl⟩
            have ey142 : (pj_fi G134 171 21).toInt = y142.toInt := by rw [hy142]
            have ry142 : (0 : Int) ≤ y142.toInt ∧ y142.toInt ≤ 8 := by rw [hy142]; exact iG134.2.1 171 21 (0, 8) rfl
            obtain ⟨y143, hy143⟩ : ∃ z : Int32, z = pj_fi G134 171 3 := ⟨_, rfl⟩
            have ey143 : (pj_fi G134 171 3).toInt = y143.toInt := by rw [hy143]
            have ry143 : (0 : Int) ≤ y143.toInt ∧ y143.toInt ≤ 8 := by rw [hy143]; exact iG134.2.1 171 3 (0, 8) rfl
            obtain ⟨y144, hy144⟩ : ∃ z : Int32, z = pj_fi G134 171 4 := ⟨_, rfl⟩
            have ey144 : (pj_fi G134 171 4).toInt = y144.toInt := by rw [hy144]
            have ry144 : (0 : Int) ≤ y144.toInt ∧ y144.toInt ≤ 10 := by rw [hy144]; exact iG134.2.1 171 4 (0, 10) rfl
            obtain ⟨y145, hy145⟩ : ∃ z : Int32, z = pj_fi G134 171 16 := ⟨_, rfl⟩
            have ey145 : (pj_fi G134 171 16).toInt = y145.toInt := by rw [hy145]
            have ry145 : (0 : Int) ≤ y145.toInt ∧ y145.toInt ≤ 80 := by rw [hy145]; exact iG134.2.1 171 16 (0, 80) rfl
            show pj_X _ _ G134 69 [(0, .ref 171), (1, .int v1), (2, .int v2)] [.int y133] _
            refine pj_X_of (fun r h => pj_R_to (G134, 43, [(2, .int y133), (0, .ref 171), (1, .int v1)], [], 0, 0) 43 3 (fun _ => rfl) h) ?_
            have q146 : (pj_fi G134 171 30).toInt = y140.toInt := by rw [show pj_fi G134 171 30 = y140 from hy140.symm]
            have q147 : (pj_fi G134 171 22).toInt = y141.toInt := by rw [show pj_fi G134 171 22 = y141 from hy141.symm]
            have q148 : (pj_fi G134 171 21).toInt = y142.toInt := by rw [show pj_fi G134 171 21 = y142 from hy142.symm]
            have q149 : (pj_fi G134 171 3).toInt = y143.toInt := by rw [show pj_fi G134 171 3 = y143 from hy143.symm]
            have q150 : (pj_fi G134 171 4).toInt = y144.toInt := by rw [show pj_fi G134 171 4 = y144 from hy144.symm]
            have q151 : (pj_fi G134 171 16).toInt = y145.toInt := by rw [show pj_fi G134 171 16 = y145 from hy145.symm]
            have t152 : pj_kpt ([(171, 17), (171, 22), (171, 23)], [171, 181], [181]) G G := pj_kpt_r _ _
            have t153 : pj_kpt ([(171, 17), (171, 22), (171, 23)], [171, 181], [181]) G G80 := pj_kpt_t t152 (pj_kpt_s jG80 rfl)
            have t154 : pj_kpt ([(171, 17), (171, 22), (171, 23)], [171, 181], [181]) G G134 := pj_kpt_t t153 (pj_kpt_s jG134 rfl)
            have rd155 : 1 ≤ v2.toInt → pj_rd G80 (pj_fi G80 171 22).toInt (pj_fi G80 171 21).toInt := fun q => by rw [show pj_fi G80 171 22 = pj_fi G 171 22 from by rw [jG80.1 (171, 22) (by decide)], show pj_fi G80 171 21 = pj_fi G 171 21 from by rw [jG80.1 (171, 21) (by decide)]]; exact pj_rd_k (fun j => by rw [jG80.2.2 181 (by decide)]) (x1_ q)
            exact pj_X_sub [(0, .ref 171), (1, .int v1), (2, .int y133)] (show List.Nodup [0, 1, 2] by decide) ⟨rfl, rfl, rfl, trivial⟩ (ih.1 G134 iG134 kG134 v1 y133 ⟨by omega, by omega⟩ ⟨by omega, by omega⟩ (pj_RI_k x0_ t154 rfl) (fun q => (ey133.2 q).2 (rd155 (by omega))) (by omega) (by omega) (by omega) (by omega))
    · intro G hI hK v1 v2 v3 v4 rv1 rv2 rv3 rv4 x0_ x1_ x2_ x3_ x4_ hm
      rw [L_192tx_s1]
      obtain ⟨y156, hy156⟩ : ∃ z : Int32, z = pj_fi G 171 30 := ⟨_, rfl⟩
      have ey156 : (pj_fi G 171 30).toInt = y156.toInt := by rw [hy156]
      have ry156 : (0 : Int) ≤ y156.toInt ∧ y156.toInt ≤ 16 := by rw [hy156]; exact hI.2.1 171 30 (0, 16) rfl
      obtain ⟨y157, hy157⟩ : ∃ z : Int32, z = pj_fi G 171 22 := ⟨_, rfl⟩
      have ey157 : (pj_fi G 171 22).toInt = y157.toInt := by rw [hy157]
      have ry157 : (0 : Int) ≤ y157.toInt ∧ y157.toInt ≤ 10 := by rw [hy157]; exact hI.2.1 171 22 (0, 10) rfl
      obtain ⟨y158, hy158⟩ : ∃ z : Int32, z = pj_fi G 171 21 := ⟨_, rfl⟩
      have ey158 : (pj_fi G 171 21).toInt = y158.toInt := by rw [hy158]
      have ry158 : (0 : Int) ≤ y158.toInt ∧ y158.toInt ≤ 8 := by rw [hy158]; exact hI.2.1 171 21 (0, 8) rfl
      obtain ⟨y159, hy159⟩ : ∃ z : Int32, z = pj_fi G 171 3 := ⟨_, rfl⟩
      have ey159 : (pj_fi G 171 3).toInt = y159.toInt := by rw [hy159]
      have ry159 : (0 : Int) ≤ y159.toInt ∧ y159.toInt ≤ 8 := by rw [hy159]; exact hI.2.1 171 3 (0, 8) rfl
      obtain ⟨y160, hy160⟩ : ∃ z : Int32, z = pj_fi G 171 4 := ⟨_, rfl⟩
      have ey160 : (pj_fi G 171 4).toInt = y160.toInt := by rw [hy160]
      have ry160 : (0 : Int) ≤ y160.toInt ∧ y160.toInt ≤ 10 := by rw [hy160]; exact hI.2.1 171 4 (0, 10) rfl
      obtain ⟨y161, hy161⟩ : ∃ z : Int32, z = pj_fi G 171 16 := ⟨_, rfl⟩
      have ey161 : (pj_fi G 171 16).toInt = y161.toInt := by rw [hy161]
      have ry161 : (0 : Int) ≤ y161.toInt ∧ y161.toInt ≤ 80 := by rw [hy161]; exact hI.2.1 171 16 (0, 80) rfl
      refine pj_X_of (fun r h => pj_R_to (G, 110, [(0, .ref 171), (1, .int v1), (2, .int v2), (3, .int v3), (4, .int v4)], [.ref 171, .int v4], 0, 0) 110 3 (fun _ => rfl) h) ?_
      refine pj_X_of (fun r h => pj_T_gi hI rfl rfl h) ?_
      show pj_X _ _ G 113 [(0, .ref 171), (1, .int v1), (2, .int v2), (3, .int v3), (4, .int v4)] [.int (pj_fi G 171 4), .int v4] _
      rw [← hy160, pj_nm_e]
      cases b162 : pj_c1 .ge v4 y160 with
      | true =>
        rw [pj_cT]
        have ub162 := pj_u_geT b162
        refine pj_X_of (fun r h => pj_R_icT 192 rfl rfl b162 h) ?_
        refine pj_X_of (fun r h => pj_R_to (G, 194, [(0, .ref 171), (1, .int v1), (2, .int v2), (3, .int v3), (4, .int v4)], [.int (Int32.ofInt 0), .ref 171], 0, 0) 194 3 (fun _ => rfl) h) ?_
        refine pj_X_of (fun r h => pj_T_pf hI rfl rfl rfl h) ?_
        show pj_X _ _ (pj_wv G 171 5 (.int (Int32.ofInt 0))) 197 [(0, .ref 171), (1, .int v1), (2, .int v2), (3, .int v3), (4, .int v4)] [] _
        obtain ⟨G163, hG163⟩ : ∃ H, H = pj_wv G 171 5 (.int (Int32.ofInt 0)) := ⟨_, rfl⟩
        have iG163 : pj_Inv G163 := by rw [hG163]; exact pj_Inv_wi hI (ci := 12) rfl (fun q hq => by cases hq; exact ⟨by show (0 : Int) ≤ _; omega, by show _ ≤ (6 : Int); omega⟩)
        have kG163 : pj_kpt kc_191tx G0 G163 := by rw [hG163]; exact pj_kpt_v hK rfl
        rw [← hG163]
        rw [pj_nm_e]
        refine pj_X_of (fun r h => pj_R_to (G163, 199, [(0, .ref 171), (1, .int v1), (2, .int v2), (3, .int v3), (4, .int v4)], [.int (Int32.ofInt 0), .ref 171], 0, 0) 199 3 (fun _ => rfl) h) ?_
        refine pj_X_of (fun r h => pj_T_pf iG163 rfl rfl rfl h) ?_
        show pj_X _ _ (pj_wv G163 171 6 (.int (Int32.ofInt 0))) 202 [(0, .ref 171), (1, .int v1), (2, .int v2), (3, .int v3), (4, .int v4)] [] _
        obtain ⟨G164, hG164⟩ : ∃ H, H = pj_wv G163 171 6 (.int (Int32.ofInt 0)) := ⟨_, rfl⟩
        have iG164 : pj_Inv G164 := by rw [hG164]; exact pj_Inv_wi iG163 (ci := 12) rfl (fun q hq => by cases hq; exact ⟨by show (0 : Int) ≤ _; omega, by show _ ≤ (6 : Int); omega⟩)
        have kG164 : pj_kpt kc_191tx G0 G164 := by rw [hG164]; exact pj_kpt_v kG163 rfl
        rw [← hG164]
        rw [pj_nm_e]
        refine pj_X_of (fun r h => pj_R_to (G164, 203, [(0, .ref 171), (1, .int v1), (2, .int v2), (3, .int v3), (4, .int v4)], [.ref 171], 0, 0) 203 2 (fun _ => rfl) h) ?_
        refine pj_X_of (fun r h => pj_T_gr iG164 rfl rfl rfl h) ?_
        refine pj_X_of (fun r h => pj_R_to (G164, 209, [(0, .ref 171), (1, .int v1), (2, .int v2), (3, .int v3), (4, .int v4)], [.int (Int32.ofInt 0), .int ((Int8.ofInt 30).toInt32), .ref 179], 0, 0) 209 3 (fun _ => rfl) h) ?_
        refine pj_X_of (fun r h => pj_T_is iG164 rfl rfl (by omega) (by omega) h) ?_
        show pj_X _ _ (pj_wa G164 179 ((Int8.ofInt 30).toInt32).toInt.toNat (Int32.ofInt 0)) 210 [(0, .ref 171), (1, .int v1), (2, .int v2), (3, .int v3), (4, .int v4)] [] _
        obtain ⟨G165, hG165⟩ : ∃ H, H = pj_wa G164 179 ((Int8.ofInt 30).toInt32).toInt.toNat (Int32.ofInt 0) := ⟨_, rfl⟩
        have iG165 : pj_Inv G165 := by rw [hG165]; exact pj_Inv_wa iG164 rfl (fun q hq => by cases hq) (fun n hn => ⟨fun h1 => ⟨fun h2 => by omega, fun h2 => by omega⟩, fun h1 => by omega⟩)
        have kG165 : pj_kpt kc_191tx G0 G165 := by rw [hG165]; exact pj_kpt_a kG164 rfl
        rw [← hG165]
        rw [pj_nm_e]
        refine pj_X_of (fun r h => pj_R_to (G165, 211, [(0, .ref 171), (1, .int v1), (2, .int v2), (3, .int v3), (4, .int v4)], [.ref 171], 0, 0) 211 2 (fun _ => rfl) h) ?_
        refine pj_X_of (fun r h => pj_T_gr iG165 rfl rfl rfl h) ?_
        refine pj_X_of (fun r h => pj_R_to (G165, 217, [(0, .ref 171), (1, .int v1), (2, .int v2), (3, .int v3), (4, .int v4)], [.int (Int32.ofInt 0), .int ((Int8.ofInt 31).toInt32), .ref 179], 0, 0) 217 3 (fun _ => rfl) h) ?_
        refine pj_X_of (fun r h => pj_T_is iG165 rfl rfl (by omega) (by omega) h) ?_
        show pj_X _ _ (pj_wa G165 179 ((Int8.ofInt 31).toInt32).toInt.toNat (Int32.ofInt 0)) 218 [(0, .ref 171), (1, .int v1), (2, .int v2), (3, .int v3), (4, .int v4)] [] _
        obtain ⟨G166, hG166⟩ : ∃ H, H = pj_wa G165 179 ((Int8.ofInt 31).toInt32).toInt.toNat (Int32.ofInt 0) := ⟨_, rfl⟩
        have iG166 : pj_Inv G166 := by rw [hG166]; exact pj_Inv_wa iG165 rfl (fun q hq => by cases hq) (fun n hn => ⟨fun h1 => ⟨fun h2 => by omega, fun h2 => by omega⟩, fun h1 => by omega⟩)
        have kG166 : pj_kpt kc_191tx G0 G166 := by rw [hG166]; exact pj_kpt_a kG165 rfl
        rw [← hG166]
        rw [pj_nm_e]
        refine pj_X_of (fun r h => pj_R_to (G166, 219, [(0, .ref 171), (1, .int v1), (2, .int v2), (3, .int v3), (4, .int v4)], [.ref 171], 0, 0) 219 2 (fun _ => rfl) h) ?_
        have q167 : (pj_fi G166 171 30).toInt = y156.toInt := by rw [show pj_fi G166 171 30 = y156 from by rw [hG166, pj_fi_wa]; exact (by rw [hG165, pj_fi_wa]; exact (by rw [hG164, pj_fi_wv_ne _ _ _ _ _ _ (by decide)]; exact (by rw [hG163, pj_fi_wv_ne _ _ _ _ _ _ (by decide)]; exact hy156.symm)))]
        have q168 : (pj_fi G166 171 22).toInt = y157.toInt := by rw [show pj_fi G166 171 22 = y157 from by rw [hG166, pj_fi_wa]; exact (by rw [hG165, pj_fi_wa]; exact (by rw [hG164, pj_fi_wv_ne _ _ _ _ _ _ (by decide)]; exact (by rw [hG163, pj_fi_wv_ne _ _ _ _ _ _ (by decide)]; exact hy157.symm)))]
        have q169 : (pj_fi G166 171 21).toInt = y158.toInt := by rw [show pj_fi G166 171 21 = y158 from by rw [hG166, pj_fi_wa]; exact (by rw [hG165, pj_fi_wa]; exact (by rw [hG164, pj_fi_wv_ne _ _ _ _ _ _ (by decide)]; exact (by rw [hG163, pj_fi_wv_ne _ _ _ _ _ _ (by decide)]; exact hy158.symm)))]
        have q170 : (pj_fi G166 171 3).toInt = y159.toInt := by rw [show pj_fi G166 171 3 = y159 from by rw [hG166, pj_fi_wa]; exact (by rw [hG165, pj_fi_wa]; exact (by rw [hG164, pj_fi_wv_ne _ _ _ _ _ _ (by decide)]; exact (by rw [hG163, pj_fi_wv_ne _ _ _ _ _ _ (by decide)]; exact hy159.symm)))]
        have q171 : (pj_fi G166 171 4).toInt = y160.toInt := by rw [show pj_fi G166 171 4 = y160 from by rw [hG166, pj_fi_wa]; exact (by rw [hG165, pj_fi_wa]; exact (by rw [hG164, pj_fi_wv_ne _ _ _ _ _ _ (by decide)]; exact (by rw [hG163, pj_fi_wv_ne _ _ _ _ _ _ (by decide)]; exact hy160.symm)))]
        have q172 : (pj_fi G166 171 16).toInt = y161.toInt := by rw [show pj_fi G166 171 16 = y161 from by rw [hG166, pj_fi_wa]; exact (by rw [hG165, pj_fi_wa]; exact (by rw [hG164, pj_fi_wv_ne _ _ _ _ _ _ (by decide)]; exact (by rw [hG163, pj_fi_wv_ne _ _ _ _ _ _ (by decide)]; exact hy161.symm)))]
        refine pj_X_ca (vs := [.ref 171]) rfl (fun _ => rfl) ⟨Nat.le_of_ble_eq_true rfl, Nat.le_of_ble_eq_true rfl, pj_T_rcv iG166 rfl⟩ ⟨rfl, rfl⟩ (pj_Y_up (by decide) (ct_192x G166 iG166)) ?_
        rintro _ G174 ⟨rfl, iG174, jG174, eG174, fy173⟩
        rw [← fy173, pj_nm_e]
        have kG174 : pj_kpt kc_191tx G0 G174 := pj_kpt_t kG166 (pj_kpt_s jG174 rfl)
        have q175 : (pj_fi G174 171 22).toInt = (pj_fi G166 171 22).toInt := by rw [jG174.1 (171, 22) (by decide)]
        have q176 : (pj_fi G174 171 21).toInt = (pj_fi G166 171 21).toInt := by rw [jG174.1 (171, 21) (by decide)]
        have q177 : (pj_fi G174 171 3).toInt = (pj_fi G166 171 3).toInt := by rw [jG174.1 (171, 3) (by decide)]
        have q178 : (pj_fi G174 171 4).toInt = (pj_fi G166 171 4).toInt := by rw [jG174.1 (171, 4) (by decide)]
        have q179 : (pj_fi G174 171 16).toInt = (pj_fi G166 171 16).toInt := by rw [jG174.1 (171, 16) (by decide)]
        obtain ⟨y180, hy180⟩ : ∃ z : Int32, z = pj_fi G174 171 30 := ⟨_, rfl⟩
        have ey180 : (pj_fi G174 171 30).toInt = y180.toInt := by rw [hy180]
        have ry180 : (0 : Int) ≤ y180.toInt ∧ y180.toInt ≤ 16 := by rw [hy180]; exact iG174.2.1 171 30 (0, 16) rfl
        obtain ⟨y181, hy181⟩ : ∃ z : Int32, z = pj_fi G174 171 22 := ⟨_, rfl⟩
        have ey181 : (pj_fi G174 171 22).toInt = y181.toInt := by rw [hy181]
        have ry181 : (0 : Int) ≤ y181.toInt ∧ y181.toInt ≤ 10 := by rw [hy181]; exact iG174.2.1 171 22 (0, 10) rfl
        obtain ⟨y182, hy182⟩ : ∃ z : Int32, z = pj_fi G174 171 21 := ⟨_, rfl⟩
        have ey182 : (pj_fi G174 171 21).toInt = y182.toInt := by rw [hy182]
        have ry182 : (0 : Int) ≤ y182.toInt ∧ y182.toInt ≤ 8 := by rw [hy182]; exact iG174.2.1 171 21 (0, 8) rfl
        obtain ⟨y183, hy183⟩ : ∃ z : Int32, z = pj_fi G174 171 3 := ⟨_, rfl⟩
        have ey183 : (pj_fi G174 171 3).toInt = y183.toInt := by rw [hy183]
        have ry183 : (0 : Int) ≤ y183.toInt ∧ y183.toInt ≤ 8 := by rw [hy183]; exact iG174.2.1 171 3 (0, 8) rfl
        obtain ⟨y184, hy184⟩ : ∃ z : Int32, z = pj_fi G174 171 4 := ⟨_, rfl⟩
        have ey184 : (pj_fi G174 171 4).toInt = y184.toInt := by rw [hy184]
        have ry184 : (0 : Int) ≤ y184.toInt ∧ y184.toInt ≤ 10 := by rw [hy184]; exact iG174.2.1 171 4 (0, 10) rfl
        obtain ⟨y185, hy185⟩ : ∃ z : Int32, z = pj_fi G174 171 16 := ⟨_, rfl⟩
        have ey185 : (pj_fi G174 171 16).toInt = y185.toInt := by rw [hy185]
        have ry185 : (0 : Int) ≤ y185.toInt ∧ y185.toInt ≤ 80 := by rw [hy185]; exact iG174.2.1 171 16 (0, 80) rfl
        show pj_X _ _ G174 222 [(0, .ref 171), (1, .int v1), (2, .int v2), (3, .int v3), (4, .int v4)] [] _
        refine pj_X_of (fun r h => pj_R_to (G174, 223, [(0, .ref 171), (1, .int v1), (2, .int v2), (3, .int v3), (4, .int v4)], [.ref 171], 0, 0) 223 2 (fun _ => rfl) h) ?_
        refine pj_X_of (fun r h => pj_T_gi iG174 rfl rfl h) ?_
        show pj_X _ _ G174 226 [(0, .ref 171), (1, .int v1), (2, .int v2), (3, .int v3), (4, .int v4)] [.int (pj_fi G174 171 4)] _
        rw [← hy184, pj_nm_e]
        have q186 : (pj_fi G174 171 30).toInt = y180.toInt := by rw [show pj_fi G174 171 30 = y180 from hy180.symm]
        have q187 : (pj_fi G174 171 22).toInt = y181.toInt := by rw [show pj_fi G174 171 22 = y181 from hy181.symm]
        have q188 : (pj_fi G174 171 21).toInt = y182.toInt := by rw [show pj_fi G174 171 21 = y182 from hy182.symm]
        have q189 : (pj_fi G174 171 3).toInt = y183.toInt := by rw [show pj_fi G174 171 3 = y183 from hy183.symm]
        have q190 : (pj_fi G174 171 4).toInt = y184.toInt := by rw [show pj_fi G174 171 4 = y184 from hy184.symm]
        have q191 : (pj_fi G174 171 16).toInt = y185.toInt := by rw [show pj_fi G174 171 16 = y185 from hy185.symm]
        have hro : pj_ro G174 (pj_fi G174 171 4).toInt (pj_fi G174 171 3).toInt := by rw [show pj_fi G174 171 4 = pj_fi G 171 4 from by rw [jG174.1 (171, 4) (by decide), hG166, pj_fi_wa, hG165, pj_fi_wa, hG164, pj_fi_wv_ne _ _ _ _ _ _ (by decide), hG163, pj_fi_wv_ne _ _ _ _ _ _ (by decide)], show pj_fi G174 171 3 = pj_fi G 171 3 from by rw [jG174.1 (171, 3) (by decide), hG166, pj_fi_wa, hG165, pj_fi_wa, hG164, pj_fi_wv_ne _ _ _ _ _ _ (by decide), hG163, pj_fi_wv_ne _ _ _ _ _ _ (by decide)], show (pj_fi G 171 4).toInt = v4.toInt by omega]; exact pj_ro_k (fun j => by rw [jG174.2.2 173 (by decide), hG166, pj_ai_wa_ne _ _ _ _ _ _ (by decide), hG165, pj_ai_wa_ne _ _ _ _ _ _ (by decide), hG164, pj_ai_wv, hG163, pj_ai_wv]) (fun j => by rw [jG174.2.2 174 (by decide), hG166, pj_ai_wa_ne _ _ _ _ _ _ (by decide), hG165, pj_ai_wa_ne _ _ _ _ _ _ (by decide), hG164, pj_ai_wv, hG163, pj_ai_wv]) x1_
        exact pj_X_rt rfl rfl ⟨_, rfl, iG174, kG174, pj_i32 _, ⟨pj_RI_of hro p0_ (kG174.1 (171, 26) (by decide)) (fun j => kG174.2.2 182 (by decide) j), by omega⟩, rfl⟩
      | false =>
        rw [pj_cF]
        have ub162 := pj_u_geF b162
        refine pj_X_of (fun r h => pj_R_icF rfl b162 h) ?_
        have hq := x0_ v4.toInt.toNat (by omega)
        refine pj_X_of (fun r h => pj_R_to (G, 117, [(0, .ref 171), (1, .int v1), (2, .int v2), (3, .int v3), (4, .int v4)], [.ref 171], 0, 0) 117 2 (fun _ => rfl) h) ?_
        refine pj_X_of (fun r h => pj_T_gr hI rfl rfl rfl h) ?_
        refine pj_X_of (fun r h => pj_R_to (G, 123, [(0, .ref 171), (1, .int v1), (2, .int v2), (3, .int v3), (4, .int v4)], [.ref 171, .int v4, .ref 173], 0, 0) 123 3 (fun _ => rfl) h) ?_
        refine pj_X_of (fun r h => pj_T_gr hI rfl rfl rfl h) ?_
        refine pj_X_of (fun r h => pj_R_to (G, 130, [(0, .ref 171), (1, .int v1), (2, .int v2), (3, .int v3), (4, .int v4)], [.int ((Int32.ofInt 4) * v4), .ref 181, .int v4, .ref 173], 0, 0) 130 4 (fun _ => rfl) h) ?_
        obtain ⟨z192, hz192⟩ : ∃ z : Int32, z = (Int32.ofInt 4) * v4 := ⟨_, rfl⟩
        refine pj_X_eqi hz192.symm ?_
        rw [← hz192, pj_nm_e]
        have fz192_0 : z192.toInt = 4 * v4.toInt := by rw [hz192]; exact pj_mulL (by decide) (by omega) (by omega)
        refine pj_X_of (fun r h => pj_T_il hI rfl rfl (by omega) (by omega) h) ?_
        show pj_X _ _ G 131 [(0, .ref 171), (1, .int v1), (2, .int v2), (3, .int v3), (4, .int v4)] [.int (pj_ai G 181 z192.toInt.toNat), .int v4, .ref 173] _
        obtain ⟨z193, hz193⟩ : ∃ z : Int32, z = pj_ai G 181 z192.toInt.toNat := ⟨_, rfl⟩
        refine pj_X_eqi hz193.symm ?_
        rw [← hz193, pj_nm_e]
        have ez193 : (pj_ai G 181 z192.toInt.toNat).toInt = z193.toInt := by rw [hz193]
        have fz193_0 : (-1 : Int) ≤ z193.toInt ∧ z193.toInt ≤ 99 ∧ (z193.toInt ≤ -1 ∨ -1 ≤ z193.toInt) := by rw [hz193]; exact hI.2.2.1 181 (40, -1, 99, -1, -1) rfl _ (by show _ < 40; omega)
        have k194 : z193.toInt = (pj_ai G 181 (4 * v4.toInt.toNat)).toInt := by rw [hz193, show z192.toInt.toNat = 4 * v4.toInt.toNat by omega]
        refine pj_X_of (fun r h => pj_T_is hI rfl rfl (by omega) (by omega) h) ?_
        show pj_X _ _ (pj_wa G 173 v4.toInt.toNat z193) 132 [(0, .ref 171), (1, .int v1), (2, .int v2), (3, .int v3), (4, .int v4)] [] _
        obtain ⟨G195, hG195⟩ : ∃ H, H = pj_wa G 173 v4.toInt.toNat z193 := ⟨_, rfl⟩
        have iG195 : pj_Inv G195 := by rw [hG195]; exact pj_Inv_wa hI rfl (fun q hq => by cases hq; exact ⟨by show (0 : Int) ≤ _; omega, by show _ ≤ (7 : Int); omega, by show _ ≤ (0 : Int) ∨ (0 : Int) ≤ _; omega⟩) (fun n hn => by cases hn)
        have kG195 : pj_kpt kc_191tx G0 G195 := by rw [hG195]; exact pj_kpt_a hK rfl
        rw [← hG195]
        rw [pj_nm_e]
        refine pj_X_of (fun r h => pj_R_to (G195, 133, [(0, .ref 171), (1, .int v1), (2, .int v2), (3, .int v3), (4, .int v4)], [.ref 171], 0, 0) 133 2 (fun _ => rfl) h) ?_
        refine pj_X_of (fun r h => pj_T_gr iG195 rfl rfl rfl h) ?_
        refine pj_X_of (fun r h => pj_R_to (G195, 139, [(0, .ref 171), (1, .int v1), (2, .int v2), (3, .int v3), (4, .int v4)], [.ref 171, .int v4, .ref 174], 0, 0) 139 3 (fun _ => rfl) h) ?_
        refine pj_X_of (fun r h => pj_T_gr iG195 rfl rfl rfl h) ?_
        refine pj_X_of (fun r h => pj_R_to (G195, 146, [(0, .ref 171), (1, .int v1), (2, .int v2), (3, .int v3), (4, .int v4)], [.int ((Int32.ofInt 4) * v4), .ref 181, .int v4, .ref 174], 0, 0) 146 4 (fun _ => rfl) h) ?_
        refine pj_X_eqi hz192.symm ?_
        refine pj_X_of (fun r h => pj_R_to (G195, 148, [(0, .ref 171), (1, .int v1), (2, .int v2), (3, .int v3), (4, .int v4)], [.int (z192 + (Int32.ofInt 1)), .ref 181, .int v4, .ref 174], 0, 0) 148 3 (fun _ => rfl) h) ?_
        obtain ⟨z196, hz196⟩ : ∃ z : Int32, z = z192 + (Int32.ofInt 1) := ⟨_, rfl⟩
        refine pj_X_eqi hz196.symm ?_
        rw [← hz196, pj_nm_e]
        have fz196_0 : z196.toInt = z192.toInt + (Int32.ofInt 1).toInt := by rw [hz196]; exact pj_addI (by have := pj_i32 z192; have := pj_i32 (Int32.ofInt 1); omega) (by have := pj_i32 z192; have := pj_i32 (Int32.ofInt 1); omega)
        refine pj_X_of (fun r h => pj_T_il iG195 rfl rfl (by omega) (by omega) h) ?_
        show pj_X _ _ G195 149 [(0, .ref 171), (1, .int v1), (2, .int v2), (3, .int v3), (4, .int v4)] [.int (pj_ai G195 181 z196.toInt.toNat), .int v4, .ref 174] _
        obtain ⟨z197, hz197⟩ : ∃ z : Int32, z = pj_ai G195 181 z196.toInt.toNat := ⟨_, rfl⟩
        refine pj_X_eqi hz197.symm ?_
        rw [← hz197, pj_nm_e]
        have ez197 : (pj_ai G195 181 z196.toInt.toNat).toInt = z197.toInt := by rw [hz197]
        have fz197_0 : (-1 : Int) ≤ z197.toInt ∧ z197.toInt ≤ 99 ∧ (z197.toInt ≤ -1 ∨ -1 ≤ z197.toInt) := by rw [hz197]; exact iG195.2.2.1 181 (40, -1, 99, -1, -1) rfl _ (by show _ < 40; omega)
        have k198 : z197.toInt = (pj_ai G 181 (4 * v4.toInt.toNat + 1)).toInt := by rw [hz197, hG195, pj_ai_wa_ne _ _ _ _ _ _ (by decide), show z196.toInt.toNat = 4 * v4.toInt.toNat + 1 by omega]
        refine pj_X_of (fun r h => pj_T_is iG195 rfl rfl (by omega) (by omega) h) ?_
        show pj_X _ _ (pj_wa G195 174 v4.toInt.toNat z197) 150 [(0, .ref 171), (1, .int v1), (2, .int v2), (3, .int v3), (4, .int v4)] [] _
        obtain ⟨G199, hG199⟩ : ∃ H, H = pj_wa G195 174 v4.toInt.toNat z197 := ⟨_, rfl⟩
        have iG199 : pj_Inv G199 := by rw [hG199]; exact pj_Inv_wa iG195 rfl (fun q hq => by cases hq; exact ⟨by show (0 : Int) ≤ _; omega, by show _ ≤ (7 : Int); omega, by show _ ≤ (0 : Int) ∨ (0 : Int) ≤ _; omega⟩) (fun n hn => by cases hn)
        have kG199 : pj_kpt kc_191tx G0 G199 := by rw [hG199]; exact pj_kpt_a kG195 rfl
        rw [← hG199]
        rw [pj_nm_e]
        refine pj_X_of (fun r h => pj_R_to (G199, 151, [(0, .ref 171), (1, .int v1), (2, .int v2), (3, .int v3), (4, .int v4)], [.ref 171], 0, 0) 151 2 (fun _ => rfl) h) ?_
        refine pj_X_of (fun r h => pj_T_gr iG199 rfl rfl rfl h) ?_
        refine pj_X_of (fun r h => pj_R_to (G199, 157, [(0, .ref 171), (1, .int v1), (2, .int v2), (3, .int v3), (4, .int v4)], [.ref 171, .int v4, .ref 175], 0, 0) 157 3 (fun _ => rfl) h) ?_
        refine pj_X_of (fun r h => pj_T_gr iG199 rfl rfl rfl h) ?_
        refine pj_X_of (fun r h => pj_R_to (G199, 164, [(0, .ref 171), (1, .int v1), (2, .int v2), (3, .int v3), (4, .int v4)], [.int ((Int32.ofInt 4) * v4), .ref 181, .int v4, .ref 175], 0, 0) 164 4 (fun _ => rfl) h) ?_
        refine pj_X_eqi hz192.symm ?_
        refine pj_X_of (fun r h => pj_R_to (G199, 166, [(0, .ref 171), (1, .int v1), (2, .int v2), (3, .int v3), (4, .int v4)], [.int (z192 + (Int32.ofInt 2)), .ref 181, .int v4, .ref 175], 0, 0) 166 3 (fun _ => rfl) h) ?_
        obtain ⟨z200, hz200⟩ : ∃ z : Int32, z = z192 + (Int32.ofInt 2) := ⟨_, rfl⟩
        refine pj_X_eqi hz200.symm ?_
        rw [← hz200, pj_nm_e]
        have fz200_0 : z200.toInt = z192.toInt + (Int32.ofInt 2).toInt := by rw [hz200]; exact pj_addI (by have := pj_i32 z192; have := pj_i32 (Int32.ofInt 2); omega) (by have := pj_i32 z192; have := pj_i32 (Int32.ofInt 2); omega)
        refine pj_X_of (fun r h => pj_T_il iG199 rfl rfl (by omega) (by omega) h) ?_
        show pj_X _ _ G199 167 [(0, .ref 171), (1, .int v1), (2, .int v2), (3, .int v3), (4, .int v4)] [.int (pj_ai G199 181 z200.toInt.toNat), .int v4, .ref 175] _
        obtain ⟨z201, hz201⟩ : ∃ z : Int32, z = pj_ai G199 181 z200.toInt.toNat := ⟨_, rfl⟩
        refine pj_X_eqi hz201.symm ?_
        rw [← hz201, pj_nm_e]
        have ez201 : (pj_ai G199 181 z200.toInt.toNat).toInt = z201.toInt := by rw [hz201]
        have fz201_0 : (-1 : Int) ≤ z201.toInt ∧ z201.toInt ≤ 99 ∧ (z201.toInt ≤ -1 ∨ -1 ≤ z201.toInt) := by rw [hz201]; exact iG199.2.2.1 181 (40, -1, 99, -1, -1) rfl _ (by show _ < 40; omega)
        have k202 : z201.toInt = (pj_ai G 181 (4 * v4.toInt.toNat + 2)).toInt := by rw [hz201, hG199, pj_ai_wa_ne _ _ _ _ _ _ (by decide), hG195, pj_ai_wa_ne _ _ _ _ _ _ (by decide), show z200.toInt.toNat = 4 * v4.toInt.toNat + 2 by omega]
        refine pj_X_of (fun r h => pj_T_is iG199 rfl rfl (by omega) (by omega) h) ?_
        show pj_X _ _ (pj_wa G199 175 v4.toInt.toNat z201) 168 [(0, .ref 171), (1, .int v1), (2, .int v2), (3, .int v3), (4, .int v4)] [] _
        obtain ⟨G203, hG203⟩ : ∃ H, H = pj_wa G199 175 v4.toInt.toNat z201 := ⟨_, rfl⟩
        have iG203 : pj_Inv G203 := by rw [hG203]; exact pj_Inv_wa iG199 rfl (fun q hq => by cases hq; exact ⟨by show (0 : Int) ≤ _; omega, by show _ ≤ (99 : Int); omega, by show _ ≤ (0 : Int) ∨ (0 : Int) ≤ _; omega⟩) (fun n hn => by cases hn)
        have kG203 : pj_kpt kc_191tx G0 G203 := by rw [hG203]; exact pj_kpt_a kG199 rfl
        rw [← hG203]
        rw [pj_nm_e]
        refine pj_X_of (fun r h => pj_R_to (G203, 169, [(0, .ref 171), (1, .int v1), (2, .int v2), (3, .int v3), (4, .int v4)], [.ref 171], 0, 0) 169 2 (fun _ => rfl) h) ?_
        refine pj_X_of (fun r h => pj_T_gr iG203 rfl rfl rfl h) ?_
        refine pj_X_of (fun r h => pj_R_to (G203, 175, [(0, .ref 171), (1, .int v1), (2, .int v2), (3, .int v3), (4, .int v4)], [.ref 171, .int v4, .ref 176], 0, 0) 175 3 (fun _ => rfl) h) ?_
        refine pj_X_of (fun r h => pj_T_gr iG203 rfl rfl rfl h) ?_
        refine pj_X_of (fun r h => pj_R_to (G203, 182, [(0, .ref 171), (1, .int v1), (2, .int v2), (3, .int v3), (4, .int v4)], [.int ((Int32.ofInt 4) * v4), .ref 181, .int v4, .ref 176], 0, 0) 182 4 (fun _ => rfl) h) ?_
        refine pj_X_eqi hz192.symm ?_
        refine pj_X_of (fun r h => pj_R_to (G203, 184, [(0, .ref 171), (1, .int v1), (2, .int v2), (3, .int v3), (4, .int v4)], [.int (z192 + (Int32.ofInt 3)), .ref 181, .int v4, .ref 176], 0, 0) 184 3 (fun _ => rfl) h) ?_
        obtain ⟨z204, hz204⟩ : ∃ z : Int32, z = z192 + (Int32.ofInt 3) := ⟨_, rfl⟩
        refine pj_X_eqi hz204.symm ?_
        rw [← hz204, pj_nm_e]
        have fz204_0 : z204.toInt = z192.toInt + (Int32.ofInt 3).toInt := by rw [hz204]; exact pj_addI (by have := pj_i32 z192; have := pj_i32 (Int32.ofInt 3); omega) (by have := pj_i32 z192; have := pj_i32 (Int32.ofInt 3); omega)
        refine pj_X_of (fun r h => pj_T_il iG203 rfl rfl (by omega) (by omega) h) ?_
        show pj_X _ _ G203 185 [(0, .ref 171), (1, .int v1), (2, .int v2), (3, .int v3), (4, .int v4)] [.int (pj_ai G203 181 z204.toInt.toNat), .int v4, .ref 176] _
        obtain ⟨z205, hz205⟩ : ∃ z : Int32, z = pj_ai G203 181 z204.toInt.toNat := ⟨_, rfl⟩
        refine pj_X_eqi hz205.symm ?_
        rw [← hz205, pj_nm_e]
        have ez205 : (pj_ai G203 181 z204.toInt.toNat).toInt = z205.toInt := by rw [hz205]
        have fz205_0 : (-1 : Int) ≤ z205.toInt ∧ z205.toInt ≤ 99 ∧ (z205.toInt ≤ -1 ∨ -1 ≤ z205.toInt) := by rw [hz205]; exact iG203.2.2.1 181 (40, -1, 99, -1, -1) rfl _ (by show _ < 40; omega)
        have k206 : z205.toInt = (pj_ai G 181 (4 * v4.toInt.toNat + 3)).toInt := by rw [hz205, hG203, pj_ai_wa_ne _ _ _ _ _ _ (by decide), hG199, pj_ai_wa_ne _ _ _ _ _ _ (by decide), hG195, pj_ai_wa_ne _ _ _ _ _ _ (by decide), show z204.toInt.toNat = 4 * v4.toInt.toNat + 3 by omega]
        refine pj_X_of (fun r h => pj_T_is iG203 rfl rfl (by omega) (by omega) h) ?_
        show pj_X _ _ (pj_wa G203 176 v4.toInt.toNat z205) 186 [(0, .ref 171), (1, .int v1), (2, .int v2), (3, .int v3), (4, .int v4)] [] _
        obtain ⟨G207, hG207⟩ : ∃ H, H = pj_wa G203 176 v4.toInt.toNat z205 := ⟨_, rfl⟩
        have iG207 : pj_Inv G207 := by rw [hG207]; exact pj_Inv_wa iG203 rfl (fun q hq => by cases hq) (fun n hn => by cases hn)
        have kG207 : pj_kpt kc_191tx G0 G207 := by rw [hG207]; exact pj_kpt_a kG203 rfl
        rw [← hG207]
        rw [pj_nm_e]
        refine pj_X_of (fun r h => pj_R_to (G207, 189, [(4, .int (v4 + Int32.ofInt 1)), (0, .ref 171), (1, .int v1), (2, .int v2), (3, .int v3)], [], 0, 0) 189 2 (fun _ => rfl) h) ?_
        obtain ⟨z208, hz208⟩ : ∃ z : Int32, z = v4 + Int32.ofInt 1 := ⟨_, rfl⟩
        rw [← hz208]
        rw [pj_nm_e]
        have fz208_0 : z208.toInt = v4.toInt + (Int32.ofInt 1).toInt := by rw [hz208]; exact pj_addI (by have := pj_i32 v4; have := pj_i32 (Int32.ofInt 1); omega) (by have := pj_i32 v4; have := pj_i32 (Int32.ofInt 1); omega)
        refine pj_X_of (fun r h => pj_R_to (G207, 107, [(4, .int z208), (0, .ref 171), (1, .int v1), (2, .int v2), (3, .int v3)], [], 0, 0) 107 2 (fun _ => rfl) h) ?_
        have q209 : (pj_fi G207 171 30).toInt = y156.toInt := by rw [show pj_fi G207 171 30 = y156 from by rw [hG207, pj_fi_wa]; exact (by rw [hG203, pj_fi_wa]; exact (by rw [hG199, pj_fi_wa]; exact (by rw [hG195, pj_fi_wa]; exact hy156.symm)))]
        have q210 : (pj_fi G207 171 22).toInt = y157.toInt := by rw [show pj_fi G207 171 22 = y157 from by rw [hG207, pj_fi_wa]; exact (by rw [hG203, pj_fi_wa]; exact (by rw [hG199, pj_fi_wa]; exact (by rw [hG195, pj_fi_wa]; exact hy157.symm)))]
        have q211 : (pj_fi G207 171 21).toInt = y158.toInt := by rw [show pj_fi G207 171 21 = y158 from by rw [hG207, pj_fi_wa]; exact (by rw [hG203, pj_fi_wa]; exact (by rw [hG199, pj_fi_wa]; exact (by rw [hG195, pj_fi_wa]; exact hy158.symm)))]
        have q212 : (pj_fi G207 171 3).toInt = y159.toInt := by rw [show pj_fi G207 171 3 = y159 from by rw [hG207, pj_fi_wa]; exact (by rw [hG203, pj_fi_wa]; exact (by rw [hG199, pj_fi_wa]; exact (by rw [hG195, pj_fi_wa]; exact hy159.symm)))]
        have q213 : (pj_fi G207 171 4).toInt = y160.toInt := by rw [show pj_fi G207 171 4 = y160 from by rw [hG207, pj_fi_wa]; exact (by rw [hG203, pj_fi_wa]; exact (by rw [hG199, pj_fi_wa]; exact (by rw [hG195, pj_fi_wa]; exact hy160.symm)))]
        have q214 : (pj_fi G207 171 16).toInt = y161.toInt := by rw [show pj_fi G207 171 16 = y161 from by rw [hG207, pj_fi_wa]; exact (by rw [hG203, pj_fi_wa]; exact (by rw [hG199, pj_fi_wa]; exact (by rw [hG195, pj_fi_wa]; exact hy161.symm)))]
        have v215 : (pj_ai G207 173 v4.toInt.toNat).toInt = z193.toInt := by rw [hG207, pj_ai_wa_ne _ _ _ _ _ _ (by decide), hG203, pj_ai_wa_ne _ _ _ _ _ _ (by decide), hG199, pj_ai_wa_ne _ _ _ _ _ _ (by decide), hG195, pj_ai_wa_eq hI.1 rfl]
        have v216 : (pj_ai G207 174 v4.toInt.toNat).toInt = z197.toInt := by rw [hG207, pj_ai_wa_ne _ _ _ _ _ _ (by decide), hG203, pj_ai_wa_ne _ _ _ _ _ _ (by decide), hG199, pj_ai_wa_eq iG195.1 rfl]
        have hold : ∀ j : Nat, j < v4.toInt.toNat → pj_ai G207 173 j = pj_ai G 173 j ∧ pj_ai G207 174 j = pj_ai G 174 j := fun j hj => ⟨by rw [hG207, pj_ai_wa_ne _ _ _ _ _ _ (by decide), hG203, pj_ai_wa_ne _ _ _ _ _ _ (by decide), hG199, pj_ai_wa_ne _ _ _ _ _ _ (by decide), hG195, pj_ai_wa_nj _ _ _ _ _ (by omega)], by rw [hG207, pj_ai_wa_ne _ _ _ _ _ _ (by decide), hG203, pj_ai_wa_ne _ _ _ _ _ _ (by decide), hG199, pj_ai_wa_nj _ _ _ _ _ (by omega), hG195, pj_ai_wa_ne _ _ _ _ _ _ (by decide)]⟩
        have eb217 : pj_fi G207 171 3 = pj_fi G 171 3 := by rw [hG207, pj_fi_wa, hG203, pj_fi_wa, hG199, pj_fi_wa, hG195, pj_fi_wa]
        exact pj_X_sub [(0, .ref 171), (1, .int v1), (2, .int v2), (3, .int v3), (4, .int z208)] (show List.Nodup [0, 1, 2, 3, 4] by decide) ⟨rfl, rfl, rfl, rfl, rfl, trivial⟩ (ih.2 G207 iG207 kG207 v1 v2 v3 z208 ⟨by omega, by omega⟩ ⟨by omega, by omega⟩ (pj_i32 _) ⟨by omega, by omega⟩ (by rw [show pj_fi G207 171 4 = pj_fi G 171 4 from by rw [hG207, pj_fi_wa, hG203, pj_fi_wa, hG199, pj_fi_wa, hG195, pj_fi_wa], show pj_fi G207 171 3 = pj_fi G 171 3 from by rw [hG207, pj_fi_wa, hG203, pj_fi_wa, hG199, pj_fi_wa, hG195, pj_fi_wa]]; exact pj_rd_k (fun j => by rw [hG207, pj_ai_wa_ne _ _ _ _ _ _ (by decide), hG203, pj_ai_wa_ne _ _ _ _ _ _ (by decide), hG199, pj_ai_wa_ne _ _ _ _ _ _ (by decide), hG195, pj_ai_wa_ne _ _ _ _ _ _ (by decide)]) x0_) (by rw [eb217, show z208.toInt = v4.toInt + 1 by omega]; exact pj_ro_s x1_ v4.toInt.toNat (by omega) hold (by omega) (by omega)) (by omega) (by omega) (by omega) (by omega))
theorem ct_191tx (G0 : pj_G) (hI : pj_Inv G0) (p0_ : pj_RI G0) (p1_ : (pj_fi G0 171 30).toInt ≤ 15) : pj_Y 19 191 [.ref 171] G0 (fun v' G' => ∃ y : Int32, v' = some (.int y) ∧ pj_Inv G' ∧ pj_kpt kc_191tx G0 G' ∧ ((-2147483648 : Int) ≤ y.toInt ∧ y.toInt ≤ 2147483647) ∧ (pj_RI G' ∧ ((pj_fi G' 171 30).toInt ≤ 15 ∧ (pj_fi G' 171 16).toInt = 0)) ∧ ((y, G') = F_192tx G0)) := by
  have c0_ : ((Int8.ofInt 10).toInt32).toInt = 10 := by decide
  have c1_ : ((Int8.ofInt 30).toInt32).toInt = 30 := by decide
  have c2_ : ((Int8.ofInt 31).toInt32).toInt = 31 := by decide
  have c3_ : ((Int8.ofInt 59).toInt32).toInt = 59 := by decide
  have c4_ : ((Int8.ofInt 72).toInt32).toInt = 72 := by decide
  have c5_ : (Int32.ofInt 0).toInt = 0 := by decide
  have c6_ : (Int32.ofInt 1).toInt = 1 := by decide
  have c7_ : (Int32.ofInt 2).toInt = 2 := by decide
  have c8_ : (Int32.ofInt 3).toInt = 3 := by decide
  have c9_ : (Int32.ofInt 4).toInt = 4 := by decide
  refine pj_Y_X (M := pj_m191) rfl rfl (Nat.le_of_ble_eq_true rfl) ?_
  have hK : pj_kpt kc_191tx G0 G0 := pj_kpt_r _ _
  show pj_X _ _ G0 0 [(0, .ref 171)] [] _
  rw [F_192tx_e]
  obtain ⟨y218, hy218⟩ : ∃ z : Int32, z = pj_fi G0 171 30 := ⟨_, rfl⟩
  have ey218 : (pj_fi G0 171 30).toInt = y218.toInt := by rw [hy218]
  have ry218 : (0 : Int) ≤ y218.toInt ∧ y218.toInt ≤ 16 := by rw [hy218]; exact hI.2.1 171 30 (0, 16) rfl
  obtain ⟨y219, hy219⟩ : ∃ z : Int32, z = pj_fi G0 171 22 := ⟨_, rfl⟩
  have ey219 : (pj_fi G0 171 22).toInt = y219.toInt := by rw [hy219]
  have ry219 : (0 : Int) ≤ y219.toInt ∧ y219.toInt ≤ 10 := by rw [hy219]; exact hI.2.1 171 22 (0, 10) rfl
  obtain ⟨y220, hy220⟩ : ∃ z : Int32, z = pj_fi G0 171 21 := ⟨_, rfl⟩
  have ey220 : (pj_fi G0 171 21).toInt = y220.toInt := by rw [hy220]
  have ry220 : (0 : Int) ≤ y220.toInt ∧ y220.toInt ≤ 8 := by rw [hy220]; exact hI.2.1 171 21 (0, 8) rfl
  obtain ⟨y221, hy221⟩ : ∃ z : Int32, z = pj_fi G0 171 3 := ⟨_, rfl⟩
  have ey221 : (pj_fi G0 171 3).toInt = y221.toInt := by rw [hy221]
  have ry221 : (0 : Int) ≤ y221.toInt ∧ y221.toInt ≤ 8 := by rw [hy221]; exact hI.2.1 171 3 (0, 8) rfl
  obtain ⟨y222, hy222⟩ : ∃ z : Int32, z = pj_fi G0 171 4 := ⟨_, rfl⟩
  have ey222 : (pj_fi G0 171 4).toInt = y222.toInt := by rw [hy222]
  have ry222 : (0 : Int) ≤ y222.toInt ∧ y222.toInt ≤ 10 := by rw [hy222]; exact hI.2.1 171 4 (0, 10) rfl
  obtain ⟨y223, hy223⟩ : ∃ z : Int32, z = pj_fi G0 171 16 := ⟨_, rfl⟩
  have ey223 : (pj_fi G0 171 16).toInt = y223.toInt := by rw [hy223]
  have ry223 : (0 : Int) ≤ y223.toInt ∧ y223.toInt ≤ 80 := by rw [hy223]; exact hI.2.1 171 16 (0, 80) rfl
  refine pj_X_of (fun r h => pj_R_to (G0, 2, [(0, .ref 171)], [.int (Int32.ofInt 0), .ref 171], 0, 0) 2 3 (fun _ => rfl) h) ?_
  refine pj_X_of (fun r h => pj_T_pf hI rfl rfl rfl h) ?_
  show pj_X _ _ (pj_wv G0 171 0 (.int (Int32.ofInt 0))) 5 [(0, .ref 171)] [] _
  obtain ⟨G224, hG224⟩ : ∃ H, H = pj_wv G0 171 0 (.int (Int32.ofInt 0)) := ⟨_, rfl⟩
  have iG224 : pj_Inv G224 := by rw [hG224]; exact pj_Inv_wi hI (ci := 12) rfl (fun q hq => by cases hq)
  have kG224 : pj_kpt kc_191tx G0 G224 := by rw [hG224]; exact pj_kpt_v hK rfl
  rw [← hG224]
  rw [pj_nm_e]
  refine pj_X_of (fun r h => pj_R_to (G224, 8, [(0, .ref 171)], [.int ((Int8.ofInt 72).toInt32), .ref 171], 0, 0) 8 3 (fun _ => rfl) h) ?_
  have q225 : (pj_fi G224 171 30).toInt = y218.toInt := by rw [show pj_fi G224 171 30 = y218 from by rw [hG224, pj_fi_wv_ne _ _ _ _ _ _ (by decide)]; exact hy218.symm]
  have q226 : (pj_fi G224 171 22).toInt = y219.toInt := by rw [show pj_fi G224 171 22 = y219 from by rw [hG224, pj_fi_wv_ne _ _ _ _ _ _ (by decide)]; exact hy219.symm]
  have q227 : (pj_fi G224 171 21).toInt = y220.toInt := by rw [show pj_fi G224 171 21 = y220 from by rw [hG224, pj_fi_wv_ne _ _ _ _ _ _ (by decide)]; exact hy220.symm]
  have q228 : (pj_fi G224 171 3).toInt = y221.toInt := by rw [show pj_fi G224 171 3 = y221 from by rw [hG224, pj_fi_wv_ne _ _ _ _ _ _ (by decide)]; exact hy221.symm]
  have q229 : (pj_fi G224 171 4).toInt = y222.toInt := by rw [show pj_fi G224 171 4 = y222 from by rw [hG224, pj_fi_wv_ne _ _ _ _ _ _ (by decide)]; exact hy222.symm]
  have q230 : (pj_fi G224 171 16).toInt = y223.toInt := by rw [show pj_fi G224 171 16 = y223 from by rw [hG224, pj_fi_wv_ne _ _ _ _ _ _ (by decide)]; exact hy223.symm]
  refine pj_X_ca (vs := [.ref 171, .int ((Int8.ofInt 72).toInt32)]) rfl (fun _ => rfl) ⟨Nat.le_of_ble_eq_true rfl, Nat.le_of_ble_eq_true rfl, pj_T_rcv iG224 rfl⟩ ⟨rfl, rfl⟩ (pj_Y_up (by decide) (ct_181etx G224 iG224 ((Int8.ofInt 72).toInt32) ⟨by omega, by omega⟩)) ?_
  rintro _ G232 ⟨y231, rfl, iG232, jG232, ry231, ey231, fy231⟩
  replace ey231 := ey231 _ rfl
  rw [← fy231, pj_bd_e]
  have kG232 : pj_kpt kc_191tx G0 G232 := pj_kpt_t kG224 (pj_kpt_s jG232 rfl)
  have q233 : (pj_fi G232 171 30).toInt = (pj_fi G224 171 30).toInt := by rw [jG232.1 (171, 30) (by decide)]
  have q234 : (pj_fi G232 171 22).toInt = (pj_fi G224 171 22).toInt := by rw [jG232.1 (171, 22) (by decide)]
  have q235 : (pj_fi G232 171 21).toInt = (pj_fi G224 171 21).toInt := by rw [jG232.1 (171, 21) (by decide)]
  have q236 : (pj_fi G232 171 3).toInt = (pj_fi G224 171 3).toInt := by rw [jG232.1 (171, 3) (by decide)]
  have q237 : (pj_fi G232 171 4).toInt = (pj_fi G224 171 4).toInt := by rw [jG232.1 (171, 4) (by decide)]
  obtain ⟨y238, hy238⟩ : ∃ z : Int32, z = pj_fi G232 171 30 := ⟨_, rfl⟩
  have ey238 : (pj_fi G232 171 30).toInt = y238.toInt := by rw [hy238]
  have ry238 : (0 : Int) ≤ y238.toInt ∧ y238.toInt ≤ 16 := by rw [hy238]; exact iG232.2.1 171 30 (0, 16) rfl
  obtain ⟨y239, hy239⟩ : ∃ z : Int32, z = pj_fi G232 171 22 := ⟨_, rfl⟩
  have ey239 : (pj_fi G232 171 22).toInt = y239.toInt := by rw [hy239]
  have ry239 : (0 : Int) ≤ y239.toInt ∧ y239.toInt ≤ 10 := by rw [hy239]; exact iG232.2.1 171 22 (0, 10) rfl
  obtain ⟨y240, hy240⟩ : ∃ z : Int32, z = pj_fi G232 171 21 := ⟨_, rfl⟩
  have ey240 : (pj_fi G232 171 21).toInt = y240.toInt := by rw [hy240]
  have ry240 : (0 : Int) ≤ y240.toInt ∧ y240.toInt ≤ 8 := by rw [hy240]; exact iG232.2.1 171 21 (0, 8) rfl
  obtain ⟨y241, hy241⟩ : ∃ z : Int32, z = pj_fi G232 171 3 := ⟨_, rfl⟩
  have ey241 : (pj_fi G232 171 3).toInt = y241.toInt := by rw [hy241]
  have ry241 : (0 : Int) ≤ y241.toInt ∧ y241.toInt ≤ 8 := by rw [hy241]; exact iG232.2.1 171 3 (0, 8) rfl
  obtain ⟨y242, hy242⟩ : ∃ z : Int32, z = pj_fi G232 171 4 := ⟨_, rfl⟩
  have ey242 : (pj_fi G232 171 4).toInt = y242.toInt := by rw [hy242]
  have ry242 : (0 : Int) ≤ y242.toInt ∧ y242.toInt ≤ 10 := by rw [hy242]; exact iG232.2.1 171 4 (0, 10) rfl
  obtain ⟨y243, hy243⟩ : ∃ z : Int32, z = pj_fi G232 171 16 := ⟨_, rfl⟩
  have ey243 : (pj_fi G232 171 16).toInt = y243.toInt := by rw [hy243]
  have ry243 : (0 : Int) ≤ y243.toInt ∧ y243.toInt ≤ 80 := by rw [hy243]; exact iG232.2.1 171 16 (0, 80) rfl
  show pj_X _ _ G232 11 [(0, .ref 171)] [.int y231] _
  refine pj_X_of (fun r h => pj_R_to (G232, 14, [(1, .int y231), (0, .ref 171)], [.int (Int32.ofInt 0), .ref 171], 0, 0) 14 4 (fun _ => rfl) h) ?_
  refine pj_X_of (fun r h => pj_T_pf iG232 rfl rfl rfl h) ?_
  show pj_X _ _ (pj_wv G232 171 22 (.int (Int32.ofInt 0))) 17 [(1, .int y231), (0, .ref 171)] [] _
  obtain ⟨G244, hG244⟩ : ∃ H, H = pj_wv G232 171 22 (.int (Int32.ofInt 0)) := ⟨_, rfl⟩
  have iG244 : pj_Inv G244 := by rw [hG244]; exact pj_Inv_wi iG232 (ci := 12) rfl (fun q hq => by cases hq; exact ⟨by show (0 : Int) ≤ _; omega, by show _ ≤ (10 : Int); omega⟩)
  have kG244 : pj_kpt kc_191tx G0 G244 := by rw [hG244]; exact pj_kpt_v kG232 rfl
  rw [← hG244]
  rw [pj_nm_e]
  refine pj_X_of (fun r h => pj_R_to (G244, 22, [(1, .int y231), (0, .ref 171)], [.retAddr 10, .ref 171, .int (Int32.ofInt 2), .ref 171], 0, 0) 22 5 (fun _ => rfl) h) ?_
  have q245 : (pj_fi G244 171 30).toInt = y238.toInt := by rw [show pj_fi G244 171 30 = y238 from by rw [hG244, pj_fi_wv_ne _ _ _ _ _ _ (by decide)]; exact hy238.symm]
  have q246 : (pj_fi G244 171 22).toInt = (Int32.ofInt 0).toInt := by rw [show pj_fi G244 171 22 = Int32.ofInt 0 from by rw [hG244]; exact pj_fi_wi iG232.1 (ci := 12) rfl _]
  have q247 : (pj_fi G244 171 21).toInt = y240.toInt := by rw [show pj_fi G244 171 21 = y240 from by rw [hG244, pj_fi_wv_ne _ _ _ _ _ _ (by decide)]; exact hy240.symm]
  have q248 : (pj_fi G244 171 3).toInt = y241.toInt := by rw [show pj_fi G244 171 3 = y241 from by rw [hG244, pj_fi_wv_ne _ _ _ _ _ _ (by decide)]; exact hy241.symm]
  have q249 : (pj_fi G244 171 4).toInt = y242.toInt := by rw [show pj_fi G244 171 4 = y242 from by rw [hG244, pj_fi_wv_ne _ _ _ _ _ _ (by decide)]; exact hy242.symm]
  have q250 : (pj_fi G244 171 16).toInt = y243.toInt := by rw [show pj_fi G244 171 16 = y243 from by rw [hG244, pj_fi_wv_ne _ _ _ _ _ _ (by decide)]; exact hy243.symm]
  refine pj_X_ca (vs := [.ref 171, .retAddr 10]) rfl (fun _ => rfl) ⟨Nat.le_of_ble_eq_true rfl, Nat.le_of_ble_eq_true rfl, pj_T_rcv iG244 rfl⟩ ⟨rfl, rfl⟩ (pj_Y_up (by decide) (ct_185_s10x G244 iG244)) ?_
  rintro _ G252 ⟨y251, rfl, iG252, jG252, ry251, ey251, fy251⟩
  replace ey251 := ey251 _ rfl
  rw [← fy251, pj_bd_e]
  have kG252 : pj_kpt kc_191tx G0 G252 := pj_kpt_t kG244 (pj_kpt_s jG252 rfl)
  have q253 : (pj_fi G252 171 30).toInt = (pj_fi G244 171 30).toInt := by rw [jG252.1 (171, 30) (by decide)]
  have q254 : (pj_fi G252 171 22).toInt = (pj_fi G244 171 22).toInt := by rw [jG252.1 (171, 22) (by decide)]
  have q255 : (pj_fi G252 171 21).toInt = (pj_fi G244 171 21).toInt := by rw [jG252.1 (171, 21) (by decide)]
  have q256 : (pj_fi G252 171 3).toInt = (pj_fi G244 171 3).toInt := by rw [jG252.1 (171, 3) (by decide)]
  have q257 : (pj_fi G252 171 4).toInt = (pj_fi G244 171 4).toInt := by rw [jG252.1 (171, 4) (by decide)]
  have q258 : (pj_fi G252 171 16).toInt = (pj_fi G244 171 16).toInt := by rw [jG252.1 (171, 16) (by decide)]
  obtain ⟨y259, hy259⟩ : ∃ z : Int32, z = pj_fi G252 171 30 := ⟨_, rfl⟩
  have ey259 : (pj_fi G252 171 30).toInt = y259.toInt := by rw [hy259]
  have ry259 : (0 : Int) ≤ y259.toInt ∧ y259.toInt ≤ 16 := by rw [hy259]; exact iG252.2.1 171 30 (0, 16) rfl
  obtain ⟨y260, hy260⟩ : ∃ z : Int32, z = pj_fi G252 171 22 := ⟨_, rfl⟩
  have ey260 : (pj_fi G252 171 22).toInt = y260.toInt := by rw [hy260]
  have ry260 : (0 : Int) ≤ y260.toInt ∧ y260.toInt ≤ 10 := by rw [hy260]; exact iG252.2.1 171 22 (0, 10) rfl
  obtain ⟨y261, hy261⟩ : ∃ z : Int32, z = pj_fi G252 171 21 := ⟨_, rfl⟩
  have ey261 : (pj_fi G252 171 21).toInt = y261.toInt := by rw [hy261]
  have ry261 : (0 : Int) ≤ y261.toInt ∧ y261.toInt ≤ 8 := by rw [hy261]; exact iG252.2.1 171 21 (0, 8) rfl
  obtain ⟨y262, hy262⟩ : ∃ z : Int32, z = pj_fi G252 171 3 := ⟨_, rfl⟩
  have ey262 : (pj_fi G252 171 3).toInt = y262.toInt := by rw [hy262]
  have ry262 : (0 : Int) ≤ y262.toInt ∧ y262.toInt ≤ 8 := by rw [hy262]; exact iG252.2.1 171 3 (0, 8) rfl
  obtain ⟨y263, hy263⟩ : ∃ z : Int32, z = pj_fi G252 171 4 := ⟨_, rfl⟩
  have ey263 : (pj_fi G252 171 4).toInt = y263.toInt := by rw [hy263]
  have ry263 : (0 : Int) ≤ y263.toInt ∧ y263.toInt ≤ 10 := by rw [hy263]; exact iG252.2.1 171 4 (0, 10) rfl
  obtain ⟨y264, hy264⟩ : ∃ z : Int32, z = pj_fi G252 171 16 := ⟨_, rfl⟩
  have ey264 : (pj_fi G252 171 16).toInt = y264.toInt := by rw [hy264]
  have ry264 : (0 : Int) ≤ y264.toInt ∧ y264.toInt ≤ 80 := by rw [hy264]; exact iG252.2.1 171 16 (0, 80) rfl
  show pj_X _ _ G252 25 [(1, .int y231), (0, .ref 171)] [.int y251, .int (Int32.ofInt 2), .ref 171] _
  refine pj_X_of (fun r h => pj_R_to (G252, 26, [(1, .int y231), (0, .ref 171)], [.int ((Int32.ofInt 2) + y251), .ref 171], 0, 0) 26 2 (fun _ => rfl) h) ?_
  obtain ⟨z265, hz265⟩ : ∃ z : Int32, z = (Int32.ofInt 2) + y251 := ⟨_, rfl⟩
  refine pj_X_eqi hz265.symm ?_
  rw [← hz265, pj_nm_e]
  have fz265_0 : z265.toInt = (Int32.ofInt 2).toInt + y251.toInt := by rw [hz265]; exact pj_addI (by have := pj_i32 (Int32.ofInt 2); have := pj_i32 y251; omega) (by have := pj_i32 (Int32.ofInt 2); have := pj_i32 y251; omega)
  refine pj_X_of (fun r h => pj_T_pf iG252 rfl rfl rfl h) ?_
  show pj_X _ _ (pj_wv G252 171 21 (.int z265)) 29 [(1, .int y231), (0, .ref 171)] [] _
  obtain ⟨G266, hG266⟩ : ∃ H, H = pj_wv G252 171 21 (.int z265) := ⟨_, rfl⟩
  have iG266 : pj_Inv G266 := by rw [hG266]; exact pj_Inv_wi iG252 (ci := 12) rfl (fun q hq => by cases hq; exact ⟨by show (0 : Int) ≤ _; omega, by show _ ≤ (8 : Int); omega⟩)
  have kG266 : pj_kpt kc_191tx G0 G266 := by rw [hG266]; exact pj_kpt_v kG252 rfl
  rw [← hG266]
  rw [pj_nm_e]
  refine pj_X_of (fun r h => pj_R_to (G266, 30, [(1, .int y231), (0, .ref 171)], [.ref 171], 0, 0) 30 2 (fun _ => rfl) h) ?_
  refine pj_X_of (fun r h => pj_T_gi iG266 rfl rfl h) ?_
  show pj_X _ _ G266 33 [(1, .int y231), (0, .ref 171)] [.int (pj_fi G266 171 21)] _
  refine pj_X_eqi (show pj_fi G266 171 21 = z265 from by rw [hG266]; exact pj_fi_wi iG252.1 (ci := 12) rfl _) ?_
  refine pj_X_of (fun r h => pj_R_to (G266, 34, [(1, .int y231), (0, .ref 171)], [.int (Int32.ofInt 1), .int z265], 0, 0) 34 2 (fun _ => rfl) h) ?_
  cases b267 : pj_c1 .le z265 (Int32.ofInt 1) with
  | true =>
    rw [pj_cT]
    have ub267 := pj_u_leT b267
    refine pj_X_of (fun r h => pj_R_icT 41 rfl rfl b267 h) ?_
    refine pj_X_of (fun r h => pj_R_to (G266, 43, [(2, .int (Int32.ofInt 0)), (1, .int y231), (0, .ref 171)], [], 0, 0) 43 3 (fun _ => rfl) h) ?_
    have q268 : (pj_fi G266 171 30).toInt = y259.toInt := by rw [show pj_fi G266 171 30 = y259 from by rw [hG266, pj_fi_wv_ne _ _ _ _ _ _ (by decide)]; exact hy259.symm]
    have q269 : (pj_fi G266 171 22).toInt = y260.toInt := by rw [show pj_fi G266 171 22 = y260 from by rw [hG266, pj_fi_wv_ne _ _ _ _ _ _ (by decide)]; exact hy260.symm]
    have q270 : (pj_fi G266 171 21).toInt = z265.toInt := by rw [show pj_fi G266 171 21 = z265 from by rw [hG266]; exact pj_fi_wi iG252.1 (ci := 12) rfl _]
    have q271 : (pj_fi G266 171 3).toInt = y262.toInt := by rw [show pj_fi G266 171 3 = y262 from by rw [hG266, pj_fi_wv_ne _ _ _ _ _ _ (by decide)]; exact hy262.symm]
    have q272 : (pj_fi G266 171 4).toInt = y263.toInt := by rw [show pj_fi G266 171 4 = y263 from by rw [hG266, pj_fi_wv_ne _ _ _ _ _ _ (by decide)]; exact hy263.symm]
    have q273 : (pj_fi G266 171 16).toInt = y264.toInt := by rw [show pj_fi G266 171 16 = y264 from by rw [hG266, pj_fi_wv_ne _ _ _ _ _ _ (by decide)]; exact hy264.symm]
    have t274 : pj_kpt ([(171, 0), (171, 16), (171, 17), (171, 18), (171, 19), (171, 21), (171, 22)], [171], []) G0 G0 := pj_kpt_r _ _
    have t275 : pj_kpt ([(171, 0), (171, 16), (171, 17), (171, 18), (171, 19), (171, 21), (171, 22)], [171], []) G0 G224 := by rw [hG224]; exact pj_kpt_v t274 rfl
    have t276 : pj_kpt ([(171, 0), (171, 16), (171, 17), (171, 18), (171, 19), (171, 21), (171, 22)], [171], []) G0 G232 := pj_kpt_t t275 (pj_kpt_s jG232 rfl)
    have t277 : pj_kpt ([(171, 0), (171, 16), (171, 17), (171, 18), (171, 19), (171, 21), (171, 22)], [171], []) G0 G244 := by rw [hG244]; exact pj_kpt_v t276 rfl
    have t278 : pj_kpt ([(171, 0), (171, 16), (171, 17), (171, 18), (171, 19), (171, 21), (171, 22)], [171], []) G0 G252 := pj_kpt_t t277 (pj_kpt_s jG252 rfl)
    have t279 : pj_kpt ([(171, 0), (171, 16), (171, 17), (171, 18), (171, 19), (171, 21), (171, 22)], [171], []) G0 G266 := by rw [hG266]; exact pj_kpt_v t278 rfl
    exact pj_X_sub [(0, .ref 171), (1, .int y231), (2, .int (Int32.ofInt 0))] (show List.Nodup [0, 1, 2] by decide) ⟨rfl, rfl, rfl, trivial⟩ ((lp_ct_191tx G0 hI   p0_ p1_ 2001).1 G266 iG266 kG266 y231 (Int32.ofInt 0) ⟨by omega, by omega⟩ ⟨by omega, by omega⟩ (pj_RI_k p0_ t279 rfl) (fun _ => pj_rd_0 (by omega)) (by omega) (by omega) (by omega) (by omega))
  | false =>
    rw [pj_cF]
    have ub267 := pj_u_leF b267
    refine pj_X_of (fun r h => pj_R_icF rfl b267 h) ?_
    refine pj_X_of (fun r h => pj_R_to (G266, 43, [(2, .int (Int32.ofInt 1)), (1, .int y231), (0, .ref 171)], [], 0, 0) 43 4 (fun _ => rfl) h) ?_
    have q280 : (pj_fi G266 171 30).toInt = y259.toInt := by rw [show pj_fi G266 171 30 = y259 from by rw [hG266, pj_fi_wv_ne _ _ _ _ _ _ (by decide)]; exact hy259.symm]
    have q281 : (pj_fi G266 171 22).toInt = y260.toInt := by rw [show pj_fi G266 171 22 = y260 from by rw [hG266, pj_fi_wv_ne _ _ _ _ _ _ (by decide)]; exact hy260.symm]
    have q282 : (pj_fi G266 171 21).toInt = z265.toInt := by rw [show pj_fi G266 171 21 = z265 from by rw [hG266]; exact pj_fi_wi iG252.1 (ci := 12) rfl _]
    have q283 : (pj_fi G266 171 3).toInt = y262.toInt := by rw [show pj_fi G266 171 3 = y262 from by rw [hG266, pj_fi_wv_ne _ _ _ _ _ _ (by decide)]; exact hy262.symm]
    have q284 : (pj_fi G266 171 4).toInt = y263.toInt := by rw [show pj_fi G266 171 4 = y263 from by rw [hG266, pj_fi_wv_ne _ _ _ _ _ _ (by decide)]; exact hy263.symm]
    have q285 : (pj_fi G266 171 16).toInt = y264.toInt := by rw [show pj_fi G266 171 16 = y264 from by rw [hG266, pj_fi_wv_ne _ _ _ _ _ _ (by decide)]; exact hy264.symm]
    have t286 : pj_kpt ([(171, 0), (171, 16), (171, 17), (171, 18), (171, 19), (171, 21), (171, 22)], [171], []) G0 G0 := pj_kpt_r _ _
    have t287 : pj_kpt ([(171, 0), (171, 16), (171, 17), (171, 18), (171, 19), (171, 21), (171, 22)], [171], []) G0 G224 := by rw [hG224]; exact pj_kpt_v t286 rfl
    have t288 : pj_kpt ([(171, 0), (171, 16), (171, 17), (171, 18), (171, 19), (171, 21), (171, 22)], [171], []) G0 G232 := pj_kpt_t t287 (pj_kpt_s jG232 rfl)
    have t289 : pj_kpt ([(171, 0), (171, 16), (171, 17), (171, 18), (171, 19), (171, 21), (171, 22)], [171], []) G0 G244 := by rw [hG244]; exact pj_kpt_v t288 rfl
    have t290 : pj_kpt ([(171, 0), (171, 16), (171, 17), (171, 18), (171, 19), (171, 21), (171, 22)], [171], []) G0 G252 := pj_kpt_t t289 (pj_kpt_s jG252 rfl)
    have t291 : pj_kpt ([(171, 0), (171, 16), (171, 17), (171, 18), (171, 19), (171, 21), (171, 22)], [171], []) G0 G266 := by rw [hG266]; exact pj_kpt_v t290 rfl
    exact pj_X_sub [(0, .ref 171), (1, .int y231), (2, .int (Int32.ofInt 1))] (show List.Nodup [0, 1, 2] by decide) ⟨rfl, rfl, rfl, trivial⟩ ((lp_ct_191tx G0 hI   p0_ p1_ 2001).1 G266 iG266 kG266 y231 (Int32.ofInt 1) ⟨by omega, by omega⟩ ⟨by omega, by omega⟩ (pj_RI_k p0_ t291 rfl) (fun _ => pj_rd_0 (by omega)) (by omega) (by omega) (by omega) (by omega))
theorem fr_192tx (G0 : pj_G) (hI : pj_Inv G0) (p0_ : pj_RI G0) (p1_ : (pj_fi G0 171 30).toInt ≤ 15) : pj_Inv (F_192tx G0).2 ∧ pj_kpt kc_191tx G0 (F_192tx G0).2 ∧ (pj_RI (F_192tx G0).2 ∧ ((pj_fi (F_192tx G0).2 171 30).toInt ≤ 15 ∧ (pj_fi (F_192tx G0).2 171 16).toInt = 0)) := by
  obtain ⟨v, G', -, y, -, i, j, r, x, e⟩ := ct_191tx G0 hI p0_ p1_
  rw [← e]
  exact ⟨i, j, x⟩
def kc_179x : pj_KT := ([(171, 0), (171, 16)], [171, 180], [180])
noncomputable def L_180x (G0 : pj_G) (v : Int32) (fu : Nat) : Int32 → pj_G → Int32 × pj_G := Nat.rec (motive := fun _ => Int32 → pj_G → Int32 × pj_G) (fun _ G => (0, G)) (fun _ ih v2 G => cond (pj_c1 .ge v2 (Int32.ofInt 4)) (pj_nm (pj_fi G 171 16) (fun y1 => pj_nm (y1 + (Int32.ofInt 4)) (fun z3 => pj_nm (pj_wv G 171 16 (.int z3)) (fun G4 => (z3, G4))))) (pj_nm (pj_fi G 171 16) (fun y1 => pj_nm (y1 + v2) (fun z6 => pj_nm (((Int8.ofInt 8).toInt32) * v2) (fun z7 => pj_nm (((Int8.ofInt 24).toInt32) - z7) (fun z8 => pj_nm (v >>> (z8 &&& 31)) (fun z9 => pj_nm (z9 &&& ((Int16.ofInt 255).toInt32)) (fun z10 => pj_nm (pj_wa G 180 z6.toInt.toNat z10) (fun G11 => pj_nm (v2 + Int32.ofInt 1) (fun z12 => ih z12 G11)))))))))) fu
theorem L_180x_s0 (G0 : pj_G) (v : Int32) (fu : Nat) (v2 : Int32) (G : pj_G) : L_180x G0 v (fu + 1) v2 G = cond (pj_c1 .ge v2 (Int32.ofInt 4)) (pj_nm (pj_fi G 171 16) (fun y1 => pj_nm (y1 + (Int32.ofInt 4)) (fun z3 => pj_nm (pj_wv G 171 16 (.int z3)) (fun G4 => (z3, G4))))) (pj_nm (pj_fi G 171 16) (fun y1 => pj_nm (y1 + v2) (fun z6 => pj_nm (((Int8.ofInt 8).toInt32) * v2) (fun z7 => pj_nm (((Int8.ofInt 24).toInt32) - z7) (fun z8 => pj_nm (v >>> (z8 &&& 31)) (fun z9 => pj_nm (z9 &&& ((Int16.ofInt 255).toInt32)) (fun z10 => pj_nm (pj_wa G 180 z6.toInt.toNat z10) (fun G11 => pj_nm (v2 + Int32.ofInt 1) (fun z12 => L_180x G0 v fu z12 G11))))))))) := rfl
noncomputable def F_180x (G0 : pj_G) (v : Int32) : Int32 × pj_G := pj_nm (pj_wv G0 171 0 (.int (Int32.ofInt 0))) (fun G15 => pj_nm (pj_fi G0 171 16) (fun y14 => cond (pj_c1 .le y14 ((Int8.ofInt 76).toInt32)) (L_180x G0 v 5 (Int32.ofInt 0) G15) ((Int32.ofInt (-1), G15))))
theorem F_180x_e (G0 : pj_G) (v : Int32) : F_180x G0 v = pj_nm (pj_wv G0 171 0 (.int (Int32.ofInt 0))) (fun G15 => pj_nm (pj_fi G0 171 16) (fun y14 => cond (pj_c1 .le y14 ((Int8.ofInt 76).toInt32)) (L_180x G0 v 5 (Int32.ofInt 0) G15) ((Int32.ofInt (-1), G15)))) := rfl
theorem lp_ct_179x (G0 : pj_G) (hI0 : pj_Inv G0) (v : Int32) : ∀ mn : Nat, (∀ (G : pj_G) (hI : pj_Inv G) (hK : pj_kpt kc_179x G0 G) (v2 : Int32), ((0 : Int) ≤ v2.toInt ∧ v2.toInt ≤ 4) → ((pj_fi G 171 16).toInt ≤ 76) → 4 - v2.toInt < (mn : Int) → pj_X 0 pj_m179 G 18 [(0, .ref 171), (1, .int v), (2, .int v2)] [] (fun v' G' => ∃ y : Int32, v' = some (.int y) ∧ pj_Inv G' ∧ pj_kpt kc_179x G0 G' ∧ ((-1 : Int) ≤ y.toInt ∧ y.toInt ≤ 80) ∧ ((y, G') = L_180x G0 v mn v2 G))) := by
  have c0_ : ((Int16.ofInt 255).toInt32).toInt = 255 := by decide
  have c1_ : ((Int8.ofInt 24).toInt32).toInt = 24 := by decide
  have c2_ : ((Int8.ofInt 76).toInt32).toInt = 76 := by decide
  have c3_ : ((Int8.ofInt 8).toInt32).toInt = 8 := by decide
  have c4_ : (Int32.ofInt (-1)).toInt = -1 := by decide
  have c5_ : (Int32.ofInt 0).toInt = 0 := by decide
  have c6_ : (Int32.ofInt 1).toInt = 1 := by decide
  have c7_ : (Int32.ofInt 4).toInt = 4 := by decide
  intro mn
  induction mn with
  | zero =>
    intro G hI hK v2 rv2 x0_ hm
    exfalso
    omega
  | succ mn ih =>
    intro G hI hK v2 rv2 x0_ hm
    rw [L_180x_s0]
    obtain ⟨y1, hy1⟩ : ∃ z : Int32, z = pj_fi G 171 16 := ⟨_, rfl⟩
    have ey1 : (pj_fi G 171 16).toInt = y1.toInt := by rw [hy1]
    have ry1 : (0 : Int) ≤ y1.toInt ∧ y1.toInt ≤ 80 := by rw [hy1]; exact hI.2.1 171 16 (0, 80) rfl
    refine pj_X_of (fun r h => pj_R_to (G, 20, [(0, .ref 171), (1, .int v), (2, .int v2)], [.int (Int32.ofInt 4), .int v2], 0, 0) 20 3 (fun _ => rfl) h) ?_
    cases b2 : pj_c1 .ge v2 (Int32.ofInt 4) with
    | true =>
      rw [pj_cT]
      have ub2 := pj_u_geT b2
      refine pj_X_of (fun r h => pj_R_icT 53 rfl rfl b2 h) ?_
      refine pj_X_of (fun r h => pj_R_to (G, 55, [(0, .ref 171), (1, .int v), (2, .int v2)], [.ref 171, .ref 171], 0, 0) 55 3 (fun _ => rfl) h) ?_
      refine pj_X_of (fun r h => pj_T_gi hI rfl rfl h) ?_
      show pj_X _ _ G 58 [(0, .ref 171), (1, .int v), (2, .int v2)] [.int (pj_fi G 171 16), .ref 171] _
      rw [← hy1, pj_nm_e]
      refine pj_X_of (fun r h => pj_R_to (G, 60, [(0, .ref 171), (1, .int v), (2, .int v2)], [.int (y1 + (Int32.ofInt 4)), .ref 171], 0, 0) 60 3 (fun _ => rfl) h) ?_
      obtain ⟨z3, hz3⟩ : ∃ z : Int32, z = y1 + (Int32.ofInt 4) := ⟨_, rfl⟩
      refine pj_X_eqi hz3.symm ?_
      rw [← hz3, pj_nm_e]
      have fz3_0 : z3.toInt = y1.toInt + (Int32.ofInt 4).toInt := by rw [hz3]; exact pj_addI (by have := pj_i32 y1; have := pj_i32 (Int32.ofInt 4); omega) (by have := pj_i32 y1; have := pj_i32 (Int32.ofInt 4); omega)
      refine pj_X_of (fun r h => pj_T_pf hI rfl rfl rfl h) ?_
      show pj_X _ _ (pj_wv G 171 16 (.int z3)) 63 [(0, .ref 171), (1, .int v), (2, .int v2)] [] _
      obtain ⟨G4, hG4⟩ : ∃ H, H = pj_wv G 171 16 (.int z3) := ⟨_, rfl⟩
      have iG4 : pj_Inv G4 := by rw [hG4]; exact pj_Inv_wi hI (ci := 12) rfl (fun q hq => by cases hq; exact ⟨by show (0 : Int) ≤ _; omega, by show _ ≤ (80 : Int); omega⟩)
      have kG4 : pj_kpt kc_179x G0 G4 := by rw [hG4]; exact pj_kpt_v hK rfl
      rw [← hG4]
      rw [pj_nm_e]
      refine pj_X_of (fun r h => pj_R_to (G4, 64, [(0, .ref 171), (1, .int v), (2, .int v2)], [.ref 171], 0, 0) 64 2 (fun _ => rfl) h) ?_
      refine pj_X_of (fun r h => pj_T_gi iG4 rfl rfl h) ?_
      show pj_X _ _ G4 67 [(0, .ref 171), (1, .int v), (2, .int v2)] [.int (pj_fi G4 171 16)] _
      refine pj_X_eqi (show pj_fi G4 171 16 = z3 from by rw [hG4]; exact pj_fi_wi hI.1 (ci := 12) rfl _) ?_
      have q5 : (pj_fi G4 171 16).toInt = z3.toInt := by rw [show pj_fi G4 171 16 = z3 from by rw [hG4]; exact pj_fi_wi hI.1 (ci := 12) rfl _]
      exact pj_X_rt rfl rfl ⟨_, rfl, iG4, kG4, ⟨by omega, by omega⟩, rfl⟩
    | false =>
      rw [pj_cF]
      have ub2 := pj_u_geF b2
      refine pj_X_of (fun r h => pj_R_icF rfl b2 h) ?_
      refine pj_X_of (fun r h => pj_R_to (G, 24, [(0, .ref 171), (1, .int v), (2, .int v2)], [.ref 171], 0, 0) 24 2 (fun _ => rfl) h) ?_
      refine pj_X_of (fun r h => pj_T_gr hI rfl rfl rfl h) ?_
      refine pj_X_of (fun r h => pj_R_to (G, 28, [(0, .ref 171), (1, .int v), (2, .int v2)], [.ref 171, .ref 180], 0, 0) 28 2 (fun _ => rfl) h) ?_
      refine pj_X_of (fun r h => pj_T_gi hI rfl rfl h) ?_
      show pj_X _ _ G 31 [(0, .ref 171), (1, .int v), (2, .int v2)] [.int (pj_fi G 171 16), .ref 180] _
      rw [← hy1, pj_nm_e]
      refine pj_X_of (fun r h => pj_R_to (G, 33, [(0, .ref 171), (1, .int v), (2, .int v2)], [.int (y1 + v2), .ref 180], 0, 0) 33 3 (fun _ => rfl) h) ?_
      obtain ⟨z6, hz6⟩ : ∃ z : Int32, z = y1 + v2 := ⟨_, rfl⟩
      refine pj_X_eqi hz6.symm ?_
      rw [← hz6, pj_nm_e]
      have fz6_0 : z6.toInt = y1.toInt + v2.toInt := by rw [hz6]; exact pj_addI (by have := pj_i32 y1; have := pj_i32 v2; omega) (by have := pj_i32 y1; have := pj_i32 v2; omega)
      refine pj_X_of (fun r h => pj_R_to (G, 40, [(0, .ref 171), (1, .int v), (2, .int v2)], [.int (((Int8.ofInt 8).toInt32) * v2), .int ((Int8.ofInt 24).toInt32), .int v, .int z6, .ref 180], 0, 0) 40 6 (fun _ => rfl) h) ?_
      obtain ⟨z7, hz7⟩ : ∃ z : Int32, z = ((Int8.ofInt 8).toInt32) * v2 := ⟨_, rfl⟩
      refine pj_X_eqi hz7.symm ?_
      rw [← hz7, pj_nm_e]
      have fz7_0 : z7.toInt = 8 * v2.toInt := by rw [hz7]; exact pj_mulL (by decide) (by omega) (by omega)
      refine pj_X_of (fun r h => pj_R_to (G, 41, [(0, .ref 171), (1, .int v), (2, .int v2)], [.int (((Int8.ofInt 24).toInt32) - z7), .int v, .int z6, .ref 180], 0, 0) 41 2 (fun _ => rfl) h) ?_
      obtain ⟨z8, hz8⟩ : ∃ z : Int32, z = ((Int8.ofInt 24).toInt32) - z7 := ⟨_, rfl⟩
      refine pj_X_eqi hz8.symm ?_
      rw [← hz8, pj_nm_e]
      have fz8_0 : z8.toInt = ((Int8.ofInt 24).toInt32).toInt - z7.toInt := by rw [hz8]; exact pj_subI (by have := pj_i32 ((Int8.ofInt 24).toInt32); have := pj_i32 z7; omega) (by have := pj_i32 ((Int8.ofInt 24).toInt32); have := pj_i32 z7; omega)
      refine pj_X_of (fun r h => pj_R_to (G, 42, [(0, .ref 171), (1, .int v), (2, .int v2)], [.int (v >>> (z8 &&& 31)), .int z6, .ref 180], 0, 0) 42 2 (fun _ => rfl) h) ?_
      obtain ⟨z9, hz9⟩ : ∃ z : Int32, z = v >>> (z8 &&& 31) := ⟨_, rfl⟩
      refine pj_X_eqi hz9.symm ?_
      rw [← hz9, pj_nm_e]
      refine pj_X_of (fun r h => pj_R_to (G, 46, [(0, .ref 171), (1, .int v), (2, .int v2)], [.int (z9 &&& ((Int16.ofInt 255).toInt32)), .int z6, .ref 180], 0, 0) 46 3 (fun _ => rfl) h) ?_
      obtain ⟨z10, hz10⟩ : ∃ z : Int32, z = z9 &&& ((Int16.ofInt 255).toInt32) := ⟨_, rfl⟩
      refine pj_X_eqi hz10.symm ?_
      rw [← hz10, pj_nm_e]
      have fz10_0 : 0 ≤ z10.toInt ∧ z10.toInt ≤ ((Int16.ofInt 255).toInt32).toInt := by rw [hz10]; exact pj_andI (by omega)
      refine pj_X_of (fun r h => pj_T_is hI rfl rfl (by omega) (by omega) h) ?_
      show pj_X _ _ (pj_wa G 180 z6.toInt.toNat z10) 47 [(0, .ref 171), (1, .int v), (2, .int v2)] [] _
      obtain ⟨G11, hG11⟩ : ∃ H, H = pj_wa G 180 z6.toInt.toNat z10 := ⟨_, rfl⟩
      have iG11 : pj_Inv G11 := by rw [hG11]; exact pj_Inv_wa hI rfl (fun q hq => by cases hq; exact ⟨by show (0 : Int) ≤ _; omega, by show _ ≤ (255 : Int); omega, by show _ ≤ (0 : Int) ∨ (0 : Int) ≤ _; omega⟩) (fun n hn => by cases hn)
      have kG11 : pj_kpt kc_179x G0 G11 := by rw [hG11]; exact pj_kpt_a hK rfl
      rw [← hG11]
      rw [pj_nm_e]
      refine pj_X_of (fun r h => pj_R_to (G11, 50, [(2, .int (v2 + Int32.ofInt 1)), (0, .ref 171), (1, .int v)], [], 0, 0) 50 2 (fun _ => rfl) h) ?_
      obtain ⟨z12, hz12⟩ : ∃ z : Int32, z = v2 + Int32.ofInt 1 := ⟨_, rfl⟩
      rw [← hz12]
      rw [pj_nm_e]
      have fz12_0 : z12.toInt = v2.toInt + (Int32.ofInt 1).toInt := by rw [hz12]; exact pj_addI (by have := pj_i32 v2; have := pj_i32 (Int32.ofInt 1); omega) (by have := pj_i32 v2; have := pj_i32 (Int32.ofInt 1); omega)
      refine pj_X_of (fun r h => pj_R_to (G11, 18, [(2, .int z12), (0, .ref 171), (1, .int v)], [], 0, 0) 18 2 (fun _ => rfl) h) ?_
      have q13 : (pj_fi G11 171 16).toInt = y1.toInt := by rw [show pj_fi G11 171 16 = y1 from by rw [hG11, pj_fi_wa]; exact hy1.symm]
      exact pj_X_sub [(0, .ref 171), (1, .int v), (2, .int z12)] (show List.Nodup [0, 1, 2] by decide) ⟨rfl, rfl, rfl, trivial⟩ (ih G11 iG11 kG11 z12 ⟨by omega, by omega⟩ (by omega) (by omega))
theorem ct_179x (G0 : pj_G) (hI : pj_Inv G0) (v : Int32) : pj_Y 1 179 [.ref 171, .int v] G0 (fun v' G' => ∃ y : Int32, v' = some (.int y) ∧ pj_Inv G' ∧ pj_kpt kc_179x G0 G' ∧ ((-1 : Int) ≤ y.toInt ∧ y.toInt ≤ 80) ∧ ((y, G') = F_180x G0 v)) := by
  have c0_ : ((Int16.ofInt 255).toInt32).toInt = 255 := by decide
  have c1_ : ((Int8.ofInt 24).toInt32).toInt = 24 := by decide
  have c2_ : ((Int8.ofInt 76).toInt32).toInt = 76 := by decide
  have c3_ : ((Int8.ofInt 8).toInt32).toInt = 8 := by decide
  have c4_ : (Int32.ofInt (-1)).toInt = -1 := by decide
  have c5_ : (Int32.ofInt 0).toInt = 0 := by decide
  have c6_ : (Int32.ofInt 1).toInt = 1 := by decide
  have c7_ : (Int32.ofInt 4).toInt = 4 := by decide
  refine pj_Y_X (M := pj_m179) rfl rfl (Nat.le_of_ble_eq_true rfl) ?_
  have hK : pj_kpt kc_179x G0 G0 := pj_kpt_r _ _
  show pj_X _ _ G0 0 [(0, .ref 171), (1, .int v)] [] _
  rw [F_180x_e]
  obtain ⟨y14, hy14⟩ : ∃ z : Int32, z = pj_fi G0 171 16 := ⟨_, rfl⟩
  have ey14 : (pj_fi G0 171 16).toInt = y14.toInt := by rw [hy14]
  have ry14 : (0 : Int) ≤ y14.toInt ∧ y14.toInt ≤ 80 := by rw [hy14]; exact hI.2.1 171 16 (0, 80) rfl
  refine pj_X_of (fun r h => pj_R_to (G0, 2, [(0, .ref 171), (1, .int v)], [.int (Int32.ofInt 0), .ref 171], 0, 0) 2 3 (fun _ => rfl) h) ?_
  refine pj_X_of (fun r h => pj_T_pf hI rfl rfl rfl h) ?_
  show pj_X _ _ (pj_wv G0 171 0 (.int (Int32.ofInt 0))) 5 [(0, .ref 171), (1, .int v)] [] _
  obtain ⟨G15, hG15⟩ : ∃ H, H = pj_wv G0 171 0 (.int (Int32.ofInt 0)) := ⟨_, rfl⟩
  have iG15 : pj_Inv G15 := by rw [hG15]; exact pj_Inv_wi hI (ci := 12) rfl (fun q hq => by cases hq)
  have kG15 : pj_kpt kc_179x G0 G15 := by rw [hG15]; exact pj_kpt_v hK rfl
  rw [← hG15]
  rw [pj_nm_e]
  refine pj_X_of (fun r h => pj_R_to (G15, 6, [(0, .ref 171), (1, .int v)], [.ref 171], 0, 0) 6 2 (fun _ => rfl) h) ?_
  refine pj_X_of (fun r h => pj_T_gi iG15 rfl rfl h) ?_
  show pj_X _ _ G15 9 [(0, .ref 171), (1, .int v)] [.int (pj_fi G15 171 16)] _
  rw [← hy14, pj_nm_e]
  refine pj_X_eqi (show pj_fi G15 171 16 = y14 from by rw [hG15, pj_fi_wv_ne _ _ _ _ _ _ (by decide)]; exact hy14.symm) ?_
  refine pj_X_of (fun r h => pj_R_to (G15, 11, [(0, .ref 171), (1, .int v)], [.int ((Int8.ofInt 76).toInt32), .int y14], 0, 0) 11 2 (fun _ => rfl) h) ?_
  cases b16 : pj_c1 .le y14 ((Int8.ofInt 76).toInt32) with
  | true =>
    rw [pj_cT]
    have ub16 := pj_u_leT b16
    refine pj_X_of (fun r h => pj_R_icT 16 rfl rfl b16 h) ?_
    refine pj_X_of (fun r h => pj_R_to (G15, 18, [(2, .int (Int32.ofInt 0)), (0, .ref 171), (1, .int v)], [], 0, 0) 18 3 (fun _ => rfl) h) ?_
    have q17 : (pj_fi G15 171 16).toInt = y14.toInt := by rw [show pj_fi G15 171 16 = y14 from by rw [hG15, pj_fi_wv_ne _ _ _ _ _ _ (by decide)]; exact hy14.symm]
    exact pj_X_sub [(0, .ref 171), (1, .int v), (2, .int (Int32.ofInt 0))] (show List.Nodup [0, 1, 2] by decide) ⟨rfl, rfl, rfl, trivial⟩ ((lp_ct_179x G0 hI v  5) G15 iG15 kG15 (Int32.ofInt 0) ⟨by omega, by omega⟩ (by omega) (by omega))
  | false =>
    rw [pj_cF]
    have ub16 := pj_u_leF b16
    refine pj_X_of (fun r h => pj_R_icF rfl b16 h) ?_
    refine pj_X_of (fun r h => pj_R_to (G15, 15, [(0, .ref 171), (1, .int v)], [.int (Int32.ofInt (-1))], 0, 0) 15 2 (fun _ => rfl) h) ?_
    have q18 : (pj_fi G15 171 16).toInt = y14.toInt := by rw [show pj_fi G15 171 16 = y14 from by rw [hG15, pj_fi_wv_ne _ _ _ _ _ _ (by decide)]; exact hy14.symm]
    exact pj_X_rt rfl rfl ⟨_, rfl, iG15, kG15, ⟨by omega, by omega⟩, rfl⟩
theorem fr_180x (G0 : pj_G) (hI : pj_Inv G0) (v : Int32) : pj_Inv (F_180x G0 v).2 ∧ pj_kpt kc_179x G0 (F_180x G0 v).2 ∧ ((-1 : Int) ≤ (F_180x G0 v).1.toInt ∧ (F_180x G0 v).1.toInt ≤ 80) := by
  obtain ⟨v, G', -, y, -, i, j, r, e⟩ := ct_179x G0 hI v
  rw [← e]
  exact ⟨i, j, r⟩
def kc_179tx : pj_KT := ([(171, 0), (171, 16)], [171, 180], [180])
noncomputable def L_180tx (G0 : pj_G) (va : Int32) (fu : Nat) : Int32 → pj_G → Int32 × pj_G := Nat.rec (motive := fun _ => Int32 → pj_G → Int32 × pj_G) (fun _ G => (0, G)) (fun _ ih v2 G => cond (pj_c1 .ge v2 (Int32.ofInt 4)) (pj_nm (pj_fi G 171 16) (fun y1 => pj_nm (y1 + (Int32.ofInt 4)) (fun z3 => pj_nm (pj_wv G 171 16 (.int z3)) (fun G4 => (z3, G4))))) (pj_nm (pj_fi G 171 16) (fun y1 => pj_nm (y1 + v2) (fun z6 => pj_nm (((Int8.ofInt 8).toInt32) * v2) (fun z7 => pj_nm (((Int8.ofInt 24).toInt32) - z7) (fun z8 => pj_nm (va >>> (z8 &&& 31)) (fun z9 => pj_nm (z9 &&& ((Int16.ofInt 255).toInt32)) (fun z10 => pj_nm (pj_wa G 180 z6.toInt.toNat z10) (fun G11 => pj_nm (v2 + Int32.ofInt 1) (fun z12 => ih z12 G11)))))))))) fu
theorem L_180tx_s0 (G0 : pj_G) (va : Int32) (fu : Nat) (v2 : Int32) (G : pj_G) : L_180tx G0 va (fu + 1) v2 G = cond (pj_c1 .ge v2 (Int32.ofInt 4)) (pj_nm (pj_fi G 171 16) (fun y1 => pj_nm (y1 + (Int32.ofInt 4)) (fun z3 => pj_nm (pj_wv G 171 16 (.int z3)) (fun G4 => (z3, G4))))) (pj_nm (pj_fi G 171 16) (fun y1 => pj_nm (y1 + v2) (fun z6 => pj_nm (((Int8.ofInt 8).toInt32) * v2) (fun z7 => pj_nm (((Int8.ofInt 24).toInt32) - z7) (fun z8 => pj_nm (va >>> (z8 &&& 31)) (fun z9 => pj_nm (z9 &&& ((Int16.ofInt 255).toInt32)) (fun z10 => pj_nm (pj_wa G 180 z6.toInt.toNat z10) (fun G11 => pj_nm (v2 + Int32.ofInt 1) (fun z12 => L_180tx G0 va fu z12 G11))))))))) := rfl
noncomputable def F_180tx (G0 : pj_G) (va : Int32) : Int32 × pj_G := pj_nm (pj_wv G0 171 0 (.int (Int32.ofInt 0))) (fun G15 => pj_nm (pj_fi G0 171 16) (fun y14 => cond (pj_c1 .le y14 ((Int8.ofInt 76).toInt32)) (L_180tx G0 va 5 (Int32.ofInt 0) G15) ((Int32.ofInt (-1), G15))))
theorem F_180tx_e (G0 : pj_G) (va : Int32) : F_180tx G0 va = pj_nm (pj_wv G0 171 0 (.int (Int32.ofInt 0))) (fun G15 => pj_nm (pj_fi G0 171 16) (fun y14 => cond (pj_c1 .le y14 ((Int8.ofInt 76).toInt32)) (L_180tx G0 va 5 (Int32.ofInt 0) G15) ((Int32.ofInt (-1), G15)))) := rfl
theorem lp_ct_179tx (G0 : pj_G) (hI0 : pj_Inv G0) (va : Int32) : ∀ mn : Nat, (∀ (G : pj_G) (hI : pj_Inv G) (hK : pj_kpt kc_179tx G0 G) (v2 : Int32), ((0 : Int) ≤ v2.toInt ∧ v2.toInt ≤ 4) → ((pj_fi G 171 16).toInt ≤ 76) → ((pj_fi G 171 16).toInt = (pj_fi G0 171 16).toInt) → 4 - v2.toInt < (mn : Int) → pj_X 0 pj_m179 G 18 [(0, .ref 171), (1, .int va), (2, .int v2)] [] (fun v' G' => ∃ y : Int32, v' = some (.int y) ∧ pj_Inv G' ∧ pj_kpt kc_179tx G0 G' ∧ ((-1 : Int) ≤ y.toInt ∧ y.toInt ≤ 80) ∧ (∀ H, G0 = H → (((pj_fi H 171 16).toInt ≤ 76 → y.toInt = (pj_fi H 171 16).toInt + 4 ∧ (pj_fi G' 171 16).toInt = (pj_fi H 171 16).toInt + 4) ∧ (76 < (pj_fi H 171 16).toInt → y.toInt = -1 ∧ (pj_fi G' 171 16).toInt = (pj_fi H 171 16).toInt))) ∧ ((y, G') = L_180tx G0 va mn v2 G))) := by
  have c0_ : ((Int16.ofInt 255).toInt32).toInt = 255 := by decide
  have c1_ : ((Int8.ofInt 24).toInt32).toInt = 24 := by decide
  have c2_ : ((Int8.ofInt 76).toInt32).toInt = 76 := by decide
  have c3_ : ((Int8.ofInt 8).toInt32).toInt = 8 := by decide
  have c4_ : (Int32.ofInt (-1)).toInt = -1 := by decide
  have c5_ : (Int32.ofInt 0).toInt = 0 := by decide
  have c6_ : (Int32.ofInt 1).toInt = 1 := by decide
  have c7_ : (Int32.ofInt 4).toInt = 4 := by decide
  intro mn
  induction mn with
  | zero =>
    intro G hI hK v2 rv2 x0_ x1_ hm
    exfalso
    omega
  | succ mn ih =>
    intro G hI hK v2 rv2 x0_ x1_ hm
    rw [L_180tx_s0]
    obtain ⟨y1, hy1⟩ : ∃ z : Int32, z = pj_fi G 171 16 := ⟨_, rfl⟩
    have ey1 : (pj_fi G 171 16).toInt = y1.toInt := by rw [hy1]
    have ry1 : (0 : Int) ≤ y1.toInt ∧ y1.toInt ≤ 80 := by rw [hy1]; exact hI.2.1 171 16 (0, 80) rfl
    refine pj_X_of (fun r h => pj_R_to (G, 20, [(0, .ref 171), (1, .int va), (2, .int v2)], [.int (Int32.ofInt 4), .int v2], 0, 0) 20 3 (fun _ => rfl) h) ?_
    cases b2 : pj_c1 .ge v2 (Int32.ofInt 4) with
    | true =>
      rw [pj_cT]
      have ub2 := pj_u_geT b2
      refine pj_X_of (fun r h => pj_R_icT 53 rfl rfl b2 h) ?_
      refine pj_X_of (fun r h => pj_R_to (G, 55, [(0, .ref 171), (1, .int va), (2, .int v2)], [.ref 171, .ref 171], 0, 0) 55 3 (fun _ => rfl) h) ?_
      refine pj_X_of (fun r h => pj_T_gi hI rfl rfl h) ?_
      show pj_X _ _ G 58 [(0, .ref 171), (1, .int va), (2, .int v2)] [.int (pj_fi G 171 16), .ref 171] _
      rw [← hy1, pj_nm_e]
      refine pj_X_of (fun r h => pj_R_to (G, 60, [(0, .ref 171), (1, .int va), (2, .int v2)], [.int (y1 + (Int32.ofInt 4)), .ref 171], 0, 0) 60 3 (fun _ => rfl) h) ?_
      obtain ⟨z3, hz3⟩ : ∃ z : Int32, z = y1 + (Int32.ofInt 4) := ⟨_, rfl⟩
      refine pj_X_eqi hz3.symm ?_
      rw [← hz3, pj_nm_e]
      have fz3_0 : z3.toInt = y1.toInt + (Int32.ofInt 4).toInt := by rw [hz3]; exact pj_addI (by have := pj_i32 y1; have := pj_i32 (Int32.ofInt 4); omega) (by have := pj_i32 y1; have := pj_i32 (Int32.ofInt 4); omega)
      refine pj_X_of (fun r h => pj_T_pf hI rfl rfl rfl h) ?_
      show pj_X _ _ (pj_wv G 171 16 (.int z3)) 63 [(0, .ref 171), (1, .int va), (2, .int v2)] [] _
      obtain ⟨G4, hG4⟩ : ∃ H, H = pj_wv G 171 16 (.int z3) := ⟨_, rfl⟩
      have iG4 : pj_Inv G4 := by rw [hG4]; exact pj_Inv_wi hI (ci := 12) rfl (fun q hq => by cases hq; exact ⟨by show (0 : Int) ≤ _; omega, by show _ ≤ (80 : Int); omega⟩)
      have kG4 : pj_kpt kc_179tx G0 G4 := by rw [hG4]; exact pj_kpt_v hK rfl
      rw [← hG4]
      rw [pj_nm_e]
      refine pj_X_of (fun r h => pj_R_to (G4, 64, [(0, .ref 171), (1, .int va), (2, .int v2)], [.ref 171], 0, 0) 64 2 (fun _ => rfl) h) ?_
      refine pj_X_of (fun r h => pj_T_gi iG4 rfl rfl h) ?_
      show pj_X _ _ G4 67 [(0, .ref 171), (1, .int va), (2, .int v2)] [.int (pj_fi G4 171 16)] _
      refine pj_X_eqi (show pj_fi G4 171 16 = z3 from by rw [hG4]; exact pj_fi_wi hI.1 (ci := 12) rfl _) ?_
      have q5 : (pj_fi G4 171 16).toInt = z3.toInt := by rw [show pj_fi G4 171 16 = z3 from by rw [hG4]; exact pj_fi_wi hI.1 (ci := 12) rfl _]
      exact pj_X_rt rfl rfl ⟨_, rfl, iG4, kG4, ⟨by omega, by omega⟩, (fun H hH => by subst hH; exact (by omega)), rfl⟩
    | false =>
      rw [pj_cF]
      have ub2 := pj_u_geF b2
      refine pj_X_of (fun r h => pj_R_icF rfl b2 h) ?_
      refine pj_X_of (fun r h => pj_R_to (G, 24, [(0, .ref 171), (1, .int va), (2, .int v2)], [.ref 171], 0, 0) 24 2 (fun _ => rfl) h) ?_
      refine pj_X_of (fun r h => pj_T_gr hI rfl rfl rfl h) ?_
      refine pj_X_of (fun r h => pj_R_to (G, 28, [(0, .ref 171), (1, .int va), (2, .int v2)], [.ref 171, .ref 180], 0, 0) 28 2 (fun _ => rfl) h) ?_
      refine pj_X_of (fun r h => pj_T_gi hI rfl rfl h) ?_
      show pj_X _ _ G 31 [(0, .ref 171), (1, .int va), (2, .int v2)] [.int (pj_fi G 171 16), .ref 180] _
      rw [← hy1, pj_nm_e]
      refine pj_X_of (fun r h => pj_R_to (G, 33, [(0, .ref 171), (1, .int va), (2, .int v2)], [.int (y1 + v2), .ref 180], 0, 0) 33 3 (fun _ => rfl) h) ?_
      obtain ⟨z6, hz6⟩ : ∃ z : Int32, z = y1 + v2 := ⟨_, rfl⟩
      refine pj_X_eqi hz6.symm ?_
      rw [← hz6, pj_nm_e]
      have fz6_0 : z6.toInt = y1.toInt + v2.toInt := by rw [hz6]; exact pj_addI (by have := pj_i32 y1; have := pj_i32 v2; omega) (by have := pj_i32 y1; have := pj_i32 v2; omega)
      refine pj_X_of (fun r h => pj_R_to (G, 40, [(0, .ref 171), (1, .int va), (2, .int v2)], [.int (((Int8.ofInt 8).toInt32) * v2), .int ((Int8.ofInt 24).toInt32), .int va, .int z6, .ref 180], 0, 0) 40 6 (fun _ => rfl) h) ?_
      obtain ⟨z7, hz7⟩ : ∃ z : Int32, z = ((Int8.ofInt 8).toInt32) * v2 := ⟨_, rfl⟩
      refine pj_X_eqi hz7.symm ?_
      rw [← hz7, pj_nm_e]
      have fz7_0 : z7.toInt = 8 * v2.toInt := by rw [hz7]; exact pj_mulL (by decide) (by omega) (by omega)
      refine pj_X_of (fun r h => pj_R_to (G, 41, [(0, .ref 171), (1, .int va), (2, .int v2)], [.int (((Int8.ofInt 24).toInt32) - z7), .int va, .int z6, .ref 180], 0, 0) 41 2 (fun _ => rfl) h) ?_
      obtain ⟨z8, hz8⟩ : ∃ z : Int32, z = ((Int8.ofInt 24).toInt32) - z7 := ⟨_, rfl⟩
      refine pj_X_eqi hz8.symm ?_
      rw [← hz8, pj_nm_e]
      have fz8_0 : z8.toInt = ((Int8.ofInt 24).toInt32).toInt - z7.toInt := by rw [hz8]; exact pj_subI (by have := pj_i32 ((Int8.ofInt 24).toInt32); have := pj_i32 z7; omega) (by have := pj_i32 ((Int8.ofInt 24).toInt32); have := pj_i32 z7; omega)
      refine pj_X_of (fun r h => pj_R_to (G, 42, [(0, .ref 171), (1, .int va), (2, .int v2)], [.int (va >>> (z8 &&& 31)), .int z6, .ref 180], 0, 0) 42 2 (fun _ => rfl) h) ?_
      obtain ⟨z9, hz9⟩ : ∃ z : Int32, z = va >>> (z8 &&& 31) := ⟨_, rfl⟩
      refine pj_X_eqi hz9.symm ?_
      rw [← hz9, pj_nm_e]
      refine pj_X_of (fun r h => pj_R_to (G, 46, [(0, .ref 171), (1, .int va), (2, .int v2)], [.int (z9 &&& ((Int16.ofInt 255).toInt32)), .int z6, .ref 180], 0, 0) 46 3 (fun _ => rfl) h) ?_
      obtain ⟨z10, hz10⟩ : ∃ z : Int32, z = z9 &&& ((Int16.ofInt 255).toInt32) := ⟨_, rfl⟩
      refine pj_X_eqi hz10.symm ?_
      rw [← hz10, pj_nm_e]
      have fz10_0 : 0 ≤ z10.toInt ∧ z10.toInt ≤ ((Int16.ofInt 255).toInt32).toInt := by rw [hz10]; exact pj_andI (by omega)
      refine pj_X_of (fun r h => pj_T_is hI rfl rfl (by omega) (by omega) h) ?_
      show pj_X _ _ (pj_wa G 180 z6.toInt.toNat z10) 47 [(0, .ref 171), (1, .int va), (2, .int v2)] [] _
      obtain ⟨G11, hG11⟩ : ∃ H, H = pj_wa G 180 z6.toInt.toNat z10 := ⟨_, rfl⟩
      have iG11 : pj_Inv G11 := by rw [hG11]; exact pj_Inv_wa hI rfl (fun q hq => by cases hq; exact ⟨by show (0 : Int) ≤ _; omega, by show _ ≤ (255 : Int); omega, by show _ ≤ (0 : Int) ∨ (0 : Int) ≤ _; omega⟩) (fun n hn => by cases hn)
      have kG11 : pj_kpt kc_179tx G0 G11 := by rw [hG11]; exact pj_kpt_a hK rfl
      rw [← hG11]
      rw [pj_nm_e]
      refine pj_X_of (fun r h => pj_R_to (G11, 50, [(2, .int (v2 + Int32.ofInt 1)), (0, .ref 171), (1, .int va)], [], 0, 0) 50 2 (fun _ => rfl) h) ?_
      obtain ⟨z12, hz12⟩ : ∃ z : Int32, z = v2 + Int32.ofInt 1 := ⟨_, rfl⟩
      rw [← hz12]
      rw [pj_nm_e]
      have fz12_0 : z12.toInt = v2.toInt + (Int32.ofInt 1).toInt := by rw [hz12]; exact pj_addI (by have := pj_i32 v2; have := pj_i32 (Int32.ofInt 1); omega) (by have := pj_i32 v2; have := pj_i32 (Int32.ofInt 1); omega)
      refine pj_X_of (fun r h => pj_R_to (G11, 18, [(2, .int z12), (0, .ref 171), (1, .int va)], [], 0, 0) 18 2 (fun _ => rfl) h) ?_
      have q13 : (pj_fi G11 171 16).toInt = y1.toInt := by rw [show pj_fi G11 171 16 = y1 from by rw [hG11, pj_fi_wa]; exact hy1.symm]
      exact pj_X_sub [(0, .ref 171), (1, .int va), (2, .int z12)] (show List.Nodup [0, 1, 2] by decide) ⟨rfl, rfl, rfl, trivial⟩ (ih G11 iG11 kG11 z12 ⟨by omega, by omega⟩ (by omega) (by omega) (by omega))
theorem ct_179tx (G0 : pj_G) (hI : pj_Inv G0) (va : Int32) : pj_Y 1 179 [.ref 171, .int va] G0 (fun v' G' => ∃ y : Int32, v' = some (.int y) ∧ pj_Inv G' ∧ pj_kpt kc_179tx G0 G' ∧ ((-1 : Int) ≤ y.toInt ∧ y.toInt ≤ 80) ∧ (∀ H, G0 = H → (((pj_fi H 171 16).toInt ≤ 76 → y.toInt = (pj_fi H 171 16).toInt + 4 ∧ (pj_fi G' 171 16).toInt = (pj_fi H 171 16).toInt + 4) ∧ (76 < (pj_fi H 171 16).toInt → y.toInt = -1 ∧ (pj_fi G' 171 16).toInt = (pj_fi H 171 16).toInt))) ∧ ((y, G') = F_180tx G0 va)) := by
  have c0_ : ((Int16.ofInt 255).toInt32).toInt = 255 := by decide
  have c1_ : ((Int8.ofInt 24).toInt32).toInt = 24 := by decide
  have c2_ : ((Int8.ofInt 76).toInt32).toInt = 76 := by decide
  have c3_ : ((Int8.ofInt 8).toInt32).toInt = 8 := by decide
  have c4_ : (Int32.ofInt (-1)).toInt = -1 := by decide
  have c5_ : (Int32.ofInt 0).toInt = 0 := by decide
  have c6_ : (Int32.ofInt 1).toInt = 1 := by decide
  have c7_ : (Int32.ofInt 4).toInt = 4 := by decide
  refine pj_Y_X (M := pj_m179) rfl rfl (Nat.le_of_ble_eq_true rfl) ?_
  have hK : pj_kpt kc_179tx G0 G0 := pj_kpt_r _ _
  show pj_X _ _ G0 0 [(0, .ref 171), (1, .int va)] [] _
  rw [F_180tx_e]
  obtain ⟨y14, hy14⟩ : ∃ z : Int32, z = pj_fi G0 171 16 := ⟨_, rfl⟩
  have ey14 : (pj_fi G0 171 16).toInt = y14.toInt := by rw [hy14]
  have ry14 : (0 : Int) ≤ y14.toInt ∧ y14.toInt ≤ 80 := by rw [hy14]; exact hI.2.1 171 16 (0, 80) rfl
  refine pj_X_of (fun r h => pj_R_to (G0, 2, [(0, .ref 171), (1, .int va)], [.int (Int32.ofInt 0), .ref 171], 0, 0) 2 3 (fun _ => rfl) h) ?_
  refine pj_X_of (fun r h => pj_T_pf hI rfl rfl rfl h) ?_
  show pj_X _ _ (pj_wv G0 171 0 (.int (Int32.ofInt 0))) 5 [(0, .ref 171), (1, .int va)] [] _
  obtain ⟨G15, hG15⟩ : ∃ H, H = pj_wv G0 171 0 (.int (Int32.ofInt 0)) := ⟨_, rfl⟩
  have iG15 : pj_Inv G15 := by rw [hG15]; exact pj_Inv_wi hI (ci := 12) rfl (fun q hq => by cases hq)
  have kG15 : pj_kpt kc_179tx G0 G15 := by rw [hG15]; exact pj_kpt_v hK rfl
  rw [← hG15]
  rw [pj_nm_e]
  refine pj_X_of (fun r h => pj_R_to (G15, 6, [(0, .ref 171), (1, .int va)], [.ref 171], 0, 0) 6 2 (fun _ => rfl) h) ?_
  refine pj_X_of (fun r h => pj_T_gi iG15 rfl rfl h) ?_
  show pj_X _ _ G15 9 [(0, .ref 171), (1, .int va)] [.int (pj_fi G15 171 16)] _
  rw [← hy14, pj_nm_e]
  refine pj_X_eqi (show pj_fi G15 171 16 = y14 from by rw [hG15, pj_fi_wv_ne _ _ _ _ _ _ (by decide)]; exact hy14.symm) ?_
  refine pj_X_of (fun r h => pj_R_to (G15, 11, [(0, .ref 171), (1, .int va)], [.int ((Int8.ofInt 76).toInt32), .int y14], 0, 0) 11 2 (fun _ => rfl) h) ?_
  cases b16 : pj_c1 .le y14 ((Int8.ofInt 76).toInt32) with
  | true =>
    rw [pj_cT]
    have ub16 := pj_u_leT b16
    refine pj_X_of (fun r h => pj_R_icT 16 rfl rfl b16 h) ?_
    refine pj_X_of (fun r h => pj_R_to (G15, 18, [(2, .int (Int32.ofInt 0)), (0, .ref 171), (1, .int va)], [], 0, 0) 18 3 (fun _ => rfl) h) ?_
    have q17 : (pj_fi G15 171 16).toInt = y14.toInt := by rw [show pj_fi G15 171 16 = y14 from by rw [hG15, pj_fi_wv_ne _ _ _ _ _ _ (by decide)]; exact hy14.symm]
    exact pj_X_sub [(0, .ref 171), (1, .int va), (2, .int (Int32.ofInt 0))] (show List.Nodup [0, 1, 2] by decide) ⟨rfl, rfl, rfl, trivial⟩ ((lp_ct_179tx G0 hI va  5) G15 iG15 kG15 (Int32.ofInt 0) ⟨by omega, by omega⟩ (by omega) (by omega) (by omega))
  | false =>
    rw [pj_cF]
    have ub16 := pj_u_leF b16
    refine pj_X_of (fun r h => pj_R_icF rfl b16 h) ?_
    refine pj_X_of (fun r h => pj_R_to (G15, 15, [(0, .ref 171), (1, .int va)], [.int (Int32.ofInt (-1))], 0, 0) 15 2 (fun _ => rfl) h) ?_
    have q18 : (pj_fi G15 171 16).toInt = y14.toInt := by rw [show pj_fi G15 171 16 = y14 from by rw [hG15, pj_fi_wv_ne _ _ _ _ _ _ (by decide)]; exact hy14.symm]
    exact pj_X_rt rfl rfl ⟨_, rfl, iG15, kG15, ⟨by omega, by omega⟩, (fun H hH => by subst hH; exact (by omega)), rfl⟩
theorem fr_180tx (G0 : pj_G) (hI : pj_Inv G0) (va : Int32) : pj_Inv (F_180tx G0 va).2 ∧ pj_kpt kc_179tx G0 (F_180tx G0 va).2 ∧ ((-1 : Int) ≤ (F_180tx G0 va).1.toInt ∧ (F_180tx G0 va).1.toInt ≤ 80) ∧ (((pj_fi G0 171 16).toInt ≤ 76 → (F_180tx G0 va).1.toInt = (pj_fi G0 171 16).toInt + 4 ∧ (pj_fi (F_180tx G0 va).2 171 16).toInt = (pj_fi G0 171 16).toInt + 4) ∧ (76 < (pj_fi G0 171 16).toInt → (F_180tx G0 va).1.toInt = -1 ∧ (pj_fi (F_180tx G0 va).2 171 16).toInt = (pj_fi G0 171 16).toInt)) := by
  obtain ⟨v, G', -, y, -, i, j, r, x, e⟩ := ct_179tx G0 hI va
  rw [← e]
  exact ⟨i, j, r, x _ rfl⟩
def kc_180x : pj_KT := ([(171, 0), (171, 16)], [171], [])
noncomputable def F_181x (G0 : pj_G) (n : Int32) : Int32 × pj_G := pj_nm (pj_wv G0 171 0 (.int (Int32.ofInt 0))) (fun G2 => pj_nm (pj_fi G0 171 16) (fun y1 => pj_nm (F_171x G2 n.toInt64 (Int64.ofNat 0) y1.toInt64) (fun y7 => cond (pj_c1 .ne y7 0) (pj_nm (pj_wv G2 171 16 (.int n)) (fun G9 => (Int32.ofInt 1, G9))) ((Int32.ofInt 0, G2)))))
theorem F_181x_e (G0 : pj_G) (n : Int32) : F_181x G0 n = pj_nm (pj_wv G0 171 0 (.int (Int32.ofInt 0))) (fun G2 => pj_nm (pj_fi G0 171 16) (fun y1 => pj_nm (F_171x G2 n.toInt64 (Int64.ofNat 0) y1.toInt64) (fun y7 => cond (pj_c1 .ne y7 0) (pj_nm (pj_wv G2 171 16 (.int n)) (fun G9 => (Int32.ofInt 1, G9))) ((Int32.ofInt 0, G2))))) := rfl
theorem ct_180x (G0 : pj_G) (hI : pj_Inv G0) (n : Int32) : pj_Y 2 180 [.ref 171, .int n] G0 (fun v' G' => ∃ y : Int32, v' = some (.int y) ∧ pj_Inv G' ∧ pj_kpt kc_180x G0 G' ∧ ((0 : Int) ≤ y.toInt ∧ y.toInt ≤ 1) ∧ ((y, G') = F_181x G0 n)) := by
  have c0_ : (Int32.ofInt 0).toInt = 0 := by decide
  have c1_ : (Int32.ofInt 1).toInt = 1 := by decide
  refine pj_Y_X (M := pj_m180) rfl rfl (Nat.le_of_ble_eq_true rfl) ?_
  have hK : pj_kpt kc_180x G0 G0 := pj_kpt_r _ _
  show pj_X _ _ G0 0 [(0, .ref 171), (1, .int n)] [] _
  rw [F_181x_e]
  obtain ⟨y1, hy1⟩ : ∃ z : Int32, z = pj_fi G0 171 16 := ⟨_, rfl⟩
  have ey1 : (pj_fi G0 171 16).toInt = y1.toInt := by rw [hy1]
  have ry1 : (0 : Int) ≤ y1.toInt ∧ y1.toInt ≤ 80 := by rw [hy1]; exact hI.2.1 171 16 (0, 80) rfl
  refine pj_X_of (fun r h => pj_R_to (G0, 2, [(0, .ref 171), (1, .int n)], [.int (Int32.ofInt 0), .ref 171], 0, 0) 2 3 (fun _ => rfl) h) ?_
  refine pj_X_of (fun r h => pj_T_pf hI rfl rfl rfl h) ?_
  show pj_X _ _ (pj_wv G0 171 0 (.int (Int32.ofInt 0))) 5 [(0, .ref 171), (1, .int n)] [] _
  obtain ⟨G2, hG2⟩ : ∃ H, H = pj_wv G0 171 0 (.int (Int32.ofInt 0)) := ⟨_, rfl⟩
  have iG2 : pj_Inv G2 := by rw [hG2]; exact pj_Inv_wi hI (ci := 12) rfl (fun q hq => by cases hq)
  have kG2 : pj_kpt kc_180x G0 G2 := by rw [hG2]; exact pj_kpt_v hK rfl
  rw [← hG2]
  rw [pj_nm_e]
  refine pj_X_of (fun r h => pj_R_to (G2, 9, [(0, .ref 171), (1, .int n)], [.ref 171, .long (Int64.ofNat 0), .long n.toInt64], 0, 0) 9 5 (fun _ => rfl) h) ?_
  refine pj_X_of (fun r h => pj_T_gi iG2 rfl rfl h) ?_
  show pj_X _ _ G2 12 [(0, .ref 171), (1, .int n)] [.int (pj_fi G2 171 16), .long (Int64.ofNat 0), .long n.toInt64] _
  rw [← hy1, pj_nm_e]
  refine pj_X_eqi (show pj_fi G2 171 16 = y1 from by rw [hG2, pj_fi_wv_ne _ _ _ _ _ _ (by decide)]; exact hy1.symm) ?_
  refine pj_X_of (fun r h => pj_R_to (G2, 13, [(0, .ref 171), (1, .int n)], [.long y1.toInt64, .long (Int64.ofNat 0), .long n.toInt64], 0, 0) 13 2 (fun _ => rfl) h) ?_
  have q3 : (pj_fi G2 171 16).toInt = y1.toInt := by rw [show pj_fi G2 171 16 = y1 from by rw [hG2, pj_fi_wv_ne _ _ _ _ _ _ (by decide)]; exact hy1.symm]
  have lc4 : (n.toInt64).toInt = n.toInt := Int32.toInt_toInt64 _
  have lc5 : (Int64.ofNat 0).toInt = 0 := by decide
  have lc6 : (y1.toInt64).toInt = y1.toInt := Int32.toInt_toInt64 _
  refine pj_X_ca (vs := [.long n.toInt64, .long (Int64.ofNat 0), .long y1.toInt64]) rfl (fun _ => rfl) ⟨Nat.le_of_ble_eq_true rfl, Nat.le_of_ble_eq_true rfl, rfl⟩ ⟨rfl, rfl⟩ (pj_Y_up (by decide) (ct_170x G2 iG2 n.toInt64 (Int64.ofNat 0) y1.toInt64)) ?_
  rintro _ _ ⟨y7, rfl, rfl, ry7, ey7, fy7⟩
  rw [← fy7, pj_nm_e]
  show pj_X _ _ G2 16 [(0, .ref 171), (1, .int n)] [.int y7] _
  cases b8 : pj_c1 .ne y7 0 with
  | true =>
    rw [pj_cT]
    have ub8 := pj_u0_neT b8
    refine pj_X_of (fun r h => pj_R_ifT 21 rfl rfl b8 h) ?_
    refine pj_X_of (fun r h => pj_R_to (G2, 23, [(0, .ref 171), (1, .int n)], [.int n, .ref 171], 0, 0) 23 3 (fun _ => rfl) h) ?_
    refine pj_X_of (fun r h => pj_T_pf iG2 rfl rfl rfl h) ?_
    show pj_X _ _ (pj_wv G2 171 16 (.int n)) 26 [(0, .ref 171), (1, .int n)] [] _
    obtain ⟨G9, hG9⟩ : ∃ H, H = pj_wv G2 171 16 (.int n) := ⟨_, rfl⟩
    have iG9 : pj_Inv G9 := by rw [hG9]; exact pj_Inv_wi iG2 (ci := 12) rfl (fun q hq => by cases hq; exact ⟨by show (0 : Int) ≤ _; omega, by show _ ≤ (80 : Int); omega⟩)
    have kG9 : pj_kpt kc_180x G0 G9 := by rw [hG9]; exact pj_kpt_v kG2 rfl
    rw [← hG9]
    rw [pj_nm_e]
    refine pj_X_of (fun r h => pj_R_to (G9, 27, [(0, .ref 171), (1, .int n)], [.int (Int32.ofInt 1)], 0, 0) 27 2 (fun _ => rfl) h) ?_
    have q10 : (pj_fi G9 171 16).toInt = n.toInt := by rw [show pj_fi G9 171 16 = n from by rw [hG9]; exact pj_fi_wi iG2.1 (ci := 12) rfl _]
    exact pj_X_rt rfl rfl ⟨_, rfl, iG9, kG9, ⟨by omega, by omega⟩, rfl⟩
  | false =>
    rw [pj_cF]
    have ub8 := pj_u0_neF b8
    refine pj_X_of (fun r h => pj_R_ifF rfl b8 h) ?_
    refine pj_X_of (fun r h => pj_R_to (G2, 20, [(0, .ref 171), (1, .int n)], [.int (Int32.ofInt 0)], 0, 0) 20 2 (fun _ => rfl) h) ?_
    have q11 : (pj_fi G2 171 16).toInt = y1.toInt := by rw [show pj_fi G2 171 16 = y1 from by rw [hG2, pj_fi_wv_ne _ _ _ _ _ _ (by decide)]; exact hy1.symm]
    exact pj_X_rt rfl rfl ⟨_, rfl, iG2, kG2, ⟨by omega, by omega⟩, rfl⟩
theorem fr_181x (G0 : pj_G) (hI : pj_Inv G0) (n : Int32) : pj_Inv (F_181x G0 n).2 ∧ pj_kpt kc_180x G0 (F_181x G0 n).2 ∧ ((0 : Int) ≤ (F_181x G0 n).1.toInt ∧ (F_181x G0 n).1.toInt ≤ 1) := by
  obtain ⟨v, G', -, y, -, i, j, r, e⟩ := ct_180x G0 hI n
  rw [← e]
  exact ⟨i, j, r⟩
def kc_180tx : pj_KT := ([(171, 0), (171, 16)], [171], [])
noncomputable def F_181tx (G0 : pj_G) (n : Int32) : Int32 × pj_G := pj_nm (pj_wv G0 171 0 (.int (Int32.ofInt 0))) (fun G2 => pj_nm (pj_fi G0 171 16) (fun y1 => pj_nm (F_171x G2 n.toInt64 (Int64.ofNat 0) y1.toInt64) (fun y7 => cond (pj_c1 .ne y7 0) (pj_nm (pj_wv G2 171 16 (.int n)) (fun G9 => (Int32.ofInt 1, G9))) ((Int32.ofInt 0, G2)))))
theorem F_181tx_e (G0 : pj_G) (n : Int32) : F_181tx G0 n = pj_nm (pj_wv G0 171 0 (.int (Int32.ofInt 0))) (fun G2 => pj_nm (pj_fi G0 171 16) (fun y1 => pj_nm (F_171x G2 n.toInt64 (Int64.ofNat 0) y1.toInt64) (fun y7 => cond (pj_c1 .ne y7 0) (pj_nm (pj_wv G2 171 16 (.int n)) (fun G9 => (Int32.ofInt 1, G9))) ((Int32.ofInt 0, G2))))) := rfl
theorem ct_180tx (G0 : pj_G) (hI : pj_Inv G0) (n : Int32) : pj_Y 2 180 [.ref 171, .int n] G0 (fun v' G' => ∃ y : Int32, v' = some (.int y) ∧ pj_Inv G' ∧ pj_kpt kc_180tx G0 G' ∧ ((0 : Int) ≤ y.toInt ∧ y.toInt ≤ 1) ∧ (∀ H, G0 = H → ((0 ≤ n.toInt ∧ n.toInt ≤ (pj_fi H 171 16).toInt → y.toInt = 1 ∧ (pj_fi G' 171 16).toInt = n.toInt) ∧ (¬ (0 ≤ n.toInt ∧ n.toInt ≤ (pj_fi H 171 16).toInt) → y.toInt = 0 ∧ (pj_fi G' 171 16).toInt = (pj_fi H 171 16).toInt))) ∧ ((y, G') = F_181tx G0 n)) := by
  have c0_ : (Int32.ofInt 0).toInt = 0 := by decide
  have c1_ : (Int32.ofInt 1).toInt = 1 := by decide
  refine pj_Y_X (M := pj_m180) rfl rfl (Nat.le_of_ble_eq_true rfl) ?_
  have hK : pj_kpt kc_180tx G0 G0 := pj_kpt_r _ _
  show pj_X _ _ G0 0 [(0, .ref 171), (1, .int n)] [] _
  rw [F_181tx_e]
  obtain ⟨y1, hy1⟩ : ∃ z : Int32, z = pj_fi G0 171 16 := ⟨_, rfl⟩
  have ey1 : (pj_fi G0 171 16).toInt = y1.toInt := by rw [hy1]
  have ry1 : (0 : Int) ≤ y1.toInt ∧ y1.toInt ≤ 80 := by rw [hy1]; exact hI.2.1 171 16 (0, 80) rfl
  refine pj_X_of (fun r h => pj_R_to (G0, 2, [(0, .ref 171), (1, .int n)], [.int (Int32.ofInt 0), .ref 171], 0, 0) 2 3 (fun _ => rfl) h) ?_
  refine pj_X_of (fun r h => pj_T_pf hI rfl rfl rfl h) ?_
  show pj_X _ _ (pj_wv G0 171 0 (.int (Int32.ofInt 0))) 5 [(0, .ref 171), (1, .int n)] [] _
  obtain ⟨G2, hG2⟩ : ∃ H, H = pj_wv G0 171 0 (.int (Int32.ofInt 0)) := ⟨_, rfl⟩
  have iG2 : pj_Inv G2 := by rw [hG2]; exact pj_Inv_wi hI (ci := 12) rfl (fun q hq => by cases hq)
  have kG2 : pj_kpt kc_180tx G0 G2 := by rw [hG2]; exact pj_kpt_v hK rfl
  rw [← hG2]
  rw [pj_nm_e]
  refine pj_X_of (fun r h => pj_R_to (G2, 9, [(0, .ref 171), (1, .int n)], [.ref 171, .long (Int64.ofNat 0), .long n.toInt64], 0, 0) 9 5 (fun _ => rfl) h) ?_
  refine pj_X_of (fun r h => pj_T_gi iG2 rfl rfl h) ?_
  show pj_X _ _ G2 12 [(0, .ref 171), (1, .int n)] [.int (pj_fi G2 171 16), .long (Int64.ofNat 0), .long n.toInt64] _
  rw [← hy1, pj_nm_e]
  refine pj_X_eqi (show pj_fi G2 171 16 = y1 from by rw [hG2, pj_fi_wv_ne _ _ _ _ _ _ (by decide)]; exact hy1.symm) ?_
  refine pj_X_of (fun r h => pj_R_to (G2, 13, [(0, .ref 171), (1, .int n)], [.long y1.toInt64, .long (Int64.ofNat 0), .long n.toInt64], 0, 0) 13 2 (fun _ => rfl) h) ?_
  have q3 : (pj_fi G2 171 16).toInt = y1.toInt := by rw [show pj_fi G2 171 16 = y1 from by rw [hG2, pj_fi_wv_ne _ _ _ _ _ _ (by decide)]; exact hy1.symm]
  have lc4 : (n.toInt64).toInt = n.toInt := Int32.toInt_toInt64 _
  have lc5 : (Int64.ofNat 0).toInt = 0 := by decide
  have lc6 : (y1.toInt64).toInt = y1.toInt := Int32.toInt_toInt64 _
  refine pj_X_ca (vs := [.long n.toInt64, .long (Int64.ofNat 0), .long y1.toInt64]) rfl (fun _ => rfl) ⟨Nat.le_of_ble_eq_true rfl, Nat.le_of_ble_eq_true rfl, rfl⟩ ⟨rfl, rfl⟩ (pj_Y_up (by decide) (ct_170x G2 iG2 n.toInt64 (Int64.ofNat 0) y1.toInt64)) ?_
  rintro _ _ ⟨y7, rfl, rfl, ry7, ey7, fy7⟩
  rw [← fy7, pj_nm_e]
  show pj_X _ _ G2 16 [(0, .ref 171), (1, .int n)] [.int y7] _
  cases b8 : pj_c1 .ne y7 0 with
  | true =>
    rw [pj_cT]
    have ub8 := pj_u0_neT b8
    refine pj_X_of (fun r h => pj_R_ifT 21 rfl rfl b8 h) ?_
    refine pj_X_of (fun r h => pj_R_to (G2, 23, [(0, .ref 171), (1, .int n)], [.int n, .ref 171], 0, 0) 23 3 (fun _ => rfl) h) ?_
    refine pj_X_of (fun r h => pj_T_pf iG2 rfl rfl rfl h) ?_
    show pj_X _ _ (pj_wv G2 171 16 (.int n)) 26 [(0, .ref 171), (1, .int n)] [] _
    obtain ⟨G9, hG9⟩ : ∃ H, H = pj_wv G2 171 16 (.int n) := ⟨_, rfl⟩
    have iG9 : pj_Inv G9 := by rw [hG9]; exact pj_Inv_wi iG2 (ci := 12) rfl (fun q hq => by cases hq; exact ⟨by show (0 : Int) ≤ _; omega, by show _ ≤ (80 : Int); omega⟩)
    have kG9 : pj_kpt kc_180tx G0 G9 := by rw [hG9]; exact pj_kpt_v kG2 rfl
    rw [← hG9]
    rw [pj_nm_e]
    refine pj_X_of (fun r h => pj_R_to (G9, 27, [(0, .ref 171), (1, .int n)], [.int (Int32.ofInt 1)], 0, 0) 27 2 (fun _ => rfl) h) ?_
    have q10 : (pj_fi G9 171 16).toInt = n.toInt := by rw [show pj_fi G9 171 16 = n from by rw [hG9]; exact pj_fi_wi iG2.1 (ci := 12) rfl _]
    exact pj_X_rt rfl rfl ⟨_, rfl, iG9, kG9, ⟨by omega, by omega⟩, (fun H hH => by subst hH; exact (by omega)), rfl⟩
  | false =>
    rw [pj_cF]
    have ub8 := pj_u0_neF b8
    refine pj_X_of (fun r h => pj_R_ifF rfl b8 h) ?_
    refine pj_X_of (fun r h => pj_R_to (G2, 20, [(0, .ref 171), (1, .int n)], [.int (Int32.ofInt 0)], 0, 0) 20 2 (fun _ => rfl) h) ?_
    have q11 : (pj_fi G2 171 16).toInt = y1.toInt := by rw [show pj_fi G2 171 16 = y1 from by rw [hG2, pj_fi_wv_ne _ _ _ _ _ _ (by decide)]; exact hy1.symm]
    exact pj_X_rt rfl rfl ⟨_, rfl, iG2, kG2, ⟨by omega, by omega⟩, (fun H hH => by subst hH; exact (by omega)), rfl⟩
theorem fr_181tx (G0 : pj_G) (hI : pj_Inv G0) (n : Int32) : pj_Inv (F_181tx G0 n).2 ∧ pj_kpt kc_180tx G0 (F_181tx G0 n).2 ∧ ((0 : Int) ≤ (F_181tx G0 n).1.toInt ∧ (F_181tx G0 n).1.toInt ≤ 1) ∧ ((0 ≤ n.toInt ∧ n.toInt ≤ (pj_fi G0 171 16).toInt → (F_181tx G0 n).1.toInt = 1 ∧ (pj_fi (F_181tx G0 n).2 171 16).toInt = n.toInt) ∧ (¬ (0 ≤ n.toInt ∧ n.toInt ≤ (pj_fi G0 171 16).toInt) → (F_181tx G0 n).1.toInt = 0 ∧ (pj_fi (F_181tx G0 n).2 171 16).toInt = (pj_fi G0 171 16).toInt)) := by
  obtain ⟨v, G', -, y, -, i, j, r, x, e⟩ := ct_180tx G0 hI n
  rw [← e]
  exact ⟨i, j, r, x _ rfl⟩
