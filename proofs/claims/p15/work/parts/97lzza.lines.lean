def kc_91x : pj_KT := ([(2, 3), (2, 4)], [2, 22, 23, 24, 25, 31], [22, 23, 24, 25, 31])
noncomputable def L_91x (G0 : pj_G) (fu : Nat) : Int32 → Int32 → Int32 → pj_G → Int32 × pj_G := Nat.rec (motive := fun _ => Int32 → Int32 → Int32 → pj_G → Int32 × pj_G) (fun _ _ _ G => (0, G)) (fun _ ih v2 v3 v4 G => cond (pj_c1 .gt v4 ((Int8.ofInt 6).toInt32)) ((v2, G)) (cond (pj_c1 .eq v3 0) ((v2, G)) (cond (pj_c1 .ge v4 ((Int8.ofInt 6).toInt32)) (pj_nm (F_81x G) (fun G13 => pj_nm (v2 + Int32.ofInt 1) (fun z17 => pj_bd (F_82x G13 ((Int8.ofInt 59).toInt32)) (fun y20 G21 => pj_nm (v4 + Int32.ofInt 1) (fun z26 => ih z17 y20 z26 G21))))) (pj_bd (F_83x G ((Int8.ofInt 49).toInt32) ((Int8.ofInt 57).toInt32)) (fun y31 G32 => pj_nm ((Int32.ofInt 1) + y31) (fun z36 => pj_nm (pj_wa G32 31 v4.toInt.toNat z36) (fun G37 => pj_bd (F_83x G37 ((Int8.ofInt 48).toInt32) ((Int8.ofInt 57).toInt32)) (fun y40 G41 => pj_nm (pj_wa G41 24 v4.toInt.toNat y40) (fun G45 => pj_nm (pj_wa G45 22 v4.toInt.toNat (Int32.ofInt (-1))) (fun G46 => pj_nm (pj_wa G46 23 v4.toInt.toNat (Int32.ofInt 0)) (fun G47 => pj_nm (pj_wa G47 25 v4.toInt.toNat (Int32.ofInt (-1))) (fun G48 => pj_nm (v2 + Int32.ofInt 1) (fun z49 => pj_bd (F_82x G48 ((Int8.ofInt 59).toInt32)) (fun y52 G53 => pj_nm (v4 + Int32.ofInt 1) (fun z58 => ih z49 y52 z58 G53))))))))))))))) fu
theorem L_91x_s0 (G0 : pj_G) (fu : Nat) (v2 : Int32) (v3 : Int32) (v4 : Int32) (G : pj_G) : L_91x G0 (fu + 1) v2 v3 v4 G = cond (pj_c1 .gt v4 ((Int8.ofInt 6).toInt32)) ((v2, G)) (cond (pj_c1 .eq v3 0) ((v2, G)) (cond (pj_c1 .ge v4 ((Int8.ofInt 6).toInt32)) (pj_nm (F_81x G) (fun G13 => pj_nm (v2 + Int32.ofInt 1) (fun z17 => pj_bd (F_82x G13 ((Int8.ofInt 59).toInt32)) (fun y20 G21 => pj_nm (v4 + Int32.ofInt 1) (fun z26 => L_91x G0 fu z17 y20 z26 G21))))) (pj_bd (F_83x G ((Int8.ofInt 49).toInt32) ((Int8.ofInt 57).toInt32)) (fun y31 G32 => pj_nm ((Int32.ofInt 1) + y31) (fun z36 => pj_nm (pj_wa G32 31 v4.toInt.toNat z36) (fun G37 => pj_bd (F_83x G37 ((Int8.ofInt 48).toInt32) ((Int8.ofInt 57).toInt32)) (fun y40 G41 => pj_nm (pj_wa G41 24 v4.toInt.toNat y40) (fun G45 => pj_nm (pj_wa G45 22 v4.toInt.toNat (Int32.ofInt (-1))) (fun G46 => pj_nm (pj_wa G46 23 v4.toInt.toNat (Int32.ofInt 0)) (fun G47 => pj_nm (pj_wa G47 25 v4.toInt.toNat (Int32.ofInt (-1))) (fun G48 => pj_nm (v2 + Int32.ofInt 1) (fun z49 => pj_bd (F_82x G48 ((Int8.ofInt 59).toInt32)) (fun y52 G53 => pj_nm (v4 + Int32.ofInt 1) (fun z58 => L_91x G0 fu z49 y52 z58 G53)))))))))))))) := rfl
noncomputable def F_91x (G0 : pj_G) : Int32 × pj_G := pj_nm (F_80x G0) (fun y65 => cond (pj_c1 .eq y65 (Int32.ofInt (-1))) (pj_nm (pj_fi G0 21 0) (fun y61 => L_91x G0 8 (Int32.ofInt 0) (Int32.ofInt 0) y61 G0)) (pj_nm (pj_fi G0 21 0) (fun y61 => L_91x G0 8 (Int32.ofInt 0) (Int32.ofInt 1) y61 G0)))
theorem F_91x_e (G0 : pj_G) : F_91x G0 = pj_nm (F_80x G0) (fun y65 => cond (pj_c1 .eq y65 (Int32.ofInt (-1))) (pj_nm (pj_fi G0 21 0) (fun y61 => L_91x G0 8 (Int32.ofInt 0) (Int32.ofInt 0) y61 G0)) (pj_nm (pj_fi G0 21 0) (fun y61 => L_91x G0 8 (Int32.ofInt 0) (Int32.ofInt 1) y61 G0))) := rfl
theorem lp_ct_91x (G0 : pj_G) (hI0 : pj_Inv G0) : ∀ mn : Nat, (∀ (G : pj_G) (hI : pj_Inv G) (hK : pj_kpt kc_91x G0 G) (v2 : Int32) (v3 : Int32) (v4 : Int32), ((0 : Int) ≤ v2.toInt ∧ v2.toInt ≤ 7) → ((0 : Int) ≤ v3.toInt ∧ v3.toInt ≤ 1) → ((0 : Int) ≤ v4.toInt ∧ v4.toInt ≤ 7) → (v4.toInt = (pj_fi G 21 0).toInt + v2.toInt) → (v4.toInt = 7 → (pj_fi G 2 4).toInt ≠ -1) → 7 - v4.toInt < (mn : Int) → pj_X 2 pj_m91 G 25 [(0, .ref 6), (1, .ref 2), (2, .int v2), (3, .int v3), (4, .int v4)] [] (fun v' G' => ∃ y : Int32, v' = some (.int y) ∧ pj_Inv G' ∧ pj_kpt kc_91x G0 G' ∧ ((0 : Int) ≤ y.toInt ∧ y.toInt ≤ 7) ∧ ((pj_fi G' 2 4).toInt = -1 → (pj_fi G' 21 0).toInt + y.toInt ≤ 6) ∧ ((y, G') = L_91x G0 mn v2 v3 v4 G))) := by
  have c0_ : ((Int8.ofInt 48).toInt32).toInt = 48 := by decide
  have c1_ : ((Int8.ofInt 49).toInt32).toInt = 49 := by decide
  have c2_ : ((Int8.ofInt 57).toInt32).toInt = 57 := by decide
  have c3_ : ((Int8.ofInt 59).toInt32).toInt = 59 := by decide
  have c4_ : ((Int8.ofInt 6).toInt32).toInt = 6 := by decide
  have c5_ : (Int32.ofInt (-1)).toInt = -1 := by decide
  have c6_ : (Int32.ofInt 0).toInt = 0 := by decide
  have c7_ : (Int32.ofInt 1).toInt = 1 := by decide
  intro mn
  induction mn with
  | zero =>
    intro G hI hK v2 v3 v4 rv2 rv3 rv4 x0_ x1_ hm
    exfalso
    omega
  | succ mn ih =>
    intro G hI hK v2 v3 v4 rv2 rv3 rv4 x0_ x1_ hm
    rw [L_91x_s0]
    obtain ⟨y1, hy1⟩ : ∃ z : Int32, z = pj_fi G 21 0 := ⟨_, rfl⟩
    have ey1 : (pj_fi G 21 0).toInt = y1.toInt := by rw [hy1]
    have ry1 : (0 : Int) ≤ y1.toInt ∧ y1.toInt ≤ 6 := by rw [hy1]; exact hI.2.1 21 0 (0, 6) rfl
    obtain ⟨y2, hy2⟩ : ∃ z : Int32, z = pj_fi G 2 4 := ⟨_, rfl⟩
    have ey2 : (pj_fi G 2 4).toInt = y2.toInt := by rw [hy2]
    have ry2 : (-1 : Int) ≤ y2.toInt ∧ y2.toInt ≤ 80 := by rw [hy2]; exact hI.2.1 2 4 (-1, 80) rfl
    refine pj_X_of (fun r h => pj_R_to (G, 29, [(0, .ref 6), (1, .ref 2), (2, .int v2), (3, .int v3), (4, .int v4)], [.int ((Int8.ofInt 6).toInt32), .int v4], 0, 0) 29 3 (fun _ => rfl) h) ?_
    cases b3 : pj_c1 .gt v4 ((Int8.ofInt 6).toInt32) with
    | true =>
      rw [pj_cT]
      have ub3 := pj_u_gtT b3
      refine pj_X_of (fun r h => pj_R_icT 134 rfl rfl b3 h) ?_
      refine pj_X_of (fun r h => pj_R_to (G, 135, [(0, .ref 6), (1, .ref 2), (2, .int v2), (3, .int v3), (4, .int v4)], [.int v2], 0, 0) 135 2 (fun _ => rfl) h) ?_
      have q4 : (pj_fi G 21 0).toInt = y1.toInt := by rw [show pj_fi G 21 0 = y1 from hy1.symm]
      have q5 : (pj_fi G 2 4).toInt = y2.toInt := by rw [show pj_fi G 2 4 = y2 from hy2.symm]
      exact pj_X_rt rfl rfl ⟨_, rfl, hI, hK, ⟨by omega, by omega⟩, by omega, rfl⟩
    | false =>
      rw [pj_cF]
      have ub3 := pj_u_gtF b3
      refine pj_X_of (fun r h => pj_R_icF rfl b3 h) ?_
      refine pj_X_of (fun r h => pj_R_to (G, 33, [(0, .ref 6), (1, .ref 2), (2, .int v2), (3, .int v3), (4, .int v4)], [.int v3], 0, 0) 33 2 (fun _ => rfl) h) ?_
      cases b6 : pj_c1 .eq v3 0 with
      | true =>
        rw [pj_cT]
        have ub6 := pj_u0_eqT b6
        refine pj_X_of (fun r h => pj_R_ifT 134 rfl rfl b6 h) ?_
        refine pj_X_of (fun r h => pj_R_to (G, 135, [(0, .ref 6), (1, .ref 2), (2, .int v2), (3, .int v3), (4, .int v4)], [.int v2], 0, 0) 135 2 (fun _ => rfl) h) ?_
        have q7 : (pj_fi G 21 0).toInt = y1.toInt := by rw [show pj_fi G 21 0 = y1 from hy1.symm]
        have q8 : (pj_fi G 2 4).toInt = y2.toInt := by rw [show pj_fi G 2 4 = y2 from hy2.symm]
        exact pj_X_rt rfl rfl ⟨_, rfl, hI, hK, ⟨by omega, by omega⟩, by omega, rfl⟩
      | false =>
        rw [pj_cF]
        have ub6 := pj_u0_eqF b6
        refine pj_X_of (fun r h => pj_R_ifF rfl b6 h) ?_
        refine pj_X_of (fun r h => pj_R_to (G, 40, [(0, .ref 6), (1, .ref 2), (2, .int v2), (3, .int v3), (4, .int v4)], [.int ((Int8.ofInt 6).toInt32), .int v4], 0, 0) 40 3 (fun _ => rfl) h) ?_
        cases b9 : pj_c1 .ge v4 ((Int8.ofInt 6).toInt32) with
        | true =>
          rw [pj_cT]
          have ub9 := pj_u_geT b9
          refine pj_X_of (fun r h => pj_R_icT 114 rfl rfl b9 h) ?_
          refine pj_X_of (fun r h => pj_R_to (G, 115, [(0, .ref 6), (1, .ref 2), (2, .int v2), (3, .int v3), (4, .int v4)], [.ref 2], 0, 0) 115 2 (fun _ => rfl) h) ?_
          have q10 : (pj_fi G 21 0).toInt = y1.toInt := by rw [show pj_fi G 21 0 = y1 from hy1.symm]
          have q11 : (pj_fi G 2 4).toInt = y2.toInt := by rw [show pj_fi G 2 4 = y2 from hy2.symm]
          refine pj_X_ca (vs := [.ref 2]) rfl (fun _ => rfl) ⟨Nat.le_of_ble_eq_true rfl, Nat.le_of_ble_eq_true rfl, pj_T_rcv hI rfl⟩ ⟨rfl, rfl⟩ (pj_Y_up (by decide) (ct_81x G hI)) ?_
          rintro _ G13 ⟨rfl, iG13, jG13, eG13, fy12⟩
          replace eG13 := eG13 _ rfl
          rw [← fy12, pj_nm_e]
          have kG13 : pj_kpt kc_91x G0 G13 := pj_kpt_t hK (pj_kpt_s jG13 rfl)
          have q14 : (pj_fi G13 21 0).toInt = (pj_fi G 21 0).toInt := by rw [jG13.1 (21, 0) (by decide)]
          obtain ⟨y15, hy15⟩ : ∃ z : Int32, z = pj_fi G13 21 0 := ⟨_, rfl⟩
          have ey15 : (pj_fi G13 21 0).toInt = y15.toInt := by rw [hy15]
          have ry15 : (0 : Int) ≤ y15.toInt ∧ y15.toInt ≤ 6 := by rw [hy15]; exact iG13.2.1 21 0 (0, 6) rfl
          obtain ⟨y16, hy16⟩ : ∃ z : Int32, z = pj_fi G13 2 4 := ⟨_, rfl⟩
          have ey16 : (pj_fi G13 2 4).toInt = y16.toInt := by rw [hy16]
          have ry16 : (-1 : Int) ≤ y16.toInt ∧ y16.toInt ≤ 80 := by rw [hy16]; exact iG13.2.1 2 4 (-1, 80) rfl
          show pj_X _ _ G13 118 [(0, .ref 6), (1, .ref 2), (2, .int v2), (3, .int v3), (4, .int v4)] [] _
          refine pj_X_of (fun r h => pj_R_to (G13, 121, [(2, .int (v2 + Int32.ofInt 1)), (0, .ref 6), (1, .ref 2), (3, .int v3), (4, .int v4)], [], 0, 0) 121 2 (fun _ => rfl) h) ?_
          obtain ⟨z17, hz17⟩ : ∃ z : Int32, z = v2 + Int32.ofInt 1 := ⟨_, rfl⟩
          rw [← hz17]
          rw [pj_nm_e]
          have fz17_0 : z17.toInt = v2.toInt + (Int32.ofInt 1).toInt := by rw [hz17]; exact pj_addI (by have := pj_i32 v2; have := pj_i32 (Int32.ofInt 1); omega) (by have := pj_i32 v2; have := pj_i32 (Int32.ofInt 1); omega)
          refine pj_X_of (fun r h => pj_R_to (G13, 124, [(2, .int z17), (0, .ref 6), (1, .ref 2), (3, .int v3), (4, .int v4)], [.int ((Int8.ofInt 59).toInt32), .ref 2], 0, 0) 124 3 (fun _ => rfl) h) ?_
          have q18 : (pj_fi G13 21 0).toInt = y15.toInt := by rw [show pj_fi G13 21 0 = y15 from hy15.symm]
          have q19 : (pj_fi G13 2 4).toInt = y16.toInt := by rw [show pj_fi G13 2 4 = y16 from hy16.symm]
          refine pj_X_ca (vs := [.ref 2, .int ((Int8.ofInt 59).toInt32)]) rfl (fun _ => rfl) ⟨Nat.le_of_ble_eq_true rfl, Nat.le_of_ble_eq_true rfl, pj_T_rcv iG13 rfl⟩ ⟨rfl, rfl⟩ (pj_Y_up (by decide) (ct_82x G13 iG13 ((Int8.ofInt 59).toInt32) ⟨by omega, by omega⟩)) ?_
          rintro _ G21 ⟨y20, rfl, iG21, jG21, ry20, ey20, fy20⟩
          replace ey20 := ey20 _ rfl
          rw [← fy20, pj_bd_e]
          have kG21 : pj_kpt kc_91x G0 G21 := pj_kpt_t kG13 (pj_kpt_s jG21 rfl)
          have q22 : (pj_fi G21 21 0).toInt = (pj_fi G13 21 0).toInt := by rw [jG21.1 (21, 0) (by decide)]
          have q23 : (pj_fi G21 2 4).toInt = (pj_fi G13 2 4).toInt := by rw [jG21.1 (2, 4) (by decide)]
          obtain ⟨y24, hy24⟩ : ∃ z : Int32, z = pj_fi G21 21 0 := ⟨_, rfl⟩
          have ey24 : (pj_fi G21 21 0).toInt = y24.toInt := by rw [hy24]
          have ry24 : (0 : Int) ≤ y24.toInt ∧ y24.toInt ≤ 6 := by rw [hy24]; exact iG21.2.1 21 0 (0, 6) rfl
          obtain ⟨y25, hy25⟩ : ∃ z : Int32, z = pj_fi G21 2 4 := ⟨_, rfl⟩
          have ey25 : (pj_fi G21 2 4).toInt = y25.toInt := by rw [hy25]
          have ry25 : (-1 : Int) ≤ y25.toInt ∧ y25.toInt ≤ 80 := by rw [hy25]; exact iG21.2.1 2 4 (-1, 80) rfl
          show pj_X _ _ G21 127 [(2, .int z17), (0, .ref 6), (1, .ref 2), (3, .int v3), (4, .int v4)] [.int y20] _
          refine pj_X_of (fun r h => pj_R_to (G21, 131, [(4, .int (v4 + Int32.ofInt 1)), (3, .int y20), (2, .int z17), (0, .ref 6), (1, .ref 2)], [], 0, 0) 131 3 (fun _ => rfl) h) ?_
          obtain ⟨z26, hz26⟩ : ∃ z : Int32, z = v4 + Int32.ofInt 1 := ⟨_, rfl⟩
          rw [← hz26]
          rw [pj_nm_e]
          have fz26_0 : z26.toInt = v4.toInt + (Int32.ofInt 1).toInt := by rw [hz26]; exact pj_addI (by have := pj_i32 v4; have := pj_i32 (Int32.ofInt 1); omega) (by have := pj_i32 v4; have := pj_i32 (Int32.ofInt 1); omega)
          refine pj_X_of (fun r h => pj_R_to (G21, 25, [(4, .int z26), (3, .int y20), (2, .int z17), (0, .ref 6), (1, .ref 2)], [], 0, 0) 25 2 (fun _ => rfl) h) ?_
          have q27 : (pj_fi G21 21 0).toInt = y24.toInt := by rw [show pj_fi G21 21 0 = y24 from hy24.symm]
          have q28 : (pj_fi G21 2 4).toInt = y25.toInt := by rw [show pj_fi G21 2 4 = y25 from hy25.symm]
          exact pj_X_sub [(0, .ref 6), (1, .ref 2), (2, .int z17), (3, .int y20), (4, .int z26)] (show List.Nodup [0, 1, 2, 3, 4] by decide) ⟨rfl, rfl, rfl, rfl, rfl, trivial⟩ (ih G21 iG21 kG21 z17 y20 z26 ⟨by omega, by omega⟩ ⟨by omega, by omega⟩ ⟨by omega, by omega⟩ (by omega) (by omega) (by omega))
        | false =>
          rw [pj_cF]
          have ub9 := pj_u_geF b9
          refine pj_X_of (fun r h => pj_R_icF rfl b9 h) ?_
          refine pj_X_of (fun r h => pj_R_to (G, 44, [(0, .ref 6), (1, .ref 2), (2, .int v2), (3, .int v3), (4, .int v4)], [.ref 6], 0, 0) 44 2 (fun _ => rfl) h) ?_
          refine pj_X_of (fun r h => pj_T_gr hI rfl rfl rfl h) ?_
          refine pj_X_of (fun r h => pj_R_to (G, 55, [(0, .ref 6), (1, .ref 2), (2, .int v2), (3, .int v3), (4, .int v4)], [.int ((Int8.ofInt 57).toInt32), .int ((Int8.ofInt 49).toInt32), .ref 2, .int (Int32.ofInt 1), .int v4, .ref 31], 0, 0) 55 6 (fun _ => rfl) h) ?_
          have q29 : (pj_fi G 21 0).toInt = y1.toInt := by rw [show pj_fi G 21 0 = y1 from hy1.symm]
          have q30 : (pj_fi G 2 4).toInt = y2.toInt := by rw [show pj_fi G 2 4 = y2 from hy2.symm]
          refine pj_X_ca (vs := [.ref 2, .int ((Int8.ofInt 49).toInt32), .int ((Int8.ofInt 57).toInt32)]) rfl (fun _ => rfl) ⟨Nat.le_of_ble_eq_true rfl, Nat.le_of_ble_eq_true rfl, pj_T_rcv hI rfl⟩ ⟨rfl, rfl⟩ (pj_Y_up (by decide) (ct_83x G hI ((Int8.ofInt 49).toInt32) ((Int8.ofInt 57).toInt32) ⟨by omega, by omega⟩ ⟨by omega, by omega⟩)) ?_
          rintro _ G32 ⟨y31, rfl, iG32, jG32, ry31, ey31, fy31⟩
          replace ey31 := ey31 _ rfl
          rw [← fy31, pj_bd_e]
          have kG32 : pj_kpt kc_91x G0 G32 := pj_kpt_t hK (pj_kpt_s jG32 rfl)
          have q33 : (pj_fi G32 21 0).toInt = (pj_fi G 21 0).toInt := by rw [jG32.1 (21, 0) (by decide)]
          obtain ⟨y34, hy34⟩ : ∃ z : Int32, z = pj_fi G32 21 0 := ⟨_, rfl⟩
          have ey34 : (pj_fi G32 21 0).toInt = y34.toInt := by rw [hy34]
          have ry34 : (0 : Int) ≤ y34.toInt ∧ y34.toInt ≤ 6 := by rw [hy34]; exact iG32.2.1 21 0 (0, 6) rfl
          obtain ⟨y35, hy35⟩ : ∃ z : Int32, z = pj_fi G32 2 4 := ⟨_, rfl⟩
          have ey35 : (pj_fi G32 2 4).toInt = y35.toInt := by rw [hy35]
          have ry35 : (-1 : Int) ≤ y35.toInt ∧ y35.toInt ≤ 80 := by rw [hy35]; exact iG32.2.1 2 4 (-1, 80) rfl
          show pj_X _ _ G32 58 [(0, .ref 6), (1, .ref 2), (2, .int v2), (3, .int v3), (4, .int v4)] [.int y31, .int (Int32.ofInt 1), .int v4, .ref 31] _
          refine pj_X_of (fun r h => pj_R_to (G32, 59, [(0, .ref 6), (1, .ref 2), (2, .int v2), (3, .int v3), (4, .int v4)], [.int ((Int32.ofInt 1) + y31), .int v4, .ref 31], 0, 0) 59 2 (fun _ => rfl) h) ?_
          obtain ⟨z36, hz36⟩ : ∃ z : Int32, z = (Int32.ofInt 1) + y31 := ⟨_, rfl⟩
          refine pj_X_eqi hz36.symm ?_
          rw [← hz36, pj_nm_e]
          have fz36_0 : z36.toInt = (Int32.ofInt 1).toInt + y31.toInt := by rw [hz36]; exact pj_addI (by have := pj_i32 (Int32.ofInt 1); have := pj_i32 y31; omega) (by have := pj_i32 (Int32.ofInt 1); have := pj_i32 y31; omega)
          refine pj_X_of (fun r h => pj_T_is iG32 rfl rfl (by omega) (by omega) h) ?_
          show pj_X _ _ (pj_wa G32 31 v4.toInt.toNat z36) 60 [(0, .ref 6), (1, .ref 2), (2, .int v2), (3, .int v3), (4, .int v4)] [] _
          obtain ⟨G37, hG37⟩ : ∃ H, H = pj_wa G32 31 v4.toInt.toNat z36 := ⟨_, rfl⟩
          have iG37 : pj_Inv G37 := by rw [hG37]; exact pj_Inv_wa iG32 rfl (fun q hq => by cases hq) (fun n hn => by cases hn)
          have kG37 : pj_kpt kc_91x G0 G37 := by rw [hG37]; exact pj_kpt_a kG32 rfl
          rw [← hG37]
          rw [pj_nm_e]
          refine pj_X_of (fun r h => pj_R_to (G37, 61, [(0, .ref 6), (1, .ref 2), (2, .int v2), (3, .int v3), (4, .int v4)], [.ref 6], 0, 0) 61 2 (fun _ => rfl) h) ?_
          refine pj_X_of (fun r h => pj_T_gr iG37 rfl rfl rfl h) ?_
          refine pj_X_of (fun r h => pj_T_gr iG37 rfl rfl rfl h) ?_
          refine pj_X_of (fun r h => pj_R_to (G37, 74, [(0, .ref 6), (1, .ref 2), (2, .int v2), (3, .int v3), (4, .int v4)], [.int ((Int8.ofInt 57).toInt32), .int ((Int8.ofInt 48).toInt32), .ref 2, .int v4, .ref 24], 0, 0) 74 5 (fun _ => rfl) h) ?_
          have q38 : (pj_fi G37 21 0).toInt = y34.toInt := by rw [show pj_fi G37 21 0 = y34 from by rw [hG37, pj_fi_wa]; exact hy34.symm]
          have q39 : (pj_fi G37 2 4).toInt = y35.toInt := by rw [show pj_fi G37 2 4 = y35 from by rw [hG37, pj_fi_wa]; exact hy35.symm]
          refine pj_X_ca (vs := [.ref 2, .int ((Int8.ofInt 48).toInt32), .int ((Int8.ofInt 57).toInt32)]) rfl (fun _ => rfl) ⟨Nat.le_of_ble_eq_true rfl, Nat.le_of_ble_eq_true rfl, pj_T_rcv iG37 rfl⟩ ⟨rfl, rfl⟩ (pj_Y_up (by decide) (ct_83x G37 iG37 ((Int8.ofInt 48).toInt32) ((Int8.ofInt 57).toInt32) ⟨by omega, by omega⟩ ⟨by omega, by omega⟩)) ?_
          rintro _ G41 ⟨y40, rfl, iG41, jG41, ry40, ey40, fy40⟩
          replace ey40 := ey40 _ rfl
          rw [← fy40, pj_bd_e]
          have kG41 : pj_kpt kc_91x G0 G41 := pj_kpt_t kG37 (pj_kpt_s jG41 rfl)
          have q42 : (pj_fi G41 21 0).toInt = (pj_fi G37 21 0).toInt := by rw [jG41.1 (21, 0) (by decide)]
          obtain ⟨y43, hy43⟩ : ∃ z : Int32, z = pj_fi G41 21 0 := ⟨_, rfl⟩
          have ey43 : (pj_fi G41 21 0).toInt = y43.toInt := by rw [hy43]
          have ry43 : (0 : Int) ≤ y43.toInt ∧ y43.toInt ≤ 6 := by rw [hy43]; exact iG41.2.1 21 0 (0, 6) rfl
          obtain ⟨y44, hy44⟩ : ∃ z : Int32, z = pj_fi G41 2 4 := ⟨_, rfl⟩
          have ey44 : (pj_fi G41 2 4).toInt = y44.toInt := by rw [hy44]
          have ry44 : (-1 : Int) ≤ y44.toInt ∧ y44.toInt ≤ 80 := by rw [hy44]; exact iG41.2.1 2 4 (-1, 80) rfl
          show pj_X _ _ G41 77 [(0, .ref 6), (1, .ref 2), (2, .int v2), (3, .int v3), (4, .int v4)] [.int y40, .int v4, .ref 24] _
          refine pj_X_of (fun r h => pj_T_is iG41 rfl rfl (by omega) (by omega) h) ?_
          show pj_X _ _ (pj_wa G41 24 v4.toInt.toNat y40) 78 [(0, .ref 6), (1, .ref 2), (2, .int v2), (3, .int v3), (4, .int v4)] [] _
          obtain ⟨G45, hG45⟩ : ∃ H, H = pj_wa G41 24 v4.toInt.toNat y40 := ⟨_, rfl⟩
          have iG45 : pj_Inv G45 := by rw [hG45]; exact pj_Inv_wa iG41 rfl (fun q hq => by cases hq) (fun n hn => by cases hn)
          have kG45 : pj_kpt kc_91x G0 G45 := by rw [hG45]; exact pj_kpt_a kG41 rfl
          rw [← hG45]
          rw [pj_nm_e]
          refine pj_X_of (fun r h => pj_R_to (G45, 79, [(0, .ref 6), (1, .ref 2), (2, .int v2), (3, .int v3), (4, .int v4)], [.ref 6], 0, 0) 79 2 (fun _ => rfl) h) ?_
          refine pj_X_of (fun r h => pj_T_gr iG45 rfl rfl rfl h) ?_
          refine pj_X_of (fun r h => pj_T_gr iG45 rfl rfl rfl h) ?_
          refine pj_X_of (fun r h => pj_R_to (G45, 88, [(0, .ref 6), (1, .ref 2), (2, .int v2), (3, .int v3), (4, .int v4)], [.int (Int32.ofInt (-1)), .int v4, .ref 22], 0, 0) 88 3 (fun _ => rfl) h) ?_
          refine pj_X_of (fun r h => pj_T_is iG45 rfl rfl (by omega) (by omega) h) ?_
          show pj_X _ _ (pj_wa G45 22 v4.toInt.toNat (Int32.ofInt (-1))) 89 [(0, .ref 6), (1, .ref 2), (2, .int v2), (3, .int v3), (4, .int v4)] [] _
          obtain ⟨G46, hG46⟩ : ∃ H, H = pj_wa G45 22 v4.toInt.toNat (Int32.ofInt (-1)) := ⟨_, rfl⟩
          have iG46 : pj_Inv G46 := by rw [hG46]; exact pj_Inv_wa iG45 rfl (fun q hq => by cases hq; exact ⟨by show (-1 : Int) ≤ _; omega, by show _ ≤ (9 : Int); omega, by show _ ≤ (-1 : Int) ∨ (-1 : Int) ≤ _; omega⟩) (fun n hn => by cases hn)
          have kG46 : pj_kpt kc_91x G0 G46 := by rw [hG46]; exact pj_kpt_a kG45 rfl
          rw [← hG46]
          rw [pj_nm_e]
          refine pj_X_of (fun r h => pj_R_to (G46, 90, [(0, .ref 6), (1, .ref 2), (2, .int v2), (3, .int v3), (4, .int v4)], [.ref 6], 0, 0) 90 2 (fun _ => rfl) h) ?_
          refine pj_X_of (fun r h => pj_T_gr iG46 rfl rfl rfl h) ?_
          refine pj_X_of (fun r h => pj_T_gr iG46 rfl rfl rfl h) ?_
          refine pj_X_of (fun r h => pj_R_to (G46, 99, [(0, .ref 6), (1, .ref 2), (2, .int v2), (3, .int v3), (4, .int v4)], [.int (Int32.ofInt 0), .int v4, .ref 23], 0, 0) 99 3 (fun _ => rfl) h) ?_
          refine pj_X_of (fun r h => pj_T_is iG46 rfl rfl (by omega) (by omega) h) ?_
          show pj_X _ _ (pj_wa G46 23 v4.toInt.toNat (Int32.ofInt 0)) 100 [(0, .ref 6), (1, .ref 2), (2, .int v2), (3, .int v3), (4, .int v4)] [] _
          obtain ⟨G47, hG47⟩ : ∃ H, H = pj_wa G46 23 v4.toInt.toNat (Int32.ofInt 0) := ⟨_, rfl⟩
          have iG47 : pj_Inv G47 := by rw [hG47]; exact pj_Inv_wa iG46 rfl (fun q hq => by cases hq) (fun n hn => by cases hn)
          have kG47 : pj_kpt kc_91x G0 G47 := by rw [hG47]; exact pj_kpt_a kG46 rfl
          rw [← hG47]
          rw [pj_nm_e]
          refine pj_X_of (fun r h => pj_R_to (G47, 101, [(0, .ref 6), (1, .ref 2), (2, .int v2), (3, .int v3), (4, .int v4)], [.ref 6], 0, 0) 101 2 (fun _ => rfl) h) ?_
          refine pj_X_of (fun r h => pj_T_gr iG47 rfl rfl rfl h) ?_
          refine pj_X_of (fun r h => pj_T_gr iG47 rfl rfl rfl h) ?_
          refine pj_X_of (fun r h => pj_R_to (G47, 110, [(0, .ref 6), (1, .ref 2), (2, .int v2), (3, .int v3), (4, .int v4)], [.int (Int32.ofInt (-1)), .int v4, .ref 25], 0, 0) 110 3 (fun _ => rfl) h) ?_
          refine pj_X_of (fun r h => pj_T_is iG47 rfl rfl (by omega) (by omega) h) ?_
          show pj_X _ _ (pj_wa G47 25 v4.toInt.toNat (Int32.ofInt (-1))) 111 [(0, .ref 6), (1, .ref 2), (2, .int v2), (3, .int v3), (4, .int v4)] [] _
          obtain ⟨G48, hG48⟩ : ∃ H, H = pj_wa G47 25 v4.toInt.toNat (Int32.ofInt (-1)) := ⟨_, rfl⟩
          have iG48 : pj_Inv G48 := by rw [hG48]; exact pj_Inv_wa iG47 rfl (fun q hq => by cases hq) (fun n hn => by cases hn)
          have kG48 : pj_kpt kc_91x G0 G48 := by rw [hG48]; exact pj_kpt_a kG47 rfl
          rw [← hG48]
          rw [pj_nm_e]
          refine pj_X_of (fun r h => pj_R_to (G48, 121, [(2, .int (v2 + Int32.ofInt 1)), (0, .ref 6), (1, .ref 2), (3, .int v3), (4, .int v4)], [], 0, 0) 121 3 (fun _ => rfl) h) ?_
          obtain ⟨z49, hz49⟩ : ∃ z : Int32, z = v2 + Int32.ofInt 1 := ⟨_, rfl⟩
          rw [← hz49]
          rw [pj_nm_e]
          have fz49_0 : z49.toInt = v2.toInt + (Int32.ofInt 1).toInt := by rw [hz49]; exact pj_addI (by have := pj_i32 v2; have := pj_i32 (Int32.ofInt 1); omega) (by have := pj_i32 v2; have := pj_i32 (Int32.ofInt 1); omega)
          refine pj_X_of (fun r h => pj_R_to (G48, 124, [(2, .int z49), (0, .ref 6), (1, .ref 2), (3, .int v3), (4, .int v4)], [.int ((Int8.ofInt 59).toInt32), .ref 2], 0, 0) 124 3 (fun _ => rfl) h) ?_
          have q50 : (pj_fi G48 21 0).toInt = y43.toInt := by rw [show pj_fi G48 21 0 = y43 from by rw [hG48, pj_fi_wa]; exact (by rw [hG47, pj_fi_wa]; exact (by rw [hG46, pj_fi_wa]; exact (by rw [hG45, pj_fi_wa]; exact hy43.symm)))]
          have q51 : (pj_fi G48 2 4).toInt = y44.toInt := by rw [show pj_fi G48 2 4 = y44 from by rw [hG48, pj_fi_wa]; exact (by rw [hG47, pj_fi_wa]; exact (by rw [hG46, pj_fi_wa]; exact (by rw [hG45, pj_fi_wa]; exact hy44.symm)))]
          refine pj_X_ca (vs := [.ref 2, .int ((Int8.ofInt 59).toInt32)]) rfl (fun _ => rfl) ⟨Nat.le_of_ble_eq_true rfl, Nat.le_of_ble_eq_true rfl, pj_T_rcv iG48 rfl⟩ ⟨rfl, rfl⟩ (pj_Y_up (by decide) (ct_82x G48 iG48 ((Int8.ofInt 59).toInt32) ⟨by omega, by omega⟩)) ?_
          rintro _ G53 ⟨y52, rfl, iG53, jG53, ry52, ey52, fy52⟩
          replace ey52 := ey52 _ rfl
          rw [← fy52, pj_bd_e]
          have kG53 : pj_kpt kc_91x G0 G53 := pj_kpt_t kG48 (pj_kpt_s jG53 rfl)
          have q54 : (pj_fi G53 21 0).toInt = (pj_fi G48 21 0).toInt := by rw [jG53.1 (21, 0) (by decide)]
          have q55 : (pj_fi G53 2 4).toInt = (pj_fi G48 2 4).toInt := by rw [jG53.1 (2, 4) (by decide)]
          obtain ⟨y56, hy56⟩ : ∃ z : Int32, z = pj_fi G53 21 0 := ⟨_, rfl⟩
          have ey56 : (pj_fi G53 21 0).toInt = y56.toInt := by rw [hy56]
          have ry56 : (0 : Int) ≤ y56.toInt ∧ y56.toInt ≤ 6 := by rw [hy56]; exact iG53.2.1 21 0 (0, 6) rfl
          obtain ⟨y57, hy57⟩ : ∃ z : Int32, z = pj_fi G53 2 4 := ⟨_, rfl⟩
          have ey57 : (pj_fi G53 2 4).toInt = y57.toInt := by rw [hy57]
          have ry57 : (-1 : Int) ≤ y57.toInt ∧ y57.toInt ≤ 80 := by rw [hy57]; exact iG53.2.1 2 4 (-1, 80) rfl
          show pj_X _ _ G53 127 [(2, .int z49), (0, .ref 6), (1, .ref 2), (3, .int v3), (4, .int v4)] [.int y52] _
          refine pj_X_of (fun r h => pj_R_to (G53, 131, [(4, .int (v4 + Int32.ofInt 1)), (3, .int y52), (2, .int z49), (0, .ref 6), (1, .ref 2)], [], 0, 0) 131 3 (fun _ => rfl) h) ?_
          obtain ⟨z58, hz58⟩ : ∃ z : Int32, z = v4 + Int32.ofInt 1 := ⟨_, rfl⟩
          rw [← hz58]
          rw [pj_nm_e]
          have fz58_0 : z58.toInt = v4.toInt + (Int32.ofInt 1).toInt := by rw [hz58]; exact pj_addI (by have := pj_i32 v4; have := pj_i32 (Int32.ofInt 1); omega) (by have := pj_i32 v4; have := pj_i32 (Int32.ofInt 1); omega)
          refine pj_X_of (fun r h => pj_R_to (G53, 25, [(4, .int z58), (3, .int y52), (2, .int z49), (0, .ref 6), (1, .ref 2)], [], 0, 0) 25 2 (fun _ => rfl) h) ?_
          have q59 : (pj_fi G53 21 0).toInt = y56.toInt := by rw [show pj_fi G53 21 0 = y56 from hy56.symm]
          have q60 : (pj_fi G53 2 4).toInt = y57.toInt := by rw [show pj_fi G53 2 4 = y57 from hy57.symm]
          exact pj_X_sub [(0, .ref 6), (1, .ref 2), (2, .int z49), (3, .int y52), (4, .int z58)] (show List.Nodup [0, 1, 2, 3, 4] by decide) ⟨rfl, rfl, rfl, rfl, rfl, trivial⟩ (ih G53 iG53 kG53 z49 y52 z58 ⟨by omega, by omega⟩ ⟨by omega, by omega⟩ ⟨by omega, by omega⟩ (by omega) (by omega) (by omega))
theorem ct_91x (G0 : pj_G) (hI : pj_Inv G0) : pj_Y 3 91 [.ref 6, .ref 2] G0 (fun v' G' => ∃ y : Int32, v' = some (.int y) ∧ pj_Inv G' ∧ pj_kpt kc_91x G0 G' ∧ ((0 : Int) ≤ y.toInt ∧ y.toInt ≤ 7) ∧ ((pj_fi G' 2 4).toInt = -1 → (pj_fi G' 21 0).toInt + y.toInt ≤ 6) ∧ ((y, G') = F_91x G0)) := by
  have c0_ : ((Int8.ofInt 48).toInt32).toInt = 48 := by decide
  have c1_ : ((Int8.ofInt 49).toInt32).toInt = 49 := by decide
  have c2_ : ((Int8.ofInt 57).toInt32).toInt = 57 := by decide
  have c3_ : ((Int8.ofInt 59).toInt32).toInt = 59 := by decide
  have c4_ : ((Int8.ofInt 6).toInt32).toInt = 6 := by decide
  have c5_ : (Int32.ofInt (-1)).toInt = -1 := by decide
  have c6_ : (Int32.ofInt 0).toInt = 0 := by decide
  have c7_ : (Int32.ofInt 1).toInt = 1 := by decide
  refine pj_Y_X (M := pj_m91) rfl rfl (Nat.le_of_ble_eq_true rfl) ?_
  have hK : pj_kpt kc_91x G0 G0 := pj_kpt_r _ _
  show pj_X _ _ G0 0 [(0, .ref 6), (1, .ref 2)] [] _
  rw [F_91x_e]
  obtain ⟨y61, hy61⟩ : ∃ z : Int32, z = pj_fi G0 21 0 := ⟨_, rfl⟩
  have ey61 : (pj_fi G0 21 0).toInt = y61.toInt := by rw [hy61]
  have ry61 : (0 : Int) ≤ y61.toInt ∧ y61.toInt ≤ 6 := by rw [hy61]; exact hI.2.1 21 0 (0, 6) rfl
  obtain ⟨y62, hy62⟩ : ∃ z : Int32, z = pj_fi G0 2 4 := ⟨_, rfl⟩
  have ey62 : (pj_fi G0 2 4).toInt = y62.toInt := by rw [hy62]
  have ry62 : (-1 : Int) ≤ y62.toInt ∧ y62.toInt ≤ 80 := by rw [hy62]; exact hI.2.1 2 4 (-1, 80) rfl
  refine pj_X_of (fun r h => pj_R_to (G0, 3, [(2, .int (Int32.ofInt 0)), (0, .ref 6), (1, .ref 2)], [.ref 2], 0, 0) 3 4 (fun _ => rfl) h) ?_
  have q63 : (pj_fi G0 21 0).toInt = y61.toInt := by rw [show pj_fi G0 21 0 = y61 from hy61.symm]
  have q64 : (pj_fi G0 2 4).toInt = y62.toInt := by rw [show pj_fi G0 2 4 = y62 from hy62.symm]
  refine pj_X_ca (vs := [.ref 2]) rfl (fun _ => rfl) ⟨Nat.le_of_ble_eq_true rfl, Nat.le_of_ble_eq_true rfl, pj_T_rcv hI rfl⟩ ⟨rfl, rfl⟩ (pj_Y_up (by decide) (ct_80x G0 hI)) ?_
  rintro _ _ ⟨y65, rfl, rfl, ry65, ey65, fy65⟩
  replace ey65 := ey65 _ rfl
  rw [← fy65, pj_nm_e]
  show pj_X _ _ G0 6 [(2, .int (Int32.ofInt 0)), (0, .ref 6), (1, .ref 2)] [.int y65] _
  refine pj_X_of (fun r h => pj_R_to (G0, 7, [(2, .int (Int32.ofInt 0)), (0, .ref 6), (1, .ref 2)], [.int (Int32.ofInt (-1)), .int y65], 0, 0) 7 2 (fun _ => rfl) h) ?_
  cases b66 : pj_c1 .eq y65 (Int32.ofInt (-1)) with
  | true =>
    rw [pj_cT]
    have ub66 := pj_u_eqT b66
    refine pj_X_of (fun r h => pj_R_icT 14 rfl rfl b66 h) ?_
    refine pj_X_of (fun r h => pj_R_to (G0, 17, [(3, .int (Int32.ofInt 0)), (2, .int (Int32.ofInt 0)), (0, .ref 6), (1, .ref 2)], [.ref 6], 0, 0) 17 4 (fun _ => rfl) h) ?_
    refine pj_X_of (fun r h => pj_T_gr hI rfl rfl rfl h) ?_
    refine pj_X_of (fun r h => pj_T_gi hI rfl rfl h) ?_
    show pj_X _ _ G0 23 [(3, .int (Int32.ofInt 0)), (2, .int (Int32.ofInt 0)), (0, .ref 6), (1, .ref 2)] [.int (pj_fi G0 21 0)] _
    rw [← hy61, pj_nm_e]
    refine pj_X_of (fun r h => pj_R_to (G0, 25, [(4, .int y61), (3, .int (Int32.ofInt 0)), (2, .int (Int32.ofInt 0)), (0, .ref 6), (1, .ref 2)], [], 0, 0) 25 2 (fun _ => rfl) h) ?_
    have q67 : (pj_fi G0 21 0).toInt = y61.toInt := by rw [show pj_fi G0 21 0 = y61 from hy61.symm]
    have q68 : (pj_fi G0 2 4).toInt = y62.toInt := by rw [show pj_fi G0 2 4 = y62 from hy62.symm]
    exact pj_X_sub [(0, .ref 6), (1, .ref 2), (2, .int (Int32.ofInt 0)), (3, .int (Int32.ofInt 0)), (4, .int y61)] (show List.Nodup [0, 1, 2, 3, 4] by decide) ⟨rfl, rfl, rfl, rfl, rfl, trivial⟩ ((lp_ct_91x G0 hI   8) G0 hI hK (Int32.ofInt 0) (Int32.ofInt 0) y61 ⟨by omega, by omega⟩ ⟨by omega, by omega⟩ ⟨by omega, by omega⟩ (by omega) (by omega) (by omega))
  | false =>
    rw [pj_cF]
    have ub66 := pj_u_eqF b66
    refine pj_X_of (fun r h => pj_R_icF rfl b66 h) ?_
    refine pj_X_of (fun r h => pj_R_to (G0, 17, [(3, .int (Int32.ofInt 1)), (2, .int (Int32.ofInt 0)), (0, .ref 6), (1, .ref 2)], [.ref 6], 0, 0) 17 5 (fun _ => rfl) h) ?_
    refine pj_X_of (fun r h => pj_T_gr hI rfl rfl rfl h) ?_
    refine pj_X_of (fun r h => pj_T_gi hI rfl rfl h) ?_
    show pj_X _ _ G0 23 [(3, .int (Int32.ofInt 1)), (2, .int (Int32.ofInt 0)), (0, .ref 6), (1, .ref 2)] [.int (pj_fi G0 21 0)] _
    rw [← hy61, pj_nm_e]
    refine pj_X_of (fun r h => pj_R_to (G0, 25, [(4, .int y61), (3, .int (Int32.ofInt 1)), (2, .int (Int32.ofInt 0)), (0, .ref 6), (1, .ref 2)], [], 0, 0) 25 2 (fun _ => rfl) h) ?_
    have q69 : (pj_fi G0 21 0).toInt = y61.toInt := by rw [show pj_fi G0 21 0 = y61 from hy61.symm]
    have q70 : (pj_fi G0 2 4).toInt = y62.toInt := by rw [show pj_fi G0 2 4 = y62 from hy62.symm]
    exact pj_X_sub [(0, .ref 6), (1, .ref 2), (2, .int (Int32.ofInt 0)), (3, .int (Int32.ofInt 1)), (4, .int y61)] (show List.Nodup [0, 1, 2, 3, 4] by decide) ⟨rfl, rfl, rfl, rfl, rfl, trivial⟩ ((lp_ct_91x G0 hI   8) G0 hI hK (Int32.ofInt 0) (Int32.ofInt 1) y61 ⟨by omega, by omega⟩ ⟨by omega, by omega⟩ ⟨by omega, by omega⟩ (by omega) (by omega) (by omega))
theorem fr_91x (G0 : pj_G) (hI : pj_Inv G0) : pj_Inv (F_91x G0).2 ∧ pj_kpt kc_91x G0 (F_91x G0).2 ∧ ((0 : Int) ≤ (F_91x G0).1.toInt ∧ (F_91x G0).1.toInt ≤ 7) ∧ ((pj_fi (F_91x G0).2 2 4).toInt = -1 → (pj_fi (F_91x G0).2 21 0).toInt + (F_91x G0).1.toInt ≤ 6) := by
  obtain ⟨v, G', -, y, -, i, j, r, x, e⟩ := ct_91x G0 hI 
  rw [← e]
  exact ⟨i, j, r, x⟩
def kc_92x : pj_KT := ([(2, 3), (2, 4)], [2, 26, 32], [26, 32])
noncomputable def L_92x (G0 : pj_G) (fu : Nat) : Int32 → Int32 → Int32 → pj_G → Int32 × pj_G := Nat.rec (motive := fun _ => Int32 → Int32 → Int32 → pj_G → Int32 × pj_G) (fun _ _ _ G => (0, G)) (fun _ ih v2 v3 v4 G => cond (pj_c1 .gt v4 ((Int8.ofInt 6).toInt32)) ((v2, G)) (cond (pj_c1 .eq v3 0) ((v2, G)) (cond (pj_c1 .ge v4 ((Int8.ofInt 6).toInt32)) (pj_nm (F_81x G) (fun G13 => pj_nm (v2 + Int32.ofInt 1) (fun z17 => pj_bd (F_82x G13 ((Int8.ofInt 59).toInt32)) (fun y20 G21 => pj_nm (v4 + Int32.ofInt 1) (fun z26 => ih z17 y20 z26 G21))))) (cond (pj_rb G 6 0 7) (pj_nm (pj_fi G 7 0) (fun y30 => pj_bd (F_87x G (Int32.ofInt (-1)) y30) (fun y33 G34 => pj_nm (pj_wa G34 26 v4.toInt.toNat y33) (fun G38 => pj_bd (F_83x G38 ((Int8.ofInt 49).toInt32) ((Int8.ofInt 57).toInt32)) (fun y41 G42 => pj_nm ((Int32.ofInt 1) + y41) (fun z46 => pj_nm (pj_wa G42 32 v4.toInt.toNat z46) (fun G47 => pj_nm (v2 + Int32.ofInt 1) (fun z48 => pj_bd (F_82x G47 ((Int8.ofInt 59).toInt32)) (fun y51 G52 => pj_nm (v4 + Int32.ofInt 1) (fun z57 => ih z48 y51 z57 G52)))))))))) (pj_nm (pj_fi G 14 0) (fun y60 => pj_bd (F_87x G (Int32.ofInt (-1)) y60) (fun y63 G64 => pj_nm (pj_wa G64 26 v4.toInt.toNat y63) (fun G68 => pj_bd (F_83x G68 ((Int8.ofInt 49).toInt32) ((Int8.ofInt 57).toInt32)) (fun y71 G72 => pj_nm ((Int32.ofInt 1) + y71) (fun z76 => pj_nm (pj_wa G72 32 v4.toInt.toNat z76) (fun G77 => pj_nm (v2 + Int32.ofInt 1) (fun z78 => pj_bd (F_82x G77 ((Int8.ofInt 59).toInt32)) (fun y81 G82 => pj_nm (v4 + Int32.ofInt 1) (fun z87 => ih z78 y81 z87 G82)))))))))))))) fu
theorem L_92x_s0 (G0 : pj_G) (fu : Nat) (v2 : Int32) (v3 : Int32) (v4 : Int32) (G : pj_G) : L_92x G0 (fu + 1) v2 v3 v4 G = cond (pj_c1 .gt v4 ((Int8.ofInt 6).toInt32)) ((v2, G)) (cond (pj_c1 .eq v3 0) ((v2, G)) (cond (pj_c1 .ge v4 ((Int8.ofInt 6).toInt32)) (pj_nm (F_81x G) (fun G13 => pj_nm (v2 + Int32.ofInt 1) (fun z17 => pj_bd (F_82x G13 ((Int8.ofInt 59).toInt32)) (fun y20 G21 => pj_nm (v4 + Int32.ofInt 1) (fun z26 => L_92x G0 fu z17 y20 z26 G21))))) (cond (pj_rb G 6 0 7) (pj_nm (pj_fi G 7 0) (fun y30 => pj_bd (F_87x G (Int32.ofInt (-1)) y30) (fun y33 G34 => pj_nm (pj_wa G34 26 v4.toInt.toNat y33) (fun G38 => pj_bd (F_83x G38 ((Int8.ofInt 49).toInt32) ((Int8.ofInt 57).toInt32)) (fun y41 G42 => pj_nm ((Int32.ofInt 1) + y41) (fun z46 => pj_nm (pj_wa G42 32 v4.toInt.toNat z46) (fun G47 => pj_nm (v2 + Int32.ofInt 1) (fun z48 => pj_bd (F_82x G47 ((Int8.ofInt 59).toInt32)) (fun y51 G52 => pj_nm (v4 + Int32.ofInt 1) (fun z57 => L_92x G0 fu z48 y51 z57 G52)))))))))) (pj_nm (pj_fi G 14 0) (fun y60 => pj_bd (F_87x G (Int32.ofInt (-1)) y60) (fun y63 G64 => pj_nm (pj_wa G64 26 v4.toInt.toNat y63) (fun G68 => pj_bd (F_83x G68 ((Int8.ofInt 49).toInt32) ((Int8.ofInt 57).toInt32)) (fun y71 G72 => pj_nm ((Int32.ofInt 1) + y71) (fun z76 => pj_nm (pj_wa G72 32 v4.toInt.toNat z76) (fun G77 => pj_nm (v2 + Int32.ofInt 1) (fun z78 => pj_bd (F_82x G77 ((Int8.ofInt 59).toInt32)) (fun y81 G82 => pj_nm (v4 + Int32.ofInt 1) (fun z87 => L_92x G0 fu z78 y81 z87 G82))))))))))))) := rfl
noncomputable def F_92x (G0 : pj_G) : Int32 × pj_G := pj_nm (F_80x G0) (fun y94 => cond (pj_c1 .eq y94 (Int32.ofInt (-1))) (pj_nm (pj_fi G0 21 5) (fun y90 => L_92x G0 8 (Int32.ofInt 0) (Int32.ofInt 0) y90 G0)) (pj_nm (pj_fi G0 21 5) (fun y90 => L_92x G0 8 (Int32.ofInt 0) (Int32.ofInt 1) y90 G0)))
theorem F_92x_e (G0 : pj_G) : F_92x G0 = pj_nm (F_80x G0) (fun y94 => cond (pj_c1 .eq y94 (Int32.ofInt (-1))) (pj_nm (pj_fi G0 21 5) (fun y90 => L_92x G0 8 (Int32.ofInt 0) (Int32.ofInt 0) y90 G0)) (pj_nm (pj_fi G0 21 5) (fun y90 => L_92x G0 8 (Int32.ofInt 0) (Int32.ofInt 1) y90 G0))) := rfl
theorem lp_ct_92x (G0 : pj_G) (hI0 : pj_Inv G0) : ∀ mn : Nat, (∀ (G : pj_G) (hI : pj_Inv G) (hK : pj_kpt kc_92x G0 G) (v2 : Int32) (v3 : Int32) (v4 : Int32), ((0 : Int) ≤ v2.toInt ∧ v2.toInt ≤ 7) → ((0 : Int) ≤ v3.toInt ∧ v3.toInt ≤ 1) → ((0 : Int) ≤ v4.toInt ∧ v4.toInt ≤ 7) → (v4.toInt = (pj_fi G 21 5).toInt + v2.toInt) → (v4.toInt = 7 → (pj_fi G 2 4).toInt ≠ -1) → 7 - v4.toInt < (mn : Int) → pj_X 3 pj_m92 G 25 [(0, .ref 6), (1, .ref 2), (2, .int v2), (3, .int v3), (4, .int v4)] [] (fun v' G' => ∃ y : Int32, v' = some (.int y) ∧ pj_Inv G' ∧ pj_kpt kc_92x G0 G' ∧ ((0 : Int) ≤ y.toInt ∧ y.toInt ≤ 7) ∧ ((pj_fi G' 2 4).toInt = -1 → (pj_fi G' 21 5).toInt + y.toInt ≤ 6) ∧ ((y, G') = L_92x G0 mn v2 v3 v4 G))) := by
  have c0_ : ((Int8.ofInt 49).toInt32).toInt = 49 := by decide
  have c1_ : ((Int8.ofInt 57).toInt32).toInt = 57 := by decide
  have c2_ : ((Int8.ofInt 59).toInt32).toInt = 59 := by decide
  have c3_ : ((Int8.ofInt 6).toInt32).toInt = 6 := by decide
  have c4_ : (Int32.ofInt (-1)).toInt = -1 := by decide
  have c5_ : (Int32.ofInt 0).toInt = 0 := by decide
  have c6_ : (Int32.ofInt 1).toInt = 1 := by decide
  intro mn
  induction mn with
  | zero =>
    intro G hI hK v2 v3 v4 rv2 rv3 rv4 x0_ x1_ hm
    exfalso
    omega
  | succ mn ih =>
    intro G hI hK v2 v3 v4 rv2 rv3 rv4 x0_ x1_ hm
    rw [L_92x_s0]
    obtain ⟨y1, hy1⟩ : ∃ z : Int32, z = pj_fi G 21 5 := ⟨_, rfl⟩
    have ey1 : (pj_fi G 21 5).toInt = y1.toInt := by rw [hy1]
    have ry1 : (0 : Int) ≤ y1.toInt ∧ y1.toInt ≤ 6 := by rw [hy1]; exact hI.2.1 21 5 (0, 6) rfl
    obtain ⟨y2, hy2⟩ : ∃ z : Int32, z = pj_fi G 2 4 := ⟨_, rfl⟩
    have ey2 : (pj_fi G 2 4).toInt = y2.toInt := by rw [hy2]
    have ry2 : (-1 : Int) ≤ y2.toInt ∧ y2.toInt ≤ 80 := by rw [hy2]; exact hI.2.1 2 4 (-1, 80) rfl
    refine pj_X_of (fun r h => pj_R_to (G, 29, [(0, .ref 6), (1, .ref 2), (2, .int v2), (3, .int v3), (4, .int v4)], [.int ((Int8.ofInt 6).toInt32), .int v4], 0, 0) 29 3 (fun _ => rfl) h) ?_
    cases b3 : pj_c1 .gt v4 ((Int8.ofInt 6).toInt32) with
    | true =>
      rw [pj_cT]
      have ub3 := pj_u_gtT b3
      refine pj_X_of (fun r h => pj_R_icT 105 rfl rfl b3 h) ?_
      refine pj_X_of (fun r h => pj_R_to (G, 106, [(0, .ref 6), (1, .ref 2), (2, .int v2), (3, .int v3), (4, .int v4)], [.int v2], 0, 0) 106 2 (fun _ => rfl) h) ?_
      have q4 : (pj_fi G 21 5).toInt = y1.toInt := by rw [show pj_fi G 21 5 = y1 from hy1.symm]
      have q5 : (pj_fi G 2 4).toInt = y2.toInt := by rw [show pj_fi G 2 4 = y2 from hy2.symm]
      exact pj_X_rt rfl rfl ⟨_, rfl, hI, hK, ⟨by omega, by omega⟩, by omega, rfl⟩
    | false =>
      rw [pj_cF]
      have ub3 := pj_u_gtF b3
      refine pj_X_of (fun r h => pj_R_icF rfl b3 h) ?_
      refine pj_X_of (fun r h => pj_R_to (G, 33, [(0, .ref 6), (1, .ref 2), (2, .int v2), (3, .int v3), (4, .int v4)], [.int v3], 0, 0) 33 2 (fun _ => rfl) h) ?_
      cases b6 : pj_c1 .eq v3 0 with
      | true =>
        rw [pj_cT]
        have ub6 := pj_u0_eqT b6
        refine pj_X_of (fun r h => pj_R_ifT 105 rfl rfl b6 h) ?_
        refine pj_X_of (fun r h => pj_R_to (G, 106, [(0, .ref 6), (1, .ref 2), (2, .int v2), (3, .int v3), (4, .int v4)], [.int v2], 0, 0) 106 2 (fun _ => rfl) h) ?_
        have q7 : (pj_fi G 21 5).toInt = y1.toInt := by rw [show pj_fi G 21 5 = y1 from hy1.symm]
        have q8 : (pj_fi G 2 4).toInt = y2.toInt := by rw [show pj_fi G 2 4 = y2 from hy2.symm]
        exact pj_X_rt rfl rfl ⟨_, rfl, hI, hK, ⟨by omega, by omega⟩, by omega, rfl⟩
      | false =>
        rw [pj_cF]
        have ub6 := pj_u0_eqF b6
        refine pj_X_of (fun r h => pj_R_ifF rfl b6 h) ?_
        refine pj_X_of (fun r h => pj_R_to (G, 40, [(0, .ref 6), (1, .ref 2), (2, .int v2), (3, .int v3), (4, .int v4)], [.int ((Int8.ofInt 6).toInt32), .int v4], 0, 0) 40 3 (fun _ => rfl) h) ?_
        cases b9 : pj_c1 .ge v4 ((Int8.ofInt 6).toInt32) with
        | true =>
          rw [pj_cT]
          have ub9 := pj_u_geT b9
          refine pj_X_of (fun r h => pj_R_icT 85 rfl rfl b9 h) ?_
          refine pj_X_of (fun r h => pj_R_to (G, 86, [(0, .ref 6), (1, .ref 2), (2, .int v2), (3, .int v3), (4, .int v4)], [.ref 2], 0, 0) 86 2 (fun _ => rfl) h) ?_
          have q10 : (pj_fi G 21 5).toInt = y1.toInt := by rw [show pj_fi G 21 5 = y1 from hy1.symm]
          have q11 : (pj_fi G 2 4).toInt = y2.toInt := by rw [show pj_fi G 2 4 = y2 from hy2.symm]
          refine pj_X_ca (vs := [.ref 2]) rfl (fun _ => rfl) ⟨Nat.le_of_ble_eq_true rfl, Nat.le_of_ble_eq_true rfl, pj_T_rcv hI rfl⟩ ⟨rfl, rfl⟩ (pj_Y_up (by decide) (ct_81x G hI)) ?_
          rintro _ G13 ⟨rfl, iG13, jG13, eG13, fy12⟩
          replace eG13 := eG13 _ rfl
          rw [← fy12, pj_nm_e]
          have kG13 : pj_kpt kc_92x G0 G13 := pj_kpt_t hK (pj_kpt_s jG13 rfl)
          have q14 : (pj_fi G13 21 5).toInt = (pj_fi G 21 5).toInt := by rw [jG13.1 (21, 5) (by decide)]
          obtain ⟨y15, hy15⟩ : ∃ z : Int32, z = pj_fi G13 21 5 := ⟨_, rfl⟩
          have ey15 : (pj_fi G13 21 5).toInt = y15.toInt := by rw [hy15]
          have ry15 : (0 : Int) ≤ y15.toInt ∧ y15.toInt ≤ 6 := by rw [hy15]; exact iG13.2.1 21 5 (0, 6) rfl
          obtain ⟨y16, hy16⟩ : ∃ z : Int32, z = pj_fi G13 2 4 := ⟨_, rfl⟩
          have ey16 : (pj_fi G13 2 4).toInt = y16.toInt := by rw [hy16]
          have ry16 : (-1 : Int) ≤ y16.toInt ∧ y16.toInt ≤ 80 := by rw [hy16]; exact iG13.2.1 2 4 (-1, 80) rfl
          show pj_X _ _ G13 89 [(0, .ref 6), (1, .ref 2), (2, .int v2), (3, .int v3), (4, .int v4)] [] _
          refine pj_X_of (fun r h => pj_R_to (G13, 92, [(2, .int (v2 + Int32.ofInt 1)), (0, .ref 6), (1, .ref 2), (3, .int v3), (4, .int v4)], [], 0, 0) 92 2 (fun _ => rfl) h) ?_
          obtain ⟨z17, hz17⟩ : ∃ z : Int32, z = v2 + Int32.ofInt 1 := ⟨_, rfl⟩
          rw [← hz17]
          rw [pj_nm_e]
          have fz17_0 : z17.toInt = v2.toInt + (Int32.ofInt 1).toInt := by rw [hz17]; exact pj_addI (by have := pj_i32 v2; have := pj_i32 (Int32.ofInt 1); omega) (by have := pj_i32 v2; have := pj_i32 (Int32.ofInt 1); omega)
          refine pj_X_of (fun r h => pj_R_to (G13, 95, [(2, .int z17), (0, .ref 6), (1, .ref 2), (3, .int v3), (4, .int v4)], [.int ((Int8.ofInt 59).toInt32), .ref 2], 0, 0) 95 3 (fun _ => rfl) h) ?_
          have q18 : (pj_fi G13 21 5).toInt = y15.toInt := by rw [show pj_fi G13 21 5 = y15 from hy15.symm]
          have q19 : (pj_fi G13 2 4).toInt = y16.toInt := by rw [show pj_fi G13 2 4 = y16 from hy16.symm]
          refine pj_X_ca (vs := [.ref 2, .int ((Int8.ofInt 59).toInt32)]) rfl (fun _ => rfl) ⟨Nat.le_of_ble_eq_true rfl, Nat.le_of_ble_eq_true rfl, pj_T_rcv iG13 rfl⟩ ⟨rfl, rfl⟩ (pj_Y_up (by decide) (ct_82x G13 iG13 ((Int8.ofInt 59).toInt32) ⟨by omega, by omega⟩)) ?_
          rintro _ G21 ⟨y20, rfl, iG21, jG21, ry20, ey20, fy20⟩
          replace ey20 := ey20 _ rfl
          rw [← fy20, pj_bd_e]
          have kG21 : pj_kpt kc_92x G0 G21 := pj_kpt_t kG13 (pj_kpt_s jG21 rfl)
          have q22 : (pj_fi G21 21 5).toInt = (pj_fi G13 21 5).toInt := by rw [jG21.1 (21, 5) (by decide)]
          have q23 : (pj_fi G21 2 4).toInt = (pj_fi G13 2 4).toInt := by rw [jG21.1 (2, 4) (by decide)]
          obtain ⟨y24, hy24⟩ : ∃ z : Int32, z = pj_fi G21 21 5 := ⟨_, rfl⟩
          have ey24 : (pj_fi G21 21 5).toInt = y24.toInt := by rw [hy24]
          have ry24 : (0 : Int) ≤ y24.toInt ∧ y24.toInt ≤ 6 := by rw [hy24]; exact iG21.2.1 21 5 (0, 6) rfl
          obtain ⟨y25, hy25⟩ : ∃ z : Int32, z = pj_fi G21 2 4 := ⟨_, rfl⟩
          have ey25 : (pj_fi G21 2 4).toInt = y25.toInt := by rw [hy25]
          have ry25 : (-1 : Int) ≤ y25.toInt ∧ y25.toInt ≤ 80 := by rw [hy25]; exact iG21.2.1 2 4 (-1, 80) rfl
          show pj_X _ _ G21 98 [(2, .int z17), (0, .ref 6), (1, .ref 2), (3, .int v3), (4, .int v4)] [.int y20] _
          refine pj_X_of (fun r h => pj_R_to (G21, 102, [(4, .int (v4 + Int32.ofInt 1)), (3, .int y20), (2, .int z17), (0, .ref 6), (1, .ref 2)], [], 0, 0) 102 3 (fun _ => rfl) h) ?_
          obtain ⟨z26, hz26⟩ : ∃ z : Int32, z = v4 + Int32.ofInt 1 := ⟨_, rfl⟩
          rw [← hz26]
          rw [pj_nm_e]
          have fz26_0 : z26.toInt = v4.toInt + (Int32.ofInt 1).toInt := by rw [hz26]; exact pj_addI (by have := pj_i32 v4; have := pj_i32 (Int32.ofInt 1); omega) (by have := pj_i32 v4; have := pj_i32 (Int32.ofInt 1); omega)
          refine pj_X_of (fun r h => pj_R_to (G21, 25, [(4, .int z26), (3, .int y20), (2, .int z17), (0, .ref 6), (1, .ref 2)], [], 0, 0) 25 2 (fun _ => rfl) h) ?_
          have q27 : (pj_fi G21 21 5).toInt = y24.toInt := by rw [show pj_fi G21 21 5 = y24 from hy24.symm]
          have q28 : (pj_fi G21 2 4).toInt = y25.toInt := by rw [show pj_fi G21 2 4 = y25 from hy25.symm]
          exact pj_X_sub [(0, .ref 6), (1, .ref 2), (2, .int z17), (3, .int y20), (4, .int z26)] (show List.Nodup [0, 1, 2, 3, 4] by decide) ⟨rfl, rfl, rfl, rfl, rfl, trivial⟩ (ih G21 iG21 kG21 z17 y20 z26 ⟨by omega, by omega⟩ ⟨by omega, by omega⟩ ⟨by omega, by omega⟩ (by omega) (by omega) (by omega))
        | false =>
          rw [pj_cF]
          have ub9 := pj_u_geF b9
          refine pj_X_of (fun r h => pj_R_icF rfl b9 h) ?_
          refine pj_X_of (fun r h => pj_R_to (G, 44, [(0, .ref 6), (1, .ref 2), (2, .int v2), (3, .int v3), (4, .int v4)], [.ref 6], 0, 0) 44 2 (fun _ => rfl) h) ?_
          refine pj_X_of (fun r h => pj_T_gr hI rfl rfl rfl h) ?_
          refine pj_X_of (fun r h => pj_T_gr hI rfl rfl rfl h) ?_
          refine pj_X_of (fun r h => pj_R_to (G, 55, [(0, .ref 6), (1, .ref 2), (2, .int v2), (3, .int v3), (4, .int v4)], [.ref 6, .int (Int32.ofInt (-1)), .ref 2, .int v4, .ref 26], 0, 0) 55 5 (fun _ => rfl) h) ?_
          refine pj_X_gm hI rfl rfl (fun q29 => ?_) (fun q29 => ?_)
          · rw [show pj_rb G 6 0 7 = true from pj_rb_t q29, pj_cT]
            refine pj_X_of (fun r h => pj_T_gi hI rfl rfl h) ?_
            show pj_X _ _ G 61 [(0, .ref 6), (1, .ref 2), (2, .int v2), (3, .int v3), (4, .int v4)] [.int (pj_fi G 7 0), .int (Int32.ofInt (-1)), .ref 2, .int v4, .ref 26] _
            obtain ⟨y30, hy30⟩ : ∃ z : Int32, z = pj_fi G 7 0 := ⟨_, rfl⟩
            refine pj_X_eqi hy30.symm ?_
            rw [← hy30, pj_nm_e]
            have ey30 : (pj_fi G 7 0).toInt = y30.toInt := by rw [hy30]
            have ry30 : (0 : Int) ≤ y30.toInt ∧ y30.toInt ≤ 8 := by rw [hy30]; exact hI.2.1 7 0 (0, 8) rfl
            have q31 : (pj_fi G 21 5).toInt = y1.toInt := by rw [show pj_fi G 21 5 = y1 from hy1.symm]
            have q32 : (pj_fi G 2 4).toInt = y2.toInt := by rw [show pj_fi G 2 4 = y2 from hy2.symm]
            refine pj_X_ca (vs := [.ref 2, .int (Int32.ofInt (-1)), .int y30]) rfl (fun _ => rfl) ⟨Nat.le_of_ble_eq_true rfl, Nat.le_of_ble_eq_true rfl, pj_T_rcv hI rfl⟩ ⟨rfl, rfl⟩ (pj_Y_up (by decide) (ct_87x G hI (Int32.ofInt (-1)) y30 ⟨by omega, by omega⟩ ⟨by omega, by omega⟩)) ?_
            rintro _ G34 ⟨y33, rfl, iG34, jG34, ry33, ey33, fy33⟩
            replace ey33 := ey33 _ rfl
            rw [← fy33, pj_bd_e]
            have kG34 : pj_kpt kc_92x G0 G34 := pj_kpt_t hK (pj_kpt_s jG34 rfl)
            have q35 : (pj_fi G34 21 5).toInt = (pj_fi G 21 5).toInt := by rw [jG34.1 (21, 5) (by decide)]
            obtain ⟨y36, hy36⟩ : ∃ z : Int32, z = pj_fi G34 21 5 := ⟨_, rfl⟩
            have ey36 : (pj_fi G34 21 5).toInt = y36.toInt := by rw [hy36]
            have ry36 : (0 : Int) ≤ y36.toInt ∧ y36.toInt ≤ 6 := by rw [hy36]; exact iG34.2.1 21 5 (0, 6) rfl
            obtain ⟨y37, hy37⟩ : ∃ z : Int32, z = pj_fi G34 2 4 := ⟨_, rfl⟩
            have ey37 : (pj_fi G34 2 4).toInt = y37.toInt := by rw [hy37]
            have ry37 : (-1 : Int) ≤ y37.toInt ∧ y37.toInt ≤ 80 := by rw [hy37]; exact iG34.2.1 2 4 (-1, 80) rfl
            show pj_X _ _ G34 64 [(0, .ref 6), (1, .ref 2), (2, .int v2), (3, .int v3), (4, .int v4)] [.int y33, .int v4, .ref 26] _
            refine pj_X_of (fun r h => pj_T_is iG34 rfl rfl (by omega) (by omega) h) ?_
            show pj_X _ _ (pj_wa G34 26 v4.toInt.toNat y33) 65 [(0, .ref 6), (1, .ref 2), (2, .int v2), (3, .int v3), (4, .int v4)] [] _
            obtain ⟨G38, hG38⟩ : ∃ H, H = pj_wa G34 26 v4.toInt.toNat y33 := ⟨_, rfl⟩
            have iG38 : pj_Inv G38 := by rw [hG38]; exact pj_Inv_wa iG34 rfl (fun q hq => by cases hq; exact ⟨by show (0 : Int) ≤ _; omega, by show _ ≤ (7 : Int); omega, by show _ ≤ (0 : Int) ∨ (0 : Int) ≤ _; omega⟩) (fun n hn => by cases hn)
            have kG38 : pj_kpt kc_92x G0 G38 := by rw [hG38]; exact pj_kpt_a kG34 rfl
            rw [← hG38]
            rw [pj_nm_e]
            refine pj_X_of (fun r h => pj_R_to (G38, 66, [(0, .ref 6), (1, .ref 2), (2, .int v2), (3, .int v3), (4, .int v4)], [.ref 6], 0, 0) 66 2 (fun _ => rfl) h) ?_
            refine pj_X_of (fun r h => pj_T_gr iG38 rfl rfl rfl h) ?_
            refine pj_X_of (fun r h => pj_R_to (G38, 77, [(0, .ref 6), (1, .ref 2), (2, .int v2), (3, .int v3), (4, .int v4)], [.int ((Int8.ofInt 57).toInt32), .int ((Int8.ofInt 49).toInt32), .ref 2, .int (Int32.ofInt 1), .int v4, .ref 32], 0, 0) 77 6 (fun _ => rfl) h) ?_
            have q39 : (pj_fi G38 21 5).toInt = y36.toInt := by rw [show pj_fi G38 21 5 = y36 from by rw [hG38, pj_fi_wa]; exact hy36.symm]
            have q40 : (pj_fi G38 2 4).toInt = y37.toInt := by rw [show pj_fi G38 2 4 = y37 from by rw [hG38, pj_fi_wa]; exact hy37.symm]
            refine pj_X_ca (vs := [.ref 2, .int ((Int8.ofInt 49).toInt32), .int ((Int8.ofInt 57).toInt32)]) rfl (fun _ => rfl) ⟨Nat.le_of_ble_eq_true rfl, Nat.le_of_ble_eq_true rfl, pj_T_rcv iG38 rfl⟩ ⟨rfl, rfl⟩ (pj_Y_up (by decide) (ct_83x G38 iG38 ((Int8.ofInt 49).toInt32) ((Int8.ofInt 57).toInt32) ⟨by omega, by omega⟩ ⟨by omega, by omega⟩)) ?_
            rintro _ G42 ⟨y41, rfl, iG42, jG42, ry41, ey41, fy41⟩
            replace ey41 := ey41 _ rfl
            rw [← fy41, pj_bd_e]
            have kG42 : pj_kpt kc_92x G0 G42 := pj_kpt_t kG38 (pj_kpt_s jG42 rfl)
            have q43 : (pj_fi G42 21 5).toInt = (pj_fi G38 21 5).toInt := by rw [jG42.1 (21, 5) (by decide)]
            obtain ⟨y44, hy44⟩ : ∃ z : Int32, z = pj_fi G42 21 5 := ⟨_, rfl⟩
            have ey44 : (pj_fi G42 21 5).toInt = y44.toInt := by rw [hy44]
            have ry44 : (0 : Int) ≤ y44.toInt ∧ y44.toInt ≤ 6 := by rw [hy44]; exact iG42.2.1 21 5 (0, 6) rfl
            obtain ⟨y45, hy45⟩ : ∃ z : Int32, z = pj_fi G42 2 4 := ⟨_, rfl⟩
            have ey45 : (pj_fi G42 2 4).toInt = y45.toInt := by rw [hy45]
            have ry45 : (-1 : Int) ≤ y45.toInt ∧ y45.toInt ≤ 80 := by rw [hy45]; exact iG42.2.1 2 4 (-1, 80) rfl
            show pj_X _ _ G42 80 [(0, .ref 6), (1, .ref 2), (2, .int v2), (3, .int v3), (4, .int v4)] [.int y41, .int (Int32.ofInt 1), .int v4, .ref 32] _
            refine pj_X_of (fun r h => pj_R_to (G42, 81, [(0, .ref 6), (1, .ref 2), (2, .int v2), (3, .int v3), (4, .int v4)], [.int ((Int32.ofInt 1) + y41), .int v4, .ref 32], 0, 0) 81 2 (fun _ => rfl) h) ?_
            obtain ⟨z46, hz46⟩ : ∃ z : Int32, z = (Int32.ofInt 1) + y41 := ⟨_, rfl⟩
            refine pj_X_eqi hz46.symm ?_
            rw [← hz46, pj_nm_e]
            have fz46_0 : z46.toInt = (Int32.ofInt 1).toInt + y41.toInt := by rw [hz46]; exact pj_addI (by have := pj_i32 (Int32.ofInt 1); have := pj_i32 y41; omega) (by have := pj_i32 (Int32.ofInt 1); have := pj_i32 y41; omega)
            refine pj_X_of (fun r h => pj_T_is iG42 rfl rfl (by omega) (by omega) h) ?_
            show pj_X _ _ (pj_wa G42 32 v4.toInt.toNat z46) 82 [(0, .ref 6), (1, .ref 2), (2, .int v2), (3, .int v3), (4, .int v4)] [] _
            obtain ⟨G47, hG47⟩ : ∃ H, H = pj_wa G42 32 v4.toInt.toNat z46 := ⟨_, rfl⟩
            have iG47 : pj_Inv G47 := by rw [hG47]; exact pj_Inv_wa iG42 rfl (fun q hq => by cases hq) (fun n hn => by cases hn)
            have kG47 : pj_kpt kc_92x G0 G47 := by rw [hG47]; exact pj_kpt_a kG42 rfl
            rw [← hG47]
            rw [pj_nm_e]
            refine pj_X_of (fun r h => pj_R_to (G47, 92, [(2, .int (v2 + Int32.ofInt 1)), (0, .ref 6), (1, .ref 2), (3, .int v3), (4, .int v4)], [], 0, 0) 92 3 (fun _ => rfl) h) ?_
            obtain ⟨z48, hz48⟩ : ∃ z : Int32, z = v2 + Int32.ofInt 1 := ⟨_, rfl⟩
            rw [← hz48]
            rw [pj_nm_e]
            have fz48_0 : z48.toInt = v2.toInt + (Int32.ofInt 1).toInt := by rw [hz48]; exact pj_addI (by have := pj_i32 v2; have := pj_i32 (Int32.ofInt 1); omega) (by have := pj_i32 v2; have := pj_i32 (Int32.ofInt 1); omega)
            refine pj_X_of (fun r h => pj_R_to (G47, 95, [(2, .int z48), (0, .ref 6), (1, .ref 2), (3, .int v3), (4, .int v4)], [.int ((Int8.ofInt 59).toInt32), .ref 2], 0, 0) 95 3 (fun _ => rfl) h) ?_
            have q49 : (pj_fi G47 21 5).toInt = y44.toInt := by rw [show pj_fi G47 21 5 = y44 from by rw [hG47, pj_fi_wa]; exact hy44.symm]
            have q50 : (pj_fi G47 2 4).toInt = y45.toInt := by rw [show pj_fi G47 2 4 = y45 from by rw [hG47, pj_fi_wa]; exact hy45.symm]
            refine pj_X_ca (vs := [.ref 2, .int ((Int8.ofInt 59).toInt32)]) rfl (fun _ => rfl) ⟨Nat.le_of_ble_eq_true rfl, Nat.le_of_ble_eq_true rfl, pj_T_rcv iG47 rfl⟩ ⟨rfl, rfl⟩ (pj_Y_up (by decide) (ct_82x G47 iG47 ((Int8.ofInt 59).toInt32) ⟨by omega, by omega⟩)) ?_
            rintro _ G52 ⟨y51, rfl, iG52, jG52, ry51, ey51, fy51⟩
            replace ey51 := ey51 _ rfl
            rw [← fy51, pj_bd_e]
            have kG52 : pj_kpt kc_92x G0 G52 := pj_kpt_t kG47 (pj_kpt_s jG52 rfl)
            have q53 : (pj_fi G52 21 5).toInt = (pj_fi G47 21 5).toInt := by rw [jG52.1 (21, 5) (by decide)]
            have q54 : (pj_fi G52 2 4).toInt = (pj_fi G47 2 4).toInt := by rw [jG52.1 (2, 4) (by decide)]
            obtain ⟨y55, hy55⟩ : ∃ z : Int32, z = pj_fi G52 21 5 := ⟨_, rfl⟩
            have ey55 : (pj_fi G52 21 5).toInt = y55.toInt := by rw [hy55]
            have ry55 : (0 : Int) ≤ y55.toInt ∧ y55.toInt ≤ 6 := by rw [hy55]; exact iG52.2.1 21 5 (0, 6) rfl
            obtain ⟨y56, hy56⟩ : ∃ z : Int32, z = pj_fi G52 2 4 := ⟨_, rfl⟩
            have ey56 : (pj_fi G52 2 4).toInt = y56.toInt := by rw [hy56]
            have ry56 : (-1 : Int) ≤ y56.toInt ∧ y56.toInt ≤ 80 := by rw [hy56]; exact iG52.2.1 2 4 (-1, 80) rfl
            show pj_X _ _ G52 98 [(2, .int z48), (0, .ref 6), (1, .ref 2), (3, .int v3), (4, .int v4)] [.int y51] _
            refine pj_X_of (fun r h => pj_R_to (G52, 102, [(4, .int (v4 + Int32.ofInt 1)), (3, .int y51), (2, .int z48), (0, .ref 6), (1, .ref 2)], [], 0, 0) 102 3 (fun _ => rfl) h) ?_
            obtain ⟨z57, hz57⟩ : ∃ z : Int32, z = v4 + Int32.ofInt 1 := ⟨_, rfl⟩
            rw [← hz57]
            rw [pj_nm_e]
            have fz57_0 : z57.toInt = v4.toInt + (Int32.ofInt 1).toInt := by rw [hz57]; exact pj_addI (by have := pj_i32 v4; have := pj_i32 (Int32.ofInt 1); omega) (by have := pj_i32 v4; have := pj_i32 (Int32.ofInt 1); omega)
            refine pj_X_of (fun r h => pj_R_to (G52, 25, [(4, .int z57), (3, .int y51), (2, .int z48), (0, .ref 6), (1, .ref 2)], [], 0, 0) 25 2 (fun _ => rfl) h) ?_
            have q58 : (pj_fi G52 21 5).toInt = y55.toInt := by rw [show pj_fi G52 21 5 = y55 from hy55.symm]
            have q59 : (pj_fi G52 2 4).toInt = y56.toInt := by rw [show pj_fi G52 2 4 = y56 from hy56.symm]
            exact pj_X_sub [(0, .ref 6), (1, .ref 2), (2, .int z48), (3, .int y51), (4, .int z57)] (show List.Nodup [0, 1, 2, 3, 4] by decide) ⟨rfl, rfl, rfl, rfl, rfl, trivial⟩ (ih G52 iG52 kG52 z48 y51 z57 ⟨by omega, by omega⟩ ⟨by omega, by omega⟩ ⟨by omega, by omega⟩ (by omega) (by omega) (by omega))
          · rw [show pj_rb G 6 0 7 = false from pj_rb_f q29 rfl, pj_cF]
            refine pj_X_of (fun r h => pj_T_gi hI rfl rfl h) ?_
            show pj_X _ _ G 61 [(0, .ref 6), (1, .ref 2), (2, .int v2), (3, .int v3), (4, .int v4)] [.int (pj_fi G 14 0), .int (Int32.ofInt (-1)), .ref 2, .int v4, .ref 26] _
            obtain ⟨y60, hy60⟩ : ∃ z : Int32, z = pj_fi G 14 0 := ⟨_, rfl⟩
            refine pj_X_eqi hy60.symm ?_
            rw [← hy60, pj_nm_e]
            have ey60 : (pj_fi G 14 0).toInt = y60.toInt := by rw [hy60]
            have ry60 : (0 : Int) ≤ y60.toInt ∧ y60.toInt ≤ 8 := by rw [hy60]; exact hI.2.1 14 0 (0, 8) rfl
            have q61 : (pj_fi G 21 5).toInt = y1.toInt := by rw [show pj_fi G 21 5 = y1 from hy1.symm]
            have q62 : (pj_fi G 2 4).toInt = y2.toInt := by rw [show pj_fi G 2 4 = y2 from hy2.symm]
            refine pj_X_ca (vs := [.ref 2, .int (Int32.ofInt (-1)), .int y60]) rfl (fun _ => rfl) ⟨Nat.le_of_ble_eq_true rfl, Nat.le_of_ble_eq_true rfl, pj_T_rcv hI rfl⟩ ⟨rfl, rfl⟩ (pj_Y_up (by decide) (ct_87x G hI (Int32.ofInt (-1)) y60 ⟨by omega, by omega⟩ ⟨by omega, by omega⟩)) ?_
            rintro _ G64 ⟨y63, rfl, iG64, jG64, ry63, ey63, fy63⟩
            replace ey63 := ey63 _ rfl
            rw [← fy63, pj_bd_e]
            have kG64 : pj_kpt kc_92x G0 G64 := pj_kpt_t hK (pj_kpt_s jG64 rfl)
            have q65 : (pj_fi G64 21 5).toInt = (pj_fi G 21 5).toInt := by rw [jG64.1 (21, 5) (by decide)]
            obtain ⟨y66, hy66⟩ : ∃ z : Int32, z = pj_fi G64 21 5 := ⟨_, rfl⟩
            have ey66 : (pj_fi G64 21 5).toInt = y66.toInt := by rw [hy66]
            have ry66 : (0 : Int) ≤ y66.toInt ∧ y66.toInt ≤ 6 := by rw [hy66]; exact iG64.2.1 21 5 (0, 6) rfl
            obtain ⟨y67, hy67⟩ : ∃ z : Int32, z = pj_fi G64 2 4 := ⟨_, rfl⟩
            have ey67 : (pj_fi G64 2 4).toInt = y67.toInt := by rw [hy67]
            have ry67 : (-1 : Int) ≤ y67.toInt ∧ y67.toInt ≤ 80 := by rw [hy67]; exact iG64.2.1 2 4 (-1, 80) rfl
            show pj_X _ _ G64 64 [(0, .ref 6), (1, .ref 2), (2, .int v2), (3, .int v3), (4, .int v4)] [.int y63, .int v4, .ref 26] _
            refine pj_X_of (fun r h => pj_T_is iG64 rfl rfl (by omega) (by omega) h) ?_
            show pj_X _ _ (pj_wa G64 26 v4.toInt.toNat y63) 65 [(0, .ref 6), (1, .ref 2), (2, .int v2), (3, .int v3), (4, .int v4)] [] _
            obtain ⟨G68, hG68⟩ : ∃ H, H = pj_wa G64 26 v4.toInt.toNat y63 := ⟨_, rfl⟩
            have iG68 : pj_Inv G68 := by rw [hG68]; exact pj_Inv_wa iG64 rfl (fun q hq => by cases hq; exact ⟨by show (0 : Int) ≤ _; omega, by show _ ≤ (7 : Int); omega, by show _ ≤ (0 : Int) ∨ (0 : Int) ≤ _; omega⟩) (fun n hn => by cases hn)
            have kG68 : pj_kpt kc_92x G0 G68 := by rw [hG68]; exact pj_kpt_a kG64 rfl
            rw [← hG68]
            rw [pj_nm_e]
            refine pj_X_of (fun r h => pj_R_to (G68, 66, [(0, .ref 6), (1, .ref 2), (2, .int v2), (3, .int v3), (4, .int v4)], [.ref 6], 0, 0) 66 2 (fun _ => rfl) h) ?_
            refine pj_X_of (fun r h => pj_T_gr iG68 rfl rfl rfl h) ?_
            refine pj_X_of (fun r h => pj_R_to (G68, 77, [(0, .ref 6), (1, .ref 2), (2, .int v2), (3, .int v3), (4, .int v4)], [.int ((Int8.ofInt 57).toInt32), .int ((Int8.ofInt 49).toInt32), .ref 2, .int (Int32.ofInt 1), .int v4, .ref 32], 0, 0) 77 6 (fun _ => rfl) h) ?_
            have q69 : (pj_fi G68 21 5).toInt = y66.toInt := by rw [show pj_fi G68 21 5 = y66 from by rw [hG68, pj_fi_wa]; exact hy66.symm]
            have q70 : (pj_fi G68 2 4).toInt = y67.toInt := by rw [show pj_fi G68 2 4 = y67 from by rw [hG68, pj_fi_wa]; exact hy67.symm]
            refine pj_X_ca (vs := [.ref 2, .int ((Int8.ofInt 49).toInt32), .int ((Int8.ofInt 57).toInt32)]) rfl (fun _ => rfl) ⟨Nat.le_of_ble_eq_true rfl, Nat.le_of_ble_eq_true rfl, pj_T_rcv iG68 rfl⟩ ⟨rfl, rfl⟩ (pj_Y_up (by decide) (ct_83x G68 iG68 ((Int8.ofInt 49).toInt32) ((Int8.ofInt 57).toInt32) ⟨by omega, by omega⟩ ⟨by omega, by omega⟩)) ?_
            rintro _ G72 ⟨y71, rfl, iG72, jG72, ry71, ey71, fy71⟩
            replace ey71 := ey71 _ rfl
            rw [← fy71, pj_bd_e]
            have kG72 : pj_kpt kc_92x G0 G72 := pj_kpt_t kG68 (pj_kpt_s jG72 rfl)
            have q73 : (pj_fi G72 21 5).toInt = (pj_fi G68 21 5).toInt := by rw [jG72.1 (21, 5) (by decide)]
            obtain ⟨y74, hy74⟩ : ∃ z : Int32, z = pj_fi G72 21 5 := ⟨_, rfl⟩
            have ey74 : (pj_fi G72 21 5).toInt = y74.toInt := by rw [hy74]
            have ry74 : (0 : Int) ≤ y74.toInt ∧ y74.toInt ≤ 6 := by rw [hy74]; exact iG72.2.1 21 5 (0, 6) rfl
            obtain ⟨y75, hy75⟩ : ∃ z : Int32, z = pj_fi G72 2 4 := ⟨_, rfl⟩
            have ey75 : (pj_fi G72 2 4).toInt = y75.toInt := by rw [hy75]
            have ry75 : (-1 : Int) ≤ y75.toInt ∧ y75.toInt ≤ 80 := by rw [hy75]; exact iG72.2.1 2 4 (-1, 80) rfl
            show pj_X _ _ G72 80 [(0, .ref 6), (1, .ref 2), (2, .int v2), (3, .int v3), (4, .int v4)] [.int y71, .int (Int32.ofInt 1), .int v4, .ref 32] _
            refine pj_X_of (fun r h => pj_R_to (G72, 81, [(0, .ref 6), (1, .ref 2), (2, .int v2), (3, .int v3), (4, .int v4)], [.int ((Int32.ofInt 1) + y71), .int v4, .ref 32], 0, 0) 81 2 (fun _ => rfl) h) ?_
            obtain ⟨z76, hz76⟩ : ∃ z : Int32, z = (Int32.ofInt 1) + y71 := ⟨_, rfl⟩
            refine pj_X_eqi hz76.symm ?_
            rw [← hz76, pj_nm_e]
            have fz76_0 : z76.toInt = (Int32.ofInt 1).toInt + y71.toInt := by rw [hz76]; exact pj_addI (by have := pj_i32 (Int32.ofInt 1); have := pj_i32 y71; omega) (by have := pj_i32 (Int32.ofInt 1); have := pj_i32 y71; omega)
            refine pj_X_of (fun r h => pj_T_is iG72 rfl rfl (by omega) (by omega) h) ?_
            show pj_X _ _ (pj_wa G72 32 v4.toInt.toNat z76) 82 [(0, .ref 6), (1, .ref 2), (2, .int v2), (3, .int v3), (4, .int v4)] [] _
            obtain ⟨G77, hG77⟩ : ∃ H, H = pj_wa G72 32 v4.toInt.toNat z76 := ⟨_, rfl⟩
            have iG77 : pj_Inv G77 := by rw [hG77]; exact pj_Inv_wa iG72 rfl (fun q hq => by cases hq) (fun n hn => by cases hn)
            have kG77 : pj_kpt kc_92x G0 G77 := by rw [hG77]; exact pj_kpt_a kG72 rfl
            rw [← hG77]
            rw [pj_nm_e]
            refine pj_X_of (fun r h => pj_R_to (G77, 92, [(2, .int (v2 + Int32.ofInt 1)), (0, .ref 6), (1, .ref 2), (3, .int v3), (4, .int v4)], [], 0, 0) 92 3 (fun _ => rfl) h) ?_
            obtain ⟨z78, hz78⟩ : ∃ z : Int32, z = v2 + Int32.ofInt 1 := ⟨_, rfl⟩
            rw [← hz78]
            rw [pj_nm_e]
            have fz78_0 : z78.toInt = v2.toInt + (Int32.ofInt 1).toInt := by rw [hz78]; exact pj_addI (by have := pj_i32 v2; have := pj_i32 (Int32.ofInt 1); omega) (by have := pj_i32 v2; have := pj_i32 (Int32.ofInt 1); omega)
            refine pj_X_of (fun r h => pj_R_to (G77, 95, [(2, .int z78), (0, .ref 6), (1, .ref 2), (3, .int v3), (4, .int v4)], [.int ((Int8.ofInt 59).toInt32), .ref 2], 0, 0) 95 3 (fun _ => rfl) h) ?_
            have q79 : (pj_fi G77 21 5).toInt = y74.toInt := by rw [show pj_fi G77 21 5 = y74 from by rw [hG77, pj_fi_wa]; exact hy74.symm]
            have q80 : (pj_fi G77 2 4).toInt = y75.toInt := by rw [show pj_fi G77 2 4 = y75 from by rw [hG77, pj_fi_wa]; exact hy75.symm]
            refine pj_X_ca (vs := [.ref 2, .int ((Int8.ofInt 59).toInt32)]) rfl (fun _ => rfl) ⟨Nat.le_of_ble_eq_true rfl, Nat.le_of_ble_eq_true rfl, pj_T_rcv iG77 rfl⟩ ⟨rfl, rfl⟩ (pj_Y_up (by decide) (ct_82x G77 iG77 ((Int8.ofInt 59).toInt32) ⟨by omega, by omega⟩)) ?_
            rintro _ G82 ⟨y81, rfl, iG82, jG82, ry81, ey81, fy81⟩
            replace ey81 := ey81 _ rfl
            rw [← fy81, pj_bd_e]
            have kG82 : pj_kpt kc_92x G0 G82 := pj_kpt_t kG77 (pj_kpt_s jG82 rfl)
            have q83 : (pj_fi G82 21 5).toInt = (pj_fi G77 21 5).toInt := by rw [jG82.1 (21, 5) (by decide)]
            have q84 : (pj_fi G82 2 4).toInt = (pj_fi G77 2 4).toInt := by rw [jG82.1 (2, 4) (by decide)]
            obtain ⟨y85, hy85⟩ : ∃ z : Int32, z = pj_fi G82 21 5 := ⟨_, rfl⟩
            have ey85 : (pj_fi G82 21 5).toInt = y85.toInt := by rw [hy85]
            have ry85 : (0 : Int) ≤ y85.toInt ∧ y85.toInt ≤ 6 := by rw [hy85]; exact iG82.2.1 21 5 (0, 6) rfl
            obtain ⟨y86, hy86⟩ : ∃ z : Int32, z = pj_fi G82 2 4 := ⟨_, rfl⟩
            have ey86 : (pj_fi G82 2 4).toInt = y86.toInt := by rw [hy86]
            have ry86 : (-1 : Int) ≤ y86.toInt ∧ y86.toInt ≤ 80 := by rw [hy86]; exact iG82.2.1 2 4 (-1, 80) rfl
            show pj_X _ _ G82 98 [(2, .int z78), (0, .ref 6), (1, .ref 2), (3, .int v3), (4, .int v4)] [.int y81] _
            refine pj_X_of (fun r h => pj_R_to (G82, 102, [(4, .int (v4 + Int32.ofInt 1)), (3, .int y81), (2, .int z78), (0, .ref 6), (1, .ref 2)], [], 0, 0) 102 3 (fun _ => rfl) h) ?_
            obtain ⟨z87, hz87⟩ : ∃ z : Int32, z = v4 + Int32.ofInt 1 := ⟨_, rfl⟩
            rw [← hz87]
            rw [pj_nm_e]
            have fz87_0 : z87.toInt = v4.toInt + (Int32.ofInt 1).toInt := by rw [hz87]; exact pj_addI (by have := pj_i32 v4; have := pj_i32 (Int32.ofInt 1); omega) (by have := pj_i32 v4; have := pj_i32 (Int32.ofInt 1); omega)
            refine pj_X_of (fun r h => pj_R_to (G82, 25, [(4, .int z87), (3, .int y81), (2, .int z78), (0, .ref 6), (1, .ref 2)], [], 0, 0) 25 2 (fun _ => rfl) h) ?_
            have q88 : (pj_fi G82 21 5).toInt = y85.toInt := by rw [show pj_fi G82 21 5 = y85 from hy85.symm]
            have q89 : (pj_fi G82 2 4).toInt = y86.toInt := by rw [show pj_fi G82 2 4 = y86 from hy86.symm]
            exact pj_X_sub [(0, .ref 6), (1, .ref 2), (2, .int z78), (3, .int y81), (4, .int z87)] (show List.Nodup [0, 1, 2, 3, 4] by decide) ⟨rfl, rfl, rfl, rfl, rfl, trivial⟩ (ih G82 iG82 kG82 z78 y81 z87 ⟨by omega, by omega⟩ ⟨by omega, by omega⟩ ⟨by omega, by omega⟩ (by omega) (by omega) (by omega))
theorem ct_92x (G0 : pj_G) (hI : pj_Inv G0) : pj_Y 4 92 [.ref 6, .ref 2] G0 (fun v' G' => ∃ y : Int32, v' = some (.int y) ∧ pj_Inv G' ∧ pj_kpt kc_92x G0 G' ∧ ((0 : Int) ≤ y.toInt ∧ y.toInt ≤ 7) ∧ ((pj_fi G' 2 4).toInt = -1 → (pj_fi G' 21 5).toInt + y.toInt ≤ 6) ∧ ((y, G') = F_92x G0)) := by
  have c0_ : ((Int8.ofInt 49).toInt32).toInt = 49 := by decide
  have c1_ : ((Int8.ofInt 57).toInt32).toInt = 57 := by decide
  have c2_ : ((Int8.ofInt 59).toInt32).toInt = 59 := by decide
  have c3_ : ((Int8.ofInt 6).toInt32).toInt = 6 := by decide
  have c4_ : (Int32.ofInt (-1)).toInt = -1 := by decide
  have c5_ : (Int32.ofInt 0).toInt = 0 := by decide
  have c6_ : (Int32.ofInt 1).toInt = 1 := by decide
  refine pj_Y_X (M := pj_m92) rfl rfl (Nat.le_of_ble_eq_true rfl) ?_
  have hK : pj_kpt kc_92x G0 G0 := pj_kpt_r _ _
  show pj_X _ _ G0 0 [(0, .ref 6), (1, .ref 2)] [] _
  rw [F_92x_e]
  obtain ⟨y90, hy90⟩ : ∃ z : Int32, z = pj_fi G0 21 5 := ⟨_, rfl⟩
  have ey90 : (pj_fi G0 21 5).toInt = y90.toInt := by rw [hy90]
  have ry90 : (0 : Int) ≤ y90.toInt ∧ y90.toInt ≤ 6 := by rw [hy90]; exact hI.2.1 21 5 (0, 6) rfl
  obtain ⟨y91, hy91⟩ : ∃ z : Int32, z = pj_fi G0 2 4 := ⟨_, rfl⟩
  have ey91 : (pj_fi G0 2 4).toInt = y91.toInt := by rw [hy91]
  have ry91 : (-1 : Int) ≤ y91.toInt ∧ y91.toInt ≤ 80 := by rw [hy91]; exact hI.2.1 2 4 (-1, 80) rfl
  refine pj_X_of (fun r h => pj_R_to (G0, 3, [(2, .int (Int32.ofInt 0)), (0, .ref 6), (1, .ref 2)], [.ref 2], 0, 0) 3 4 (fun _ => rfl) h) ?_
  have q92 : (pj_fi G0 21 5).toInt = y90.toInt := by rw [show pj_fi G0 21 5 = y90 from hy90.symm]
  have q93 : (pj_fi G0 2 4).toInt = y91.toInt := by rw [show pj_fi G0 2 4 = y91 from hy91.symm]
  refine pj_X_ca (vs := [.ref 2]) rfl (fun _ => rfl) ⟨Nat.le_of_ble_eq_true rfl, Nat.le_of_ble_eq_true rfl, pj_T_rcv hI rfl⟩ ⟨rfl, rfl⟩ (pj_Y_up (by decide) (ct_80x G0 hI)) ?_
  rintro _ _ ⟨y94, rfl, rfl, ry94, ey94, fy94⟩
  replace ey94 := ey94 _ rfl
  rw [← fy94, pj_nm_e]
  show pj_X _ _ G0 6 [(2, .int (Int32.ofInt 0)), (0, .ref 6), (1, .ref 2)] [.int y94] _
  refine pj_X_of (fun r h => pj_R_to (G0, 7, [(2, .int (Int32.ofInt 0)), (0, .ref 6), (1, .ref 2)], [.int (Int32.ofInt (-1)), .int y94], 0, 0) 7 2 (fun _ => rfl) h) ?_
  cases b95 : pj_c1 .eq y94 (Int32.ofInt (-1)) with
  | true =>
    rw [pj_cT]
    have ub95 := pj_u_eqT b95
    refine pj_X_of (fun r h => pj_R_icT 14 rfl rfl b95 h) ?_
    refine pj_X_of (fun r h => pj_R_to (G0, 17, [(3, .int (Int32.ofInt 0)), (2, .int (Int32.ofInt 0)), (0, .ref 6), (1, .ref 2)], [.ref 6], 0, 0) 17 4 (fun _ => rfl) h) ?_
    refine pj_X_of (fun r h => pj_T_gr hI rfl rfl rfl h) ?_
    refine pj_X_of (fun r h => pj_T_gi hI rfl rfl h) ?_
    show pj_X _ _ G0 23 [(3, .int (Int32.ofInt 0)), (2, .int (Int32.ofInt 0)), (0, .ref 6), (1, .ref 2)] [.int (pj_fi G0 21 5)] _
    rw [← hy90, pj_nm_e]
    refine pj_X_of (fun r h => pj_R_to (G0, 25, [(4, .int y90), (3, .int (Int32.ofInt 0)), (2, .int (Int32.ofInt 0)), (0, .ref 6), (1, .ref 2)], [], 0, 0) 25 2 (fun _ => rfl) h) ?_
    have q96 : (pj_fi G0 21 5).toInt = y90.toInt := by rw [show pj_fi G0 21 5 = y90 from hy90.symm]
    have q97 : (pj_fi G0 2 4).toInt = y91.toInt := by rw [show pj_fi G0 2 4 = y91 from hy91.symm]
    exact pj_X_sub [(0, .ref 6), (1, .ref 2), (2, .int (Int32.ofInt 0)), (3, .int (Int32.ofInt 0)), (4, .int y90)] (show List.Nodup [0, 1, 2, 3, 4] by decide) ⟨rfl, rfl, rfl, rfl, rfl, trivial⟩ ((lp_ct_92x G0 hI   8) G0 hI hK (Int32.ofInt 0) (Int32.ofInt 0) y90 ⟨by omega, by omega⟩ ⟨by omega, by omega⟩ ⟨by omega, by omega⟩ (by omega) (by omega) (by omega))
  | false =>
    rw [pj_cF]
    have ub95 := pj_u_eqF b95
    refine pj_X_of (fun r h => pj_R_icF rfl b95 h) ?_
    refine pj_X_of (fun r h => pj_R_to (G0, 17, [(3, .int (Int32.ofInt 1)), (2, .int (Int32.ofInt 0)), (0, .ref 6), (1, .ref 2)], [.ref 6], 0, 0) 17 5 (fun _ => rfl) h) ?_
    refine pj_X_of (fun r h => pj_T_gr hI rfl rfl rfl h) ?_
    refine pj_X_of (fun r h => pj_T_gi hI rfl rfl h) ?_
    show pj_X _ _ G0 23 [(3, .int (Int32.ofInt 1)), (2, .int (Int32.ofInt 0)), (0, .ref 6), (1, .ref 2)] [.int (pj_fi G0 21 5)] _
    rw [← hy90, pj_nm_e]
    refine pj_X_of (fun r h => pj_R_to (G0, 25, [(4, .int y90), (3, .int (Int32.ofInt 1)), (2, .int (Int32.ofInt 0)), (0, .ref 6), (1, .ref 2)], [], 0, 0) 25 2 (fun _ => rfl) h) ?_
    have q98 : (pj_fi G0 21 5).toInt = y90.toInt := by rw [show pj_fi G0 21 5 = y90 from hy90.symm]
    have q99 : (pj_fi G0 2 4).toInt = y91.toInt := by rw [show pj_fi G0 2 4 = y91 from hy91.symm]
    exact pj_X_sub [(0, .ref 6), (1, .ref 2), (2, .int (Int32.ofInt 0)), (3, .int (Int32.ofInt 1)), (4, .int y90)] (show List.Nodup [0, 1, 2, 3, 4] by decide) ⟨rfl, rfl, rfl, rfl, rfl, trivial⟩ ((lp_ct_92x G0 hI   8) G0 hI hK (Int32.ofInt 0) (Int32.ofInt 1) y90 ⟨by omega, by omega⟩ ⟨by omega, by omega⟩ ⟨by omega, by omega⟩ (by omega) (by omega) (by omega))
theorem fr_92x (G0 : pj_G) (hI : pj_Inv G0) : pj_Inv (F_92x G0).2 ∧ pj_kpt kc_92x G0 (F_92x G0).2 ∧ ((0 : Int) ≤ (F_92x G0).1.toInt ∧ (F_92x G0).1.toInt ≤ 7) ∧ ((pj_fi (F_92x G0).2 2 4).toInt = -1 → (pj_fi (F_92x G0).2 21 5).toInt + (F_92x G0).1.toInt ≤ 6) := by
  obtain ⟨v, G', -, y, -, i, j, r, x, e⟩ := ct_92x G0 hI 
  rw [← e]
  exact ⟨i, j, r, x⟩
def kc_161x : pj_KT := ([(53, 2)], [53], [])
noncomputable def F_161x (G0 : pj_G) (ch : Int32) : pj_G := cond (pj_c1 .eq ch 0) (G0) (pj_nm (F_36x G0) (fun G3 => G3))
theorem F_161x_e (G0 : pj_G) (ch : Int32) : F_161x G0 ch = cond (pj_c1 .eq ch 0) (G0) (pj_nm (F_36x G0) (fun G3 => G3)) := rfl
theorem ct_161x (G0 : pj_G) (hI : pj_Inv G0) (ch : Int32) (rch : (0 : Int) ≤ ch.toInt ∧ ch.toInt ≤ 1) : pj_Y 2 161 [.ref 1, .int ch] G0 (fun v' G' => v' = none ∧ pj_Inv G' ∧ pj_kpt kc_161x G0 G' ∧ (G' = F_161x G0 ch)) := by
  refine pj_Y_X (M := pj_m161) rfl rfl (Nat.le_of_ble_eq_true rfl) ?_
  have hK : pj_kpt kc_161x G0 G0 := pj_kpt_r _ _
  show pj_X _ _ G0 0 [(0, .ref 1), (1, .int ch)] [] _
  rw [F_161x_e]
  refine pj_X_of (fun r h => pj_R_to (G0, 1, [(0, .ref 1), (1, .int ch)], [.int ch], 0, 0) 1 2 (fun _ => rfl) h) ?_
  cases b1 : pj_c1 .eq ch 0 with
  | true =>
    rw [pj_cT]
    have ub1 := pj_u0_eqT b1
    refine pj_X_of (fun r h => pj_R_ifT 11 rfl rfl b1 h) ?_
    exact pj_X_rt rfl rfl ⟨rfl, hI, hK, rfl⟩
  | false =>
    rw [pj_cF]
    have ub1 := pj_u0_eqF b1
    refine pj_X_of (fun r h => pj_R_ifF rfl b1 h) ?_
    refine pj_X_of (fun r h => pj_R_to (G0, 5, [(0, .ref 1), (1, .int ch)], [.ref 1], 0, 0) 5 2 (fun _ => rfl) h) ?_
    refine pj_X_of (fun r h => pj_T_gr hI rfl rfl rfl h) ?_
    refine pj_X_ca (vs := [.ref 53]) rfl (fun _ => rfl) ⟨Nat.le_of_ble_eq_true rfl, Nat.le_of_ble_eq_true rfl, pj_T_rcv hI rfl⟩ ⟨rfl, rfl⟩ (pj_Y_up (by decide) (ct_36x G0 hI)) ?_
    rintro _ G3 ⟨rfl, iG3, jG3, fy2⟩
    rw [← fy2, pj_nm_e]
    have kG3 : pj_kpt kc_161x G0 G3 := pj_kpt_t hK (pj_kpt_s jG3 rfl)
    show pj_X _ _ G3 11 [(0, .ref 1), (1, .int ch)] [] _
    exact pj_X_rt rfl rfl ⟨rfl, iG3, kG3, rfl⟩
theorem fr_161x (G0 : pj_G) (hI : pj_Inv G0) (ch : Int32) (rch : (0 : Int) ≤ ch.toInt ∧ ch.toInt ≤ 1) : pj_Inv (F_161x G0 ch) ∧ pj_kpt kc_161x G0 (F_161x G0 ch) := by
  obtain ⟨v, G', -, -, i, j, e⟩ := ct_161x G0 hI ch rch
  rw [← e]
  exact ⟨i, j⟩
def kc_120tx : pj_KT := ([(2, 1), (2, 2), (2, 3), (2, 4), (21, 0), (53, 2)], [2, 21, 22, 23, 24, 25, 31, 53], [22, 23, 24, 25, 31])
noncomputable def F_120tx (G0 : pj_G) : Int32 × pj_G := pj_nm (F_79x G0 ((Int8.ofInt 17).toInt32)) (fun G8 => pj_bd (F_91x G8) (fun y17 G18 => pj_bd (F_88tx G18) (fun y27 G28 => cond (pj_c1 .eq y27 (Int32.ofInt (-1))) (pj_nm (pj_fi G28 21 0) (fun y30 => pj_nm (y30 + y17) (fun z34 => pj_nm (pj_wv G28 21 0 (.int z34)) (fun G35 => cond (pj_c1 .le y17 0) (pj_nm (F_161x G35 (Int32.ofInt 0)) (fun G41 => (y17, G41))) (pj_nm (F_161x G35 (Int32.ofInt 1)) (fun G55 => (y17, G55))))))) (pj_nm (F_162x G28 y27) (fun y68 => (y68, G28))))))
theorem F_120tx_e (G0 : pj_G) : F_120tx G0 = pj_nm (F_79x G0 ((Int8.ofInt 17).toInt32)) (fun G8 => pj_bd (F_91x G8) (fun y17 G18 => pj_bd (F_88tx G18) (fun y27 G28 => cond (pj_c1 .eq y27 (Int32.ofInt (-1))) (pj_nm (pj_fi G28 21 0) (fun y30 => pj_nm (y30 + y17) (fun z34 => pj_nm (pj_wv G28 21 0 (.int z34)) (fun G35 => cond (pj_c1 .le y17 0) (pj_nm (F_161x G35 (Int32.ofInt 0)) (fun G41 => (y17, G41))) (pj_nm (F_161x G35 (Int32.ofInt 1)) (fun G55 => (y17, G55))))))) (pj_nm (F_162x G28 y27) (fun y68 => (y68, G28)))))) := rfl
theorem ct_120tx (G0 : pj_G) (hI : pj_Inv G0) : pj_Y 5 120 [.ref 1] G0 (fun v' G' => ∃ y : Int32, v' = some (.int y) ∧ pj_Inv G' ∧ pj_kpt kc_120tx G0 G' ∧ ((-2147483648 : Int) ≤ y.toInt ∧ y.toInt ≤ 2147483647) ∧ ((pj_fi G' 2 1).toInt = 0) ∧ ((y, G') = F_120tx G0)) := by
  have c0_ : ((Int8.ofInt 17).toInt32).toInt = 17 := by decide
  have c1_ : (Int32.ofInt (-1)).toInt = -1 := by decide
  have c2_ : (Int32.ofInt 0).toInt = 0 := by decide
  have c3_ : (Int32.ofInt 1).toInt = 1 := by decide
  refine pj_Y_X (M := pj_m120) rfl rfl (Nat.le_of_ble_eq_true rfl) ?_
  have hK : pj_kpt kc_120tx G0 G0 := pj_kpt_r _ _
  show pj_X _ _ G0 0 [(0, .ref 1)] [] _
  rw [F_120tx_e]
  obtain ⟨y1, hy1⟩ : ∃ z : Int32, z = pj_fi G0 21 0 := ⟨_, rfl⟩
  have ey1 : (pj_fi G0 21 0).toInt = y1.toInt := by rw [hy1]
  have ry1 : (0 : Int) ≤ y1.toInt ∧ y1.toInt ≤ 6 := by rw [hy1]; exact hI.2.1 21 0 (0, 6) rfl
  obtain ⟨y2, hy2⟩ : ∃ z : Int32, z = pj_fi G0 2 4 := ⟨_, rfl⟩
  have ey2 : (pj_fi G0 2 4).toInt = y2.toInt := by rw [hy2]
  have ry2 : (-1 : Int) ≤ y2.toInt ∧ y2.toInt ≤ 80 := by rw [hy2]; exact hI.2.1 2 4 (-1, 80) rfl
  obtain ⟨y3, hy3⟩ : ∃ z : Int32, z = pj_fi G0 2 1 := ⟨_, rfl⟩
  have ey3 : (pj_fi G0 2 1).toInt = y3.toInt := by rw [hy3]
  have ry3 : (0 : Int) ≤ y3.toInt ∧ y3.toInt ≤ 80 := by rw [hy3]; exact hI.2.1 2 1 (0, 80) rfl
  refine pj_X_of (fun r h => pj_R_to (G0, 1, [(0, .ref 1)], [.ref 1], 0, 0) 1 2 (fun _ => rfl) h) ?_
  refine pj_X_of (fun r h => pj_T_gr hI rfl rfl rfl h) ?_
  refine pj_X_of (fun r h => pj_R_to (G0, 6, [(0, .ref 1)], [.int ((Int8.ofInt 17).toInt32), .ref 2], 0, 0) 6 2 (fun _ => rfl) h) ?_
  have q4 : (pj_fi G0 21 0).toInt = y1.toInt := by rw [show pj_fi G0 21 0 = y1 from hy1.symm]
  have q5 : (pj_fi G0 2 4).toInt = y2.toInt := by rw [show pj_fi G0 2 4 = y2 from hy2.symm]
  have q6 : (pj_fi G0 2 1).toInt = y3.toInt := by rw [show pj_fi G0 2 1 = y3 from hy3.symm]
  refine pj_X_ca (vs := [.ref 2, .int ((Int8.ofInt 17).toInt32)]) rfl (fun _ => rfl) ⟨Nat.le_of_ble_eq_true rfl, Nat.le_of_ble_eq_true rfl, pj_T_rcv hI rfl⟩ ⟨rfl, rfl⟩ (pj_Y_up (by decide) (ct_79x G0 hI ((Int8.ofInt 17).toInt32) ⟨by omega, by omega⟩)) ?_
  rintro _ G8 ⟨rfl, iG8, jG8, eG8, fy7⟩
  replace eG8 := eG8 _ rfl
  rw [← fy7, pj_nm_e]
  have kG8 : pj_kpt kc_120tx G0 G8 := pj_kpt_t hK (pj_kpt_s jG8 rfl)
  have q9 : (pj_fi G8 21 0).toInt = (pj_fi G0 21 0).toInt := by rw [jG8.1 (21, 0) (by decide)]
  have q10 : (pj_fi G8 2 1).toInt = (pj_fi G0 2 1).toInt := by rw [jG8.1 (2, 1) (by decide)]
  obtain ⟨y11, hy11⟩ : ∃ z : Int32, z = pj_fi G8 21 0 := ⟨_, rfl⟩
  have ey11 : (pj_fi G8 21 0).toInt = y11.toInt := by rw [hy11]
  have ry11 : (0 : Int) ≤ y11.toInt ∧ y11.toInt ≤ 6 := by rw [hy11]; exact iG8.2.1 21 0 (0, 6) rfl
  obtain ⟨y12, hy12⟩ : ∃ z : Int32, z = pj_fi G8 2 4 := ⟨_, rfl⟩
  have ey12 : (pj_fi G8 2 4).toInt = y12.toInt := by rw [hy12]
  have ry12 : (-1 : Int) ≤ y12.toInt ∧ y12.toInt ≤ 80 := by rw [hy12]; exact iG8.2.1 2 4 (-1, 80) rfl
  obtain ⟨y13, hy13⟩ : ∃ z : Int32, z = pj_fi G8 2 1 := ⟨_, rfl⟩
  have ey13 : (pj_fi G8 2 1).toInt = y13.toInt := by rw [hy13]
  have ry13 : (0 : Int) ≤ y13.toInt ∧ y13.toInt ≤ 80 := by rw [hy13]; exact iG8.2.1 2 1 (0, 80) rfl
  show pj_X _ _ G8 9 [(0, .ref 1)] [] _
  refine pj_X_of (fun r h => pj_R_to (G8, 10, [(0, .ref 1)], [.ref 1], 0, 0) 10 2 (fun _ => rfl) h) ?_
  refine pj_X_of (fun r h => pj_T_gr iG8 rfl rfl rfl h) ?_
  refine pj_X_of (fun r h => pj_R_to (G8, 14, [(0, .ref 1)], [.ref 1, .ref 6], 0, 0) 14 2 (fun _ => rfl) h) ?_
  refine pj_X_of (fun r h => pj_T_gr iG8 rfl rfl rfl h) ?_
  have q14 : (pj_fi G8 21 0).toInt = y11.toInt := by rw [show pj_fi G8 21 0 = y11 from hy11.symm]
  have q15 : (pj_fi G8 2 4).toInt = y12.toInt := by rw [show pj_fi G8 2 4 = y12 from hy12.symm]
  have q16 : (pj_fi G8 2 1).toInt = y13.toInt := by rw [show pj_fi G8 2 1 = y13 from hy13.symm]
  refine pj_X_ca (vs := [.ref 6, .ref 2]) rfl (fun _ => rfl) ⟨Nat.le_of_ble_eq_true rfl, Nat.le_of_ble_eq_true rfl, pj_T_rcv iG8 rfl⟩ ⟨rfl, rfl⟩ (pj_Y_up (by decide) (ct_91x G8 iG8)) ?_
  rintro _ G18 ⟨y17, rfl, iG18, jG18, ry17, ey17, fy17⟩
  rw [← fy17, pj_bd_e]
  have kG18 : pj_kpt kc_120tx G0 G18 := pj_kpt_t kG8 (pj_kpt_s jG18 rfl)
  have q19 : (pj_fi G18 21 0).toInt = (pj_fi G8 21 0).toInt := by rw [jG18.1 (21, 0) (by decide)]
  have q20 : (pj_fi G18 2 1).toInt = (pj_fi G8 2 1).toInt := by rw [jG18.1 (2, 1) (by decide)]
  obtain ⟨y21, hy21⟩ : ∃ z : Int32, z = pj_fi G18 21 0 := ⟨_, rfl⟩
  have ey21 : (pj_fi G18 21 0).toInt = y21.toInt := by rw [hy21]
  have ry21 : (0 : Int) ≤ y21.toInt ∧ y21.toInt ≤ 6 := by rw [hy21]; exact iG18.2.1 21 0 (0, 6) rfl
  obtain ⟨y22, hy22⟩ : ∃ z : Int32, z = pj_fi G18 2 4 := ⟨_, rfl⟩
  have ey22 : (pj_fi G18 2 4).toInt = y22.toInt := by rw [hy22]
  have ry22 : (-1 : Int) ≤ y22.toInt ∧ y22.toInt ≤ 80 := by rw [hy22]; exact iG18.2.1 2 4 (-1, 80) rfl
  obtain ⟨y23, hy23⟩ : ∃ z : Int32, z = pj_fi G18 2 1 := ⟨_, rfl⟩
  have ey23 : (pj_fi G18 2 1).toInt = y23.toInt := by rw [hy23]
  have ry23 : (0 : Int) ≤ y23.toInt ∧ y23.toInt ≤ 80 := by rw [hy23]; exact iG18.2.1 2 1 (0, 80) rfl
  show pj_X _ _ G18 20 [(0, .ref 1)] [.int y17] _
  refine pj_X_of (fun r h => pj_R_to (G18, 22, [(1, .int y17), (0, .ref 1)], [.ref 1], 0, 0) 22 3 (fun _ => rfl) h) ?_
  refine pj_X_of (fun r h => pj_T_gr iG18 rfl rfl rfl h) ?_
  have q24 : (pj_fi G18 21 0).toInt = y21.toInt := by rw [show pj_fi G18 21 0 = y21 from hy21.symm]
  have q25 : (pj_fi G18 2 4).toInt = y22.toInt := by rw [show pj_fi G18 2 4 = y22 from hy22.symm]
  have q26 : (pj_fi G18 2 1).toInt = y23.toInt := by rw [show pj_fi G18 2 1 = y23 from hy23.symm]
  refine pj_X_ca (vs := [.ref 2]) rfl (fun _ => rfl) ⟨Nat.le_of_ble_eq_true rfl, Nat.le_of_ble_eq_true rfl, pj_T_rcv iG18 rfl⟩ ⟨rfl, rfl⟩ (pj_Y_up (by decide) (ct_88tx G18 iG18)) ?_
  rintro _ G28 ⟨y27, rfl, iG28, jG28, ry27, ey27, fy27⟩
  replace ey27 := ey27 _ rfl
  rw [← fy27, pj_bd_e]
  have kG28 : pj_kpt kc_120tx G0 G28 := pj_kpt_t kG18 (pj_kpt_s jG28 rfl)
  have q29 : (pj_fi G28 21 0).toInt = (pj_fi G18 21 0).toInt := by rw [jG28.1 (21, 0) (by decide)]
  obtain ⟨y30, hy30⟩ : ∃ z : Int32, z = pj_fi G28 21 0 := ⟨_, rfl⟩
  have ey30 : (pj_fi G28 21 0).toInt = y30.toInt := by rw [hy30]
  have ry30 : (0 : Int) ≤ y30.toInt ∧ y30.toInt ≤ 6 := by rw [hy30]; exact iG28.2.1 21 0 (0, 6) rfl
  obtain ⟨y31, hy31⟩ : ∃ z : Int32, z = pj_fi G28 2 4 := ⟨_, rfl⟩
  have ey31 : (pj_fi G28 2 4).toInt = y31.toInt := by rw [hy31]
  have ry31 : (-1 : Int) ≤ y31.toInt ∧ y31.toInt ≤ 80 := by rw [hy31]; exact iG28.2.1 2 4 (-1, 80) rfl
  obtain ⟨y32, hy32⟩ : ∃ z : Int32, z = pj_fi G28 2 1 := ⟨_, rfl⟩
  have ey32 : (pj_fi G28 2 1).toInt = y32.toInt := by rw [hy32]
  have ry32 : (0 : Int) ≤ y32.toInt ∧ y32.toInt ≤ 80 := by rw [hy32]; exact iG28.2.1 2 1 (0, 80) rfl
  show pj_X _ _ G28 28 [(1, .int y17), (0, .ref 1)] [.int y27] _
  refine pj_X_of (fun r h => pj_R_to (G28, 31, [(2, .int y27), (1, .int y17), (0, .ref 1)], [.int (Int32.ofInt (-1)), .int y27], 0, 0) 31 4 (fun _ => rfl) h) ?_
  cases b33 : pj_c1 .eq y27 (Int32.ofInt (-1)) with
  | true =>
    rw [pj_cT]
    have ub33 := pj_u_eqT b33
    refine pj_X_of (fun r h => pj_R_icT 39 rfl rfl b33 h) ?_
    refine pj_X_of (fun r h => pj_R_to (G28, 40, [(2, .int y27), (1, .int y17), (0, .ref 1)], [.ref 1], 0, 0) 40 2 (fun _ => rfl) h) ?_
    refine pj_X_of (fun r h => pj_T_gr iG28 rfl rfl rfl h) ?_
    refine pj_X_of (fun r h => pj_T_gr iG28 rfl rfl rfl h) ?_
    refine pj_X_of (fun r h => pj_R_to (G28, 47, [(2, .int y27), (1, .int y17), (0, .ref 1)], [.ref 21, .ref 21], 0, 0) 47 2 (fun _ => rfl) h) ?_
    refine pj_X_of (fun r h => pj_T_gi iG28 rfl rfl h) ?_
    show pj_X _ _ G28 50 [(2, .int y27), (1, .int y17), (0, .ref 1)] [.int (pj_fi G28 21 0), .ref 21] _
    rw [← hy30, pj_nm_e]
    refine pj_X_of (fun r h => pj_R_to (G28, 52, [(2, .int y27), (1, .int y17), (0, .ref 1)], [.int (y30 + y17), .ref 21], 0, 0) 52 3 (fun _ => rfl) h) ?_
    obtain ⟨z34, hz34⟩ : ∃ z : Int32, z = y30 + y17 := ⟨_, rfl⟩
    refine pj_X_eqi hz34.symm ?_
    rw [← hz34, pj_nm_e]
    have fz34_0 : z34.toInt = y30.toInt + y17.toInt := by rw [hz34]; exact pj_addI (by have := pj_i32 y30; have := pj_i32 y17; omega) (by have := pj_i32 y30; have := pj_i32 y17; omega)
    refine pj_X_of (fun r h => pj_T_pf iG28 rfl rfl rfl h) ?_
    show pj_X _ _ (pj_wv G28 21 0 (.int z34)) 55 [(2, .int y27), (1, .int y17), (0, .ref 1)] [] _
    obtain ⟨G35, hG35⟩ : ∃ H, H = pj_wv G28 21 0 (.int z34) := ⟨_, rfl⟩
    have iG35 : pj_Inv G35 := by rw [hG35]; exact pj_Inv_wi iG28 (ci := 8) rfl (fun q hq => by cases hq; exact ⟨by show (0 : Int) ≤ _; omega, by show _ ≤ (6 : Int); omega⟩)
    have kG35 : pj_kpt kc_120tx G0 G35 := by rw [hG35]; exact pj_kpt_v kG28 rfl
    rw [← hG35]
    rw [pj_nm_e]
    refine pj_X_of (fun r h => pj_R_to (G35, 57, [(2, .int y27), (1, .int y17), (0, .ref 1)], [.int y17, .ref 1], 0, 0) 57 3 (fun _ => rfl) h) ?_
    cases b36 : pj_c1 .le y17 0 with
    | true =>
      rw [pj_cT]
      have ub36 := pj_u0_leT b36
      refine pj_X_of (fun r h => pj_R_ifT 64 rfl rfl b36 h) ?_
      refine pj_X_of (fun r h => pj_R_to (G35, 65, [(2, .int y27), (1, .int y17), (0, .ref 1)], [.int (Int32.ofInt 0), .ref 1], 0, 0) 65 2 (fun _ => rfl) h) ?_
      have q37 : (pj_fi G35 21 0).toInt = z34.toInt := by rw [show pj_fi G35 21 0 = z34 from by rw [hG35]; exact pj_fi_wi iG28.1 (ci := 8) rfl _]
      have q38 : (pj_fi G35 2 4).toInt = y31.toInt := by rw [show pj_fi G35 2 4 = y31 from by rw [hG35, pj_fi_wv_ne _ _ _ _ _ _ (by decide)]; exact hy31.symm]
      have q39 : (pj_fi G35 2 1).toInt = y32.toInt := by rw [show pj_fi G35 2 1 = y32 from by rw [hG35, pj_fi_wv_ne _ _ _ _ _ _ (by decide)]; exact hy32.symm]
      refine pj_X_ca (vs := [.ref 1, .int (Int32.ofInt 0)]) rfl (fun _ => rfl) ⟨Nat.le_of_ble_eq_true rfl, Nat.le_of_ble_eq_true rfl, pj_T_rcv iG35 rfl⟩ ⟨rfl, rfl⟩ (pj_Y_up (by decide) (ct_161x G35 iG35 (Int32.ofInt 0) ⟨by omega, by omega⟩)) ?_
      rintro _ G41 ⟨rfl, iG41, jG41, fy40⟩
      rw [← fy40, pj_nm_e]
      have kG41 : pj_kpt kc_120tx G0 G41 := pj_kpt_t kG35 (pj_kpt_s jG41 rfl)
      have q42 : (pj_fi G41 21 0).toInt = (pj_fi G35 21 0).toInt := by rw [jG41.1 (21, 0) (by decide)]
      have q43 : (pj_fi G41 2 4).toInt = (pj_fi G35 2 4).toInt := by rw [jG41.1 (2, 4) (by decide)]
      have q44 : (pj_fi G41 2 1).toInt = (pj_fi G35 2 1).toInt := by rw [jG41.1 (2, 1) (by decide)]
      obtain ⟨y45, hy45⟩ : ∃ z : Int32, z = pj_fi G41 21 0 := ⟨_, rfl⟩
      have ey45 : (pj_fi G41 21 0).toInt = y45.toInt := by rw [hy45]
      have ry45 : (0 : Int) ≤ y45.toInt ∧ y45.toInt ≤ 6 := by rw [hy45]; exact iG41.2.1 21 0 (0, 6) rfl
      obtain ⟨y46, hy46⟩ : ∃ z : Int32, z = pj_fi G41 2 4 := ⟨_, rfl⟩
      have ey46 : (pj_fi G41 2 4).toInt = y46.toInt := by rw [hy46]
      have ry46 : (-1 : Int) ≤ y46.toInt ∧ y46.toInt ≤ 80 := by rw [hy46]; exact iG41.2.1 2 4 (-1, 80) rfl
      obtain ⟨y47, hy47⟩ : ∃ z : Int32, z = pj_fi G41 2 1 := ⟨_, rfl⟩
      have ey47 : (pj_fi G41 2 1).toInt = y47.toInt := by rw [hy47]
      have ry47 : (0 : Int) ≤ y47.toInt ∧ y47.toInt ≤ 80 := by rw [hy47]; exact iG41.2.1 2 1 (0, 80) rfl
      show pj_X _ _ G41 68 [(2, .int y27), (1, .int y17), (0, .ref 1)] [] _
      refine pj_X_of (fun r h => pj_R_to (G41, 69, [(2, .int y27), (1, .int y17), (0, .ref 1)], [.int y17], 0, 0) 69 2 (fun _ => rfl) h) ?_
      have q48 : (pj_fi G41 21 0).toInt = y45.toInt := by rw [show pj_fi G41 21 0 = y45 from hy45.symm]
      have q49 : (pj_fi G41 2 4).toInt = y46.toInt := by rw [show pj_fi G41 2 4 = y46 from hy46.symm]
      have q50 : (pj_fi G41 2 1).toInt = y47.toInt := by rw [show pj_fi G41 2 1 = y47 from hy47.symm]
      exact pj_X_rt rfl rfl ⟨_, rfl, iG41, kG41, pj_i32 _, by omega, rfl⟩
    | false =>
      rw [pj_cF]
      have ub36 := pj_u0_leF b36
      refine pj_X_of (fun r h => pj_R_ifF rfl b36 h) ?_
      refine pj_X_of (fun r h => pj_R_to (G35, 65, [(2, .int y27), (1, .int y17), (0, .ref 1)], [.int (Int32.ofInt 1), .ref 1], 0, 0) 65 3 (fun _ => rfl) h) ?_
      have q51 : (pj_fi G35 21 0).toInt = z34.toInt := by rw [show pj_fi G35 21 0 = z34 from by rw [hG35]; exact pj_fi_wi iG28.1 (ci := 8) rfl _]
      have q52 : (pj_fi G35 2 4).toInt = y31.toInt := by rw [show pj_fi G35 2 4 = y31 from by rw [hG35, pj_fi_wv_ne _ _ _ _ _ _ (by decide)]; exact hy31.symm]
      have q53 : (pj_fi G35 2 1).toInt = y32.toInt := by rw [show pj_fi G35 2 1 = y32 from by rw [hG35, pj_fi_wv_ne _ _ _ _ _ _ (by decide)]; exact hy32.symm]
      refine pj_X_ca (vs := [.ref 1, .int (Int32.ofInt 1)]) rfl (fun _ => rfl) ⟨Nat.le_of_ble_eq_true rfl, Nat.le_of_ble_eq_true rfl, pj_T_rcv iG35 rfl⟩ ⟨rfl, rfl⟩ (pj_Y_up (by decide) (ct_161x G35 iG35 (Int32.ofInt 1) ⟨by omega, by omega⟩)) ?_
      rintro _ G55 ⟨rfl, iG55, jG55, fy54⟩
      rw [← fy54, pj_nm_e]
      have kG55 : pj_kpt kc_120tx G0 G55 := pj_kpt_t kG35 (pj_kpt_s jG55 rfl)
      have q56 : (pj_fi G55 21 0).toInt = (pj_fi G35 21 0).toInt := by rw [jG55.1 (21, 0) (by decide)]
      have q57 : (pj_fi G55 2 4).toInt = (pj_fi G35 2 4).toInt := by rw [jG55.1 (2, 4) (by decide)]
      have q58 : (pj_fi G55 2 1).toInt = (pj_fi G35 2 1).toInt := by rw [jG55.1 (2, 1) (by decide)]
      obtain ⟨y59, hy59⟩ : ∃ z : Int32, z = pj_fi G55 21 0 := ⟨_, rfl⟩
      have ey59 : (pj_fi G55 21 0).toInt = y59.toInt := by rw [hy59]
      have ry59 : (0 : Int) ≤ y59.toInt ∧ y59.toInt ≤ 6 := by rw [hy59]; exact iG55.2.1 21 0 (0, 6) rfl
      obtain ⟨y60, hy60⟩ : ∃ z : Int32, z = pj_fi G55 2 4 := ⟨_, rfl⟩
      have ey60 : (pj_fi G55 2 4).toInt = y60.toInt := by rw [hy60]
      have ry60 : (-1 : Int) ≤ y60.toInt ∧ y60.toInt ≤ 80 := by rw [hy60]; exact iG55.2.1 2 4 (-1, 80) rfl
      obtain ⟨y61, hy61⟩ : ∃ z : Int32, z = pj_fi G55 2 1 := ⟨_, rfl⟩
      have ey61 : (pj_fi G55 2 1).toInt = y61.toInt := by rw [hy61]
      have ry61 : (0 : Int) ≤ y61.toInt ∧ y61.toInt ≤ 80 := by rw [hy61]; exact iG55.2.1 2 1 (0, 80) rfl
      show pj_X _ _ G55 68 [(2, .int y27), (1, .int y17), (0, .ref 1)] [] _
      refine pj_X_of (fun r h => pj_R_to (G55, 69, [(2, .int y27), (1, .int y17), (0, .ref 1)], [.int y17], 0, 0) 69 2 (fun _ => rfl) h) ?_
      have q62 : (pj_fi G55 21 0).toInt = y59.toInt := by rw [show pj_fi G55 21 0 = y59 from hy59.symm]
      have q63 : (pj_fi G55 2 4).toInt = y60.toInt := by rw [show pj_fi G55 2 4 = y60 from hy60.symm]
      have q64 : (pj_fi G55 2 1).toInt = y61.toInt := by rw [show pj_fi G55 2 1 = y61 from hy61.symm]
      exact pj_X_rt rfl rfl ⟨_, rfl, iG55, kG55, pj_i32 _, by omega, rfl⟩
  | false =>
    rw [pj_cF]
    have ub33 := pj_u_eqF b33
    refine pj_X_of (fun r h => pj_R_icF rfl b33 h) ?_
    refine pj_X_of (fun r h => pj_R_to (G28, 35, [(2, .int y27), (1, .int y17), (0, .ref 1)], [.int y27], 0, 0) 35 2 (fun _ => rfl) h) ?_
    have q65 : (pj_fi G28 21 0).toInt = y30.toInt := by rw [show pj_fi G28 21 0 = y30 from hy30.symm]
    have q66 : (pj_fi G28 2 4).toInt = y31.toInt := by rw [show pj_fi G28 2 4 = y31 from hy31.symm]
    have q67 : (pj_fi G28 2 1).toInt = y32.toInt := by rw [show pj_fi G28 2 1 = y32 from hy32.symm]
    refine pj_X_ca (vs := [.int y27]) rfl (fun _ => rfl) ⟨Nat.le_of_ble_eq_true rfl, Nat.le_of_ble_eq_true rfl, rfl⟩ ⟨rfl, rfl⟩ (pj_Y_up (by decide) (ct_162x G28 iG28 y27)) ?_
    rintro _ _ ⟨y68, rfl, rfl, ry68, fy68⟩
    rw [← fy68, pj_nm_e]
    show pj_X _ _ G28 38 [(2, .int y27), (1, .int y17), (0, .ref 1)] [.int y68] _
    have q69 : (pj_fi G28 21 0).toInt = y30.toInt := by rw [show pj_fi G28 21 0 = y30 from hy30.symm]
    have q70 : (pj_fi G28 2 4).toInt = y31.toInt := by rw [show pj_fi G28 2 4 = y31 from hy31.symm]
    have q71 : (pj_fi G28 2 1).toInt = y32.toInt := by rw [show pj_fi G28 2 1 = y32 from hy32.symm]
    exact pj_X_rt rfl rfl ⟨_, rfl, iG28, kG28, pj_i32 _, by omega, rfl⟩
theorem fr_120tx (G0 : pj_G) (hI : pj_Inv G0) : pj_Inv (F_120tx G0).2 ∧ pj_kpt kc_120tx G0 (F_120tx G0).2 ∧ ((pj_fi (F_120tx G0).2 2 1).toInt = 0) := by
  obtain ⟨v, G', -, y, -, i, j, r, x, e⟩ := ct_120tx G0 hI 
  rw [← e]
  exact ⟨i, j, x⟩
def kc_121tx : pj_KT := ([(2, 1), (2, 2), (2, 3), (2, 4), (21, 5), (53, 2)], [2, 21, 26, 32, 53], [26, 32])
noncomputable def F_121tx (G0 : pj_G) : Int32 × pj_G := pj_nm (F_79x G0 ((Int8.ofInt 17).toInt32)) (fun G8 => pj_bd (F_92x G8) (fun y17 G18 => pj_bd (F_88tx G18) (fun y27 G28 => cond (pj_c1 .eq y27 (Int32.ofInt (-1))) (pj_nm (pj_fi G28 21 5) (fun y30 => pj_nm (y30 + y17) (fun z34 => pj_nm (pj_wv G28 21 5 (.int z34)) (fun G35 => cond (pj_c1 .le y17 0) (pj_nm (F_161x G35 (Int32.ofInt 0)) (fun G41 => (y17, G41))) (pj_nm (F_161x G35 (Int32.ofInt 1)) (fun G55 => (y17, G55))))))) (pj_nm (F_162x G28 y27) (fun y68 => (y68, G28))))))
theorem F_121tx_e (G0 : pj_G) : F_121tx G0 = pj_nm (F_79x G0 ((Int8.ofInt 17).toInt32)) (fun G8 => pj_bd (F_92x G8) (fun y17 G18 => pj_bd (F_88tx G18) (fun y27 G28 => cond (pj_c1 .eq y27 (Int32.ofInt (-1))) (pj_nm (pj_fi G28 21 5) (fun y30 => pj_nm (y30 + y17) (fun z34 => pj_nm (pj_wv G28 21 5 (.int z34)) (fun G35 => cond (pj_c1 .le y17 0) (pj_nm (F_161x G35 (Int32.ofInt 0)) (fun G41 => (y17, G41))) (pj_nm (F_161x G35 (Int32.ofInt 1)) (fun G55 => (y17, G55))))))) (pj_nm (F_162x G28 y27) (fun y68 => (y68, G28)))))) := rfl
theorem ct_121tx (G0 : pj_G) (hI : pj_Inv G0) : pj_Y 5 121 [.ref 1] G0 (fun v' G' => ∃ y : Int32, v' = some (.int y) ∧ pj_Inv G' ∧ pj_kpt kc_121tx G0 G' ∧ ((-2147483648 : Int) ≤ y.toInt ∧ y.toInt ≤ 2147483647) ∧ ((pj_fi G' 2 1).toInt = 0) ∧ ((y, G') = F_121tx G0)) := by
  have c0_ : ((Int8.ofInt 17).toInt32).toInt = 17 := by decide
  have c1_ : (Int32.ofInt (-1)).toInt = -1 := by decide
  have c2_ : (Int32.ofInt 0).toInt = 0 := by decide
  have c3_ : (Int32.ofInt 1).toInt = 1 := by decide
  refine pj_Y_X (M := pj_m121) rfl rfl (Nat.le_of_ble_eq_true rfl) ?_
  have hK : pj_kpt kc_121tx G0 G0 := pj_kpt_r _ _
  show pj_X _ _ G0 0 [(0, .ref 1)] [] _
  rw [F_121tx_e]
  obtain ⟨y1, hy1⟩ : ∃ z : Int32, z = pj_fi G0 21 5 := ⟨_, rfl⟩
  have ey1 : (pj_fi G0 21 5).toInt = y1.toInt := by rw [hy1]
  have ry1 : (0 : Int) ≤ y1.toInt ∧ y1.toInt ≤ 6 := by rw [hy1]; exact hI.2.1 21 5 (0, 6) rfl
  obtain ⟨y2, hy2⟩ : ∃ z : Int32, z = pj_fi G0 2 4 := ⟨_, rfl⟩
  have ey2 : (pj_fi G0 2 4).toInt = y2.toInt := by rw [hy2]
  have ry2 : (-1 : Int) ≤ y2.toInt ∧ y2.toInt ≤ 80 := by rw [hy2]; exact hI.2.1 2 4 (-1, 80) rfl
  obtain ⟨y3, hy3⟩ : ∃ z : Int32, z = pj_fi G0 2 1 := ⟨_, rfl⟩
  have ey3 : (pj_fi G0 2 1).toInt = y3.toInt := by rw [hy3]
  have ry3 : (0 : Int) ≤ y3.toInt ∧ y3.toInt ≤ 80 := by rw [hy3]; exact hI.2.1 2 1 (0, 80) rfl
  refine pj_X_of (fun r h => pj_R_to (G0, 1, [(0, .ref 1)], [.ref 1], 0, 0) 1 2 (fun _ => rfl) h) ?_
  refine pj_X_of (fun r h => pj_T_gr hI rfl rfl rfl h) ?_
  refine pj_X_of (fun r h => pj_R_to (G0, 6, [(0, .ref 1)], [.int ((Int8.ofInt 17).toInt32), .ref 2], 0, 0) 6 2 (fun _ => rfl) h) ?_
  have q4 : (pj_fi G0 21 5).toInt = y1.toInt := by rw [show pj_fi G0 21 5 = y1 from hy1.symm]
  have q5 : (pj_fi G0 2 4).toInt = y2.toInt := by rw [show pj_fi G0 2 4 = y2 from hy2.symm]
  have q6 : (pj_fi G0 2 1).toInt = y3.toInt := by rw [show pj_fi G0 2 1 = y3 from hy3.symm]
  refine pj_X_ca (vs := [.ref 2, .int ((Int8.ofInt 17).toInt32)]) rfl (fun _ => rfl) ⟨Nat.le_of_ble_eq_true rfl, Nat.le_of_ble_eq_true rfl, pj_T_rcv hI rfl⟩ ⟨rfl, rfl⟩ (pj_Y_up (by decide) (ct_79x G0 hI ((Int8.ofInt 17).toInt32) ⟨by omega, by omega⟩)) ?_
  rintro _ G8 ⟨rfl, iG8, jG8, eG8, fy7⟩
  replace eG8 := eG8 _ rfl
  rw [← fy7, pj_nm_e]
  have kG8 : pj_kpt kc_121tx G0 G8 := pj_kpt_t hK (pj_kpt_s jG8 rfl)
  have q9 : (pj_fi G8 21 5).toInt = (pj_fi G0 21 5).toInt := by rw [jG8.1 (21, 5) (by decide)]
  have q10 : (pj_fi G8 2 1).toInt = (pj_fi G0 2 1).toInt := by rw [jG8.1 (2, 1) (by decide)]
  obtain ⟨y11, hy11⟩ : ∃ z : Int32, z = pj_fi G8 21 5 := ⟨_, rfl⟩
  have ey11 : (pj_fi G8 21 5).toInt = y11.toInt := by rw [hy11]
  have ry11 : (0 : Int) ≤ y11.toInt ∧ y11.toInt ≤ 6 := by rw [hy11]; exact iG8.2.1 21 5 (0, 6) rfl
  obtain ⟨y12, hy12⟩ : ∃ z : Int32, z = pj_fi G8 2 4 := ⟨_, rfl⟩
  have ey12 : (pj_fi G8 2 4).toInt = y12.toInt := by rw [hy12]
  have ry12 : (-1 : Int) ≤ y12.toInt ∧ y12.toInt ≤ 80 := by rw [hy12]; exact iG8.2.1 2 4 (-1, 80) rfl
  obtain ⟨y13, hy13⟩ : ∃ z : Int32, z = pj_fi G8 2 1 := ⟨_, rfl⟩
  have ey13 : (pj_fi G8 2 1).toInt = y13.toInt := by rw [hy13]
  have ry13 : (0 : Int) ≤ y13.toInt ∧ y13.toInt ≤ 80 := by rw [hy13]; exact iG8.2.1 2 1 (0, 80) rfl
  show pj_X _ _ G8 9 [(0, .ref 1)] [] _
  refine pj_X_of (fun r h => pj_R_to (G8, 10, [(0, .ref 1)], [.ref 1], 0, 0) 10 2 (fun _ => rfl) h) ?_
  refine pj_X_of (fun r h => pj_T_gr iG8 rfl rfl rfl h) ?_
  refine pj_X_of (fun r h => pj_R_to (G8, 14, [(0, .ref 1)], [.ref 1, .ref 6], 0, 0) 14 2 (fun _ => rfl) h) ?_
  refine pj_X_of (fun r h => pj_T_gr iG8 rfl rfl rfl h) ?_
  have q14 : (pj_fi G8 21 5).toInt = y11.toInt := by rw [show pj_fi G8 21 5 = y11 from hy11.symm]
  have q15 : (pj_fi G8 2 4).toInt = y12.toInt := by rw [show pj_fi G8 2 4 = y12 from hy12.symm]
  have q16 : (pj_fi G8 2 1).toInt = y13.toInt := by rw [show pj_fi G8 2 1 = y13 from hy13.symm]
  refine pj_X_ca (vs := [.ref 6, .ref 2]) rfl (fun _ => rfl) ⟨Nat.le_of_ble_eq_true rfl, Nat.le_of_ble_eq_true rfl, pj_T_rcv iG8 rfl⟩ ⟨rfl, rfl⟩ (pj_Y_up (by decide) (ct_92x G8 iG8)) ?_
  rintro _ G18 ⟨y17, rfl, iG18, jG18, ry17, ey17, fy17⟩
  rw [← fy17, pj_bd_e]
  have kG18 : pj_kpt kc_121tx G0 G18 := pj_kpt_t kG8 (pj_kpt_s jG18 rfl)
  have q19 : (pj_fi G18 21 5).toInt = (pj_fi G8 21 5).toInt := by rw [jG18.1 (21, 5) (by decide)]
  have q20 : (pj_fi G18 2 1).toInt = (pj_fi G8 2 1).toInt := by rw [jG18.1 (2, 1) (by decide)]
  obtain ⟨y21, hy21⟩ : ∃ z : Int32, z = pj_fi G18 21 5 := ⟨_, rfl⟩
  have ey21 : (pj_fi G18 21 5).toInt = y21.toInt := by rw [hy21]
  have ry21 : (0 : Int) ≤ y21.toInt ∧ y21.toInt ≤ 6 := by rw [hy21]; exact iG18.2.1 21 5 (0, 6) rfl
  obtain ⟨y22, hy22⟩ : ∃ z : Int32, z = pj_fi G18 2 4 := ⟨_, rfl⟩
  have ey22 : (pj_fi G18 2 4).toInt = y22.toInt := by rw [hy22]
  have ry22 : (-1 : Int) ≤ y22.toInt ∧ y22.toInt ≤ 80 := by rw [hy22]; exact iG18.2.1 2 4 (-1, 80) rfl
  obtain ⟨y23, hy23⟩ : ∃ z : Int32, z = pj_fi G18 2 1 := ⟨_, rfl⟩
  have ey23 : (pj_fi G18 2 1).toInt = y23.toInt := by rw [hy23]
  have ry23 : (0 : Int) ≤ y23.toInt ∧ y23.toInt ≤ 80 := by rw [hy23]; exact iG18.2.1 2 1 (0, 80) rfl
  show pj_X _ _ G18 20 [(0, .ref 1)] [.int y17] _
  refine pj_X_of (fun r h => pj_R_to (G18, 22, [(1, .int y17), (0, .ref 1)], [.ref 1], 0, 0) 22 3 (fun _ => rfl) h) ?_
  refine pj_X_of (fun r h => pj_T_gr iG18 rfl rfl rfl h) ?_
  have q24 : (pj_fi G18 21 5).toInt = y21.toInt := by rw [show pj_fi G18 21 5 = y21 from hy21.symm]
  have q25 : (pj_fi G18 2 4).toInt = y22.toInt := by rw [show pj_fi G18 2 4 = y22 from hy22.symm]
  have q26 : (pj_fi G18 2 1).toInt = y23.toInt := by rw [show pj_fi G18 2 1 = y23 from hy23.symm]
  refine pj_X_ca (vs := [.ref 2]) rfl (fun _ => rfl) ⟨Nat.le_of_ble_eq_true rfl, Nat.le_of_ble_eq_true rfl, pj_T_rcv iG18 rfl⟩ ⟨rfl, rfl⟩ (pj_Y_up (by decide) (ct_88tx G18 iG18)) ?_
  rintro _ G28 ⟨y27, rfl, iG28, jG28, ry27, ey27, fy27⟩
  replace ey27 := ey27 _ rfl
  rw [← fy27, pj_bd_e]
  have kG28 : pj_kpt kc_121tx G0 G28 := pj_kpt_t kG18 (pj_kpt_s jG28 rfl)
  have q29 : (pj_fi G28 21 5).toInt = (pj_fi G18 21 5).toInt := by rw [jG28.1 (21, 5) (by decide)]
  obtain ⟨y30, hy30⟩ : ∃ z : Int32, z = pj_fi G28 21 5 := ⟨_, rfl⟩
  have ey30 : (pj_fi G28 21 5).toInt = y30.toInt := by rw [hy30]
  have ry30 : (0 : Int) ≤ y30.toInt ∧ y30.toInt ≤ 6 := by rw [hy30]; exact iG28.2.1 21 5 (0, 6) rfl
  obtain ⟨y31, hy31⟩ : ∃ z : Int32, z = pj_fi G28 2 4 := ⟨_, rfl⟩
  have ey31 : (pj_fi G28 2 4).toInt = y31.toInt := by rw [hy31]
  have ry31 : (-1 : Int) ≤ y31.toInt ∧ y31.toInt ≤ 80 := by rw [hy31]; exact iG28.2.1 2 4 (-1, 80) rfl
  obtain ⟨y32, hy32⟩ : ∃ z : Int32, z = pj_fi G28 2 1 := ⟨_, rfl⟩
  have ey32 : (pj_fi G28 2 1).toInt = y32.toInt := by rw [hy32]
  have ry32 : (0 : Int) ≤ y32.toInt ∧ y32.toInt ≤ 80 := by rw [hy32]; exact iG28.2.1 2 1 (0, 80) rfl
  show pj_X _ _ G28 28 [(1, .int y17), (0, .ref 1)] [.int y27] _
  refine pj_X_of (fun r h => pj_R_to (G28, 31, [(2, .int y27), (1, .int y17), (0, .ref 1)], [.int (Int32.ofInt (-1)), .int y27], 0, 0) 31 4 (fun _ => rfl) h) ?_
  cases b33 : pj_c1 .eq y27 (Int32.ofInt (-1)) with
  | true =>
    rw [pj_cT]
    have ub33 := pj_u_eqT b33
    refine pj_X_of (fun r h => pj_R_icT 39 rfl rfl b33 h) ?_
    refine pj_X_of (fun r h => pj_R_to (G28, 40, [(2, .int y27), (1, .int y17), (0, .ref 1)], [.ref 1], 0, 0) 40 2 (fun _ => rfl) h) ?_
    refine pj_X_of (fun r h => pj_T_gr iG28 rfl rfl rfl h) ?_
    refine pj_X_of (fun r h => pj_T_gr iG28 rfl rfl rfl h) ?_
    refine pj_X_of (fun r h => pj_R_to (G28, 47, [(2, .int y27), (1, .int y17), (0, .ref 1)], [.ref 21, .ref 21], 0, 0) 47 2 (fun _ => rfl) h) ?_
    refine pj_X_of (fun r h => pj_T_gi iG28 rfl rfl h) ?_
    show pj_X _ _ G28 50 [(2, .int y27), (1, .int y17), (0, .ref 1)] [.int (pj_fi G28 21 5), .ref 21] _
    rw [← hy30, pj_nm_e]
    refine pj_X_of (fun r h => pj_R_to (G28, 52, [(2, .int y27), (1, .int y17), (0, .ref 1)], [.int (y30 + y17), .ref 21], 0, 0) 52 3 (fun _ => rfl) h) ?_
    obtain ⟨z34, hz34⟩ : ∃ z : Int32, z = y30 + y17 := ⟨_, rfl⟩
    refine pj_X_eqi hz34.symm ?_
    rw [← hz34, pj_nm_e]
    have fz34_0 : z34.toInt = y30.toInt + y17.toInt := by rw [hz34]; exact pj_addI (by have := pj_i32 y30; have := pj_i32 y17; omega) (by have := pj_i32 y30; have := pj_i32 y17; omega)
    refine pj_X_of (fun r h => pj_T_pf iG28 rfl rfl rfl h) ?_
    show pj_X _ _ (pj_wv G28 21 5 (.int z34)) 55 [(2, .int y27), (1, .int y17), (0, .ref 1)] [] _
    obtain ⟨G35, hG35⟩ : ∃ H, H = pj_wv G28 21 5 (.int z34) := ⟨_, rfl⟩
    have iG35 : pj_Inv G35 := by rw [hG35]; exact pj_Inv_wi iG28 (ci := 8) rfl (fun q hq => by cases hq; exact ⟨by show (0 : Int) ≤ _; omega, by show _ ≤ (6 : Int); omega⟩)
    have kG35 : pj_kpt kc_121tx G0 G35 := by rw [hG35]; exact pj_kpt_v kG28 rfl
    rw [← hG35]
    rw [pj_nm_e]
    refine pj_X_of (fun r h => pj_R_to (G35, 57, [(2, .int y27), (1, .int y17), (0, .ref 1)], [.int y17, .ref 1], 0, 0) 57 3 (fun _ => rfl) h) ?_
    cases b36 : pj_c1 .le y17 0 with
    | true =>
      rw [pj_cT]
      have ub36 := pj_u0_leT b36
      refine pj_X_of (fun r h => pj_R_ifT 64 rfl rfl b36 h) ?_
      refine pj_X_of (fun r h => pj_R_to (G35, 65, [(2, .int y27), (1, .int y17), (0, .ref 1)], [.int (Int32.ofInt 0), .ref 1], 0, 0) 65 2 (fun _ => rfl) h) ?_
      have q37 : (pj_fi G35 21 5).toInt = z34.toInt := by rw [show pj_fi G35 21 5 = z34 from by rw [hG35]; exact pj_fi_wi iG28.1 (ci := 8) rfl _]
      have q38 : (pj_fi G35 2 4).toInt = y31.toInt := by rw [show pj_fi G35 2 4 = y31 from by rw [hG35, pj_fi_wv_ne _ _ _ _ _ _ (by decide)]; exact hy31.symm]
      have q39 : (pj_fi G35 2 1).toInt = y32.toInt := by rw [show pj_fi G35 2 1 = y32 from by rw [hG35, pj_fi_wv_ne _ _ _ _ _ _ (by decide)]; exact hy32.symm]
      refine pj_X_ca (vs := [.ref 1, .int (Int32.ofInt 0)]) rfl (fun _ => rfl) ⟨Nat.le_of_ble_eq_true rfl, Nat.le_of_ble_eq_true rfl, pj_T_rcv iG35 rfl⟩ ⟨rfl, rfl⟩ (pj_Y_up (by decide) (ct_161x G35 iG35 (Int32.ofInt 0) ⟨by omega, by omega⟩)) ?_
      rintro _ G41 ⟨rfl, iG41, jG41, fy40⟩
      rw [← fy40, pj_nm_e]
      have kG41 : pj_kpt kc_121tx G0 G41 := pj_kpt_t kG35 (pj_kpt_s jG41 rfl)
      have q42 : (pj_fi G41 21 5).toInt = (pj_fi G35 21 5).toInt := by rw [jG41.1 (21, 5) (by decide)]
      have q43 : (pj_fi G41 2 4).toInt = (pj_fi G35 2 4).toInt := by rw [jG41.1 (2, 4) (by decide)]
      have q44 : (pj_fi G41 2 1).toInt = (pj_fi G35 2 1).toInt := by rw [jG41.1 (2, 1) (by decide)]
      obtain ⟨y45, hy45⟩ : ∃ z : Int32, z = pj_fi G41 21 5 := ⟨_, rfl⟩
      have ey45 : (pj_fi G41 21 5).toInt = y45.toInt := by rw [hy45]
      have ry45 : (0 : Int) ≤ y45.toInt ∧ y45.toInt ≤ 6 := by rw [hy45]; exact iG41.2.1 21 5 (0, 6) rfl
      obtain ⟨y46, hy46⟩ : ∃ z : Int32, z = pj_fi G41 2 4 := ⟨_, rfl⟩
      have ey46 : (pj_fi G41 2 4).toInt = y46.toInt := by rw [hy46]
      have ry46 : (-1 : Int) ≤ y46.toInt ∧ y46.toInt ≤ 80 := by rw [hy46]; exact iG41.2.1 2 4 (-1, 80) rfl
      obtain ⟨y47, hy47⟩ : ∃ z : Int32, z = pj_fi G41 2 1 := ⟨_, rfl⟩
      have ey47 : (pj_fi G41 2 1).toInt = y47.toInt := by rw [hy47]
      have ry47 : (0 : Int) ≤ y47.toInt ∧ y47.toInt ≤ 80 := by rw [hy47]; exact iG41.2.1 2 1 (0, 80) rfl
      show pj_X _ _ G41 68 [(2, .int y27), (1, .int y17), (0, .ref 1)] [] _
      refine pj_X_of (fun r h => pj_R_to (G41, 69, [(2, .int y27), (1, .int y17), (0, .ref 1)], [.int y17], 0, 0) 69 2 (fun _ => rfl) h) ?_
      have q48 : (pj_fi G41 21 5).toInt = y45.toInt := by rw [show pj_fi G41 21 5 = y45 from hy45.symm]
      have q49 : (pj_fi G41 2 4).toInt = y46.toInt := by rw [show pj_fi G41 2 4 = y46 from hy46.symm]
      have q50 : (pj_fi G41 2 1).toInt = y47.toInt := by rw [show pj_fi G41 2 1 = y47 from hy47.symm]
      exact pj_X_rt rfl rfl ⟨_, rfl, iG41, kG41, pj_i32 _, by omega, rfl⟩
    | false =>
      rw [pj_cF]
      have ub36 := pj_u0_leF b36
      refine pj_X_of (fun r h => pj_R_ifF rfl b36 h) ?_
      refine pj_X_of (fun r h => pj_R_to (G35, 65, [(2, .int y27), (1, .int y17), (0, .ref 1)], [.int (Int32.ofInt 1), .ref 1], 0, 0) 65 3 (fun _ => rfl) h) ?_
      have q51 : (pj_fi G35 21 5).toInt = z34.toInt := by rw [show pj_fi G35 21 5 = z34 from by rw [hG35]; exact pj_fi_wi iG28.1 (ci := 8) rfl _]
      have q52 : (pj_fi G35 2 4).toInt = y31.toInt := by rw [show pj_fi G35 2 4 = y31 from by rw [hG35, pj_fi_wv_ne _ _ _ _ _ _ (by decide)]; exact hy31.symm]
      have q53 : (pj_fi G35 2 1).toInt = y32.toInt := by rw [show pj_fi G35 2 1 = y32 from by rw [hG35, pj_fi_wv_ne _ _ _ _ _ _ (by decide)]; exact hy32.symm]
      refine pj_X_ca (vs := [.ref 1, .int (Int32.ofInt 1)]) rfl (fun _ => rfl) ⟨Nat.le_of_ble_eq_true rfl, Nat.le_of_ble_eq_true rfl, pj_T_rcv iG35 rfl⟩ ⟨rfl, rfl⟩ (pj_Y_up (by decide) (ct_161x G35 iG35 (Int32.ofInt 1) ⟨by omega, by omega⟩)) ?_
      rintro _ G55 ⟨rfl, iG55, jG55, fy54⟩
      rw [← fy54, pj_nm_e]
      have kG55 : pj_kpt kc_121tx G0 G55 := pj_kpt_t kG35 (pj_kpt_s jG55 rfl)
      have q56 : (pj_fi G55 21 5).toInt = (pj_fi G35 21 5).toInt := by rw [jG55.1 (21, 5) (by decide)]
      have q57 : (pj_fi G55 2 4).toInt = (pj_fi G35 2 4).toInt := by rw [jG55.1 (2, 4) (by decide)]
      have q58 : (pj_fi G55 2 1).toInt = (pj_fi G35 2 1).toInt := by rw [jG55.1 (2, 1) (by decide)]
      obtain ⟨y59, hy59⟩ : ∃ z : Int32, z = pj_fi G55 21 5 := ⟨_, rfl⟩
      have ey59 : (pj_fi G55 21 5).toInt = y59.toInt := by rw [hy59]
      have ry59 : (0 : Int) ≤ y59.toInt ∧ y59.toInt ≤ 6 := by rw [hy59]; exact iG55.2.1 21 5 (0, 6) rfl
      obtain ⟨y60, hy60⟩ : ∃ z : Int32, z = pj_fi G55 2 4 := ⟨_, rfl⟩
      have ey60 : (pj_fi G55 2 4).toInt = y60.toInt := by rw [hy60]
      have ry60 : (-1 : Int) ≤ y60.toInt ∧ y60.toInt ≤ 80 := by rw [hy60]; exact iG55.2.1 2 4 (-1, 80) rfl
      obtain ⟨y61, hy61⟩ : ∃ z : Int32, z = pj_fi G55 2 1 := ⟨_, rfl⟩
      have ey61 : (pj_fi G55 2 1).toInt = y61.toInt := by rw [hy61]
      have ry61 : (0 : Int) ≤ y61.toInt ∧ y61.toInt ≤ 80 := by rw [hy61]; exact iG55.2.1 2 1 (0, 80) rfl
      show pj_X _ _ G55 68 [(2, .int y27), (1, .int y17), (0, .ref 1)] [] _
      refine pj_X_of (fun r h => pj_R_to (G55, 69, [(2, .int y27), (1, .int y17), (0, .ref 1)], [.int y17], 0, 0) 69 2 (fun _ => rfl) h) ?_
      have q62 : (pj_fi G55 21 5).toInt = y59.toInt := by rw [show pj_fi G55 21 5 = y59 from hy59.symm]
      have q63 : (pj_fi G55 2 4).toInt = y60.toInt := by rw [show pj_fi G55 2 4 = y60 from hy60.symm]
      have q64 : (pj_fi G55 2 1).toInt = y61.toInt := by rw [show pj_fi G55 2 1 = y61 from hy61.symm]
      exact pj_X_rt rfl rfl ⟨_, rfl, iG55, kG55, pj_i32 _, by omega, rfl⟩
  | false =>
    rw [pj_cF]
    have ub33 := pj_u_eqF b33
    refine pj_X_of (fun r h => pj_R_icF rfl b33 h) ?_
    refine pj_X_of (fun r h => pj_R_to (G28, 35, [(2, .int y27), (1, .int y17), (0, .ref 1)], [.int y27], 0, 0) 35 2 (fun _ => rfl) h) ?_
    have q65 : (pj_fi G28 21 5).toInt = y30.toInt := by rw [show pj_fi G28 21 5 = y30 from hy30.symm]
    have q66 : (pj_fi G28 2 4).toInt = y31.toInt := by rw [show pj_fi G28 2 4 = y31 from hy31.symm]
    have q67 : (pj_fi G28 2 1).toInt = y32.toInt := by rw [show pj_fi G28 2 1 = y32 from hy32.symm]
    refine pj_X_ca (vs := [.int y27]) rfl (fun _ => rfl) ⟨Nat.le_of_ble_eq_true rfl, Nat.le_of_ble_eq_true rfl, rfl⟩ ⟨rfl, rfl⟩ (pj_Y_up (by decide) (ct_162x G28 iG28 y27)) ?_
    rintro _ _ ⟨y68, rfl, rfl, ry68, fy68⟩
    rw [← fy68, pj_nm_e]
    show pj_X _ _ G28 38 [(2, .int y27), (1, .int y17), (0, .ref 1)] [.int y68] _
    have q69 : (pj_fi G28 21 5).toInt = y30.toInt := by rw [show pj_fi G28 21 5 = y30 from hy30.symm]
    have q70 : (pj_fi G28 2 4).toInt = y31.toInt := by rw [show pj_fi G28 2 4 = y31 from hy31.symm]
    have q71 : (pj_fi G28 2 1).toInt = y32.toInt := by rw [show pj_fi G28 2 1 = y32 from hy32.symm]
    exact pj_X_rt rfl rfl ⟨_, rfl, iG28, kG28, pj_i32 _, by omega, rfl⟩
theorem fr_121tx (G0 : pj_G) (hI : pj_Inv G0) : pj_Inv (F_121tx G0).2 ∧ pj_kpt kc_121tx G0 (F_121tx G0).2 ∧ ((pj_fi (F_121tx G0).2 2 1).toInt = 0) := by
  obtain ⟨v, G', -, y, -, i, j, r, x, e⟩ := ct_121tx G0 hI 
  rw [← e]
  exact ⟨i, j, x⟩
