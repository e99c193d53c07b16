def kc_64_4 : pj_KT := ([(2, 3), (2, 4), (27, 3)], [2, 27, 28, 29], [28, 29])
theorem ct_64_4 (G0 : pj_G) (hI : pj_Inv G0) (dp : Int32) (rdp : (4 : Int) ≤ dp.toInt ∧ dp.toInt ≤ 4) : pj_Y 17 64 [.ref 27, .ref 2, .int dp] G0 (fun v G' => v = none ∧ pj_Inv G' ∧ pj_kpt kc_64_4 G0 G') := by
  have c0_ : ((Int16.ofInt 1000).toInt32).toInt = 1000 := by decide
  have c1_ : (Int32.ofInt (-1)).toInt = -1 := by decide
  have c2_ : (Int32.ofInt 3).toInt = 3 := by decide
  have c3_ : (Int32.ofInt 4).toInt = 4 := by decide
  refine pj_Y_X (M := pj_m64) rfl rfl (Nat.le_of_ble_eq_true rfl) ?_
  have hK : pj_kpt kc_64_4 G0 G0 := pj_kpt_r _ _
  show pj_X _ _ G0 0 [(0, .ref 27), (1, .ref 2), (2, .int dp)] [] _
  refine pj_X_of (fun r h => pj_R_to (G0, 1, [(0, .ref 27), (1, .ref 2), (2, .int dp)], [.ref 2], 0, 0) 1 2 (fun _ => rfl) h) ?_
  refine pj_X_ca (vs := [.ref 2]) rfl (fun _ => rfl) ⟨Nat.le_of_ble_eq_true rfl, Nat.le_of_ble_eq_true rfl, pj_T_rcv hI rfl⟩ ⟨rfl, rfl⟩ (pj_Y_up (by decide) (ct_85 G0 hI)) ?_
  rintro _ _ ⟨y1, rfl, rfl, ry1⟩
  show pj_X _ _ G0 4 [(0, .ref 27), (1, .ref 2), (2, .int dp)] [.int y1] _
  cases b2 : pj_c1 .eq y1 0 with
  | true =>
    have ub2 := pj_u0_eqT b2
    refine pj_X_of (fun r h => pj_R_ifT 19 rfl rfl b2 h) ?_
    refine pj_X_of (fun r h => pj_R_to (G0, 21, [(0, .ref 27), (1, .ref 2), (2, .int dp)], [.int (Int32.ofInt 4), .int dp], 0, 0) 21 3 (fun _ => rfl) h) ?_
    refine pj_X_of (fun r h => pj_R_icT 54 rfl rfl (pj_b_geT (by omega)) h) ?_
    refine pj_X_of (fun r h => pj_R_to (G0, 57, [(0, .ref 27), (1, .ref 2), (2, .int dp)], [.retAddr 8, .ref 2], 0, 0) 57 3 (fun _ => rfl) h) ?_
    refine pj_X_ca (vs := [.ref 2, .retAddr 8]) rfl (fun _ => rfl) ⟨Nat.le_of_ble_eq_true rfl, Nat.le_of_ble_eq_true rfl, pj_T_rcv hI rfl⟩ ⟨rfl, rfl⟩ (pj_Y_up (by decide) (ct_84_s8 G0 hI)) ?_
    rintro _ G4 ⟨y3, rfl, iG4, jG4, ry3⟩
    have kG4 : pj_kpt kc_64_4 G0 G4 := pj_kpt_t hK (pj_kpt_s jG4 rfl)
    show pj_X _ _ G4 60 [(0, .ref 27), (1, .ref 2), (2, .int dp)] [.int y3] _
    refine pj_X_of (fun r h => pj_R_to (G4, 63, [(3, .int y3), (0, .ref 27), (1, .ref 2), (2, .int dp)], [.int (Int32.ofInt (-1)), .int y3], 0, 0) 63 4 (fun _ => rfl) h) ?_
    cases b5 : pj_c1 .ne y3 (Int32.ofInt (-1)) with
    | true =>
      have ub5 := pj_u_neT b5
      refine pj_X_of (fun r h => pj_R_icT 73 rfl rfl b5 h) ?_
      refine pj_X_of (fun r h => pj_R_to (G4, 81, [(3, .int y3), (0, .ref 27), (1, .ref 2), (2, .int dp)], [.int ((y3.toUInt32 % 65536).toInt32), .retAddr 8, .int ((Int16.ofInt 1000).toInt32), .ref 27], 0, 0) 81 6 (fun _ => rfl) h) ?_
      obtain ⟨z6, hz6⟩ : ∃ z : Int32, z = (y3.toUInt32 % 65536).toInt32 := ⟨_, rfl⟩
      rw [← hz6]
      have fz6_0 : z6.toInt = y3.toInt := by rw [hz6]; exact pj_i2cI (by omega) (by omega)
      refine pj_X_ca (vs := [.retAddr 8, .int z6]) rfl (fun _ => rfl) ⟨Nat.le_of_ble_eq_true rfl, Nat.le_of_ble_eq_true rfl, rfl⟩ ⟨rfl, rfl⟩ (pj_Y_up (by decide) (ct_290_s8 G4 iG4 z6 ⟨by omega, by omega⟩)) ?_
      rintro _ _ ⟨y7, rfl, rfl, ry7⟩
      show pj_X _ _ G4 84 [(3, .int y3), (0, .ref 27), (1, .ref 2), (2, .int dp)] [.int y7, .int ((Int16.ofInt 1000).toInt32), .ref 27] _
      refine pj_X_of (fun r h => pj_R_to (G4, 85, [(3, .int y3), (0, .ref 27), (1, .ref 2), (2, .int dp)], [.int (((Int16.ofInt 1000).toInt32) + y7), .ref 27], 0, 0) 85 2 (fun _ => rfl) h) ?_
      obtain ⟨z8, hz8⟩ : ∃ z : Int32, z = ((Int16.ofInt 1000).toInt32) + y7 := ⟨_, rfl⟩
      rw [← hz8]
      have fz8_0 : z8.toInt = ((Int16.ofInt 1000).toInt32).toInt + y7.toInt := by rw [hz8]; exact pj_addI (by have := pj_i32 ((Int16.ofInt 1000).toInt32); have := pj_i32 y7; omega) (by have := pj_i32 ((Int16.ofInt 1000).toInt32); have := pj_i32 y7; omega)
      refine pj_X_ca (vs := [.ref 27, .int z8]) rfl (fun _ => rfl) ⟨Nat.le_of_ble_eq_true rfl, Nat.le_of_ble_eq_true rfl, pj_T_rcv iG4 rfl⟩ ⟨rfl, rfl⟩ (pj_Y_up (by decide) (ct_60 G4 iG4 z8 (by omega))) ?_
      rintro _ G10 ⟨rfl, iG10, jG10⟩
      have kG10 : pj_kpt kc_64_4 G0 G10 := pj_kpt_t kG4 (pj_kpt_s jG10 rfl)
      show pj_X _ _ G10 88 [(3, .int y3), (0, .ref 27), (1, .ref 2), (2, .int dp)] [] _
      exact pj_X_rt rfl rfl ⟨rfl, iG10, kG10⟩
    | false =>
      have ub5 := pj_u_neF b5
      refine pj_X_of (fun r h => pj_R_icF rfl b5 h) ?_
      refine pj_X_of (fun r h => pj_R_to (G4, 67, [(3, .int y3), (0, .ref 27), (1, .ref 2), (2, .int dp)], [.ref 2], 0, 0) 67 2 (fun _ => rfl) h) ?_
      refine pj_X_ca (vs := [.ref 2]) rfl (fun _ => rfl) ⟨Nat.le_of_ble_eq_true rfl, Nat.le_of_ble_eq_true rfl, pj_T_rcv iG4 rfl⟩ ⟨rfl, rfl⟩ (pj_Y_up (by decide) (ct_81 G4 iG4)) ?_
      rintro _ G12 ⟨rfl, iG12, jG12, eG12⟩
      have kG12 : pj_kpt kc_64_4 G0 G12 := pj_kpt_t kG4 (pj_kpt_s jG12 rfl)
      show pj_X _ _ G12 70 [(3, .int y3), (0, .ref 27), (1, .ref 2), (2, .int dp)] [] _
      refine pj_X_of (fun r h => pj_R_to (G12, 88, [(3, .int y3), (0, .ref 27), (1, .ref 2), (2, .int dp)], [], 0, 0) 88 2 (fun _ => rfl) h) ?_
      exact pj_X_rt rfl rfl ⟨rfl, iG12, kG12⟩
  | false =>
    have ub2 := pj_u0_eqF b2
    refine pj_X_of (fun r h => pj_R_ifF rfl b2 h) ?_
    refine pj_X_of (fun r h => pj_R_to (G0, 10, [(0, .ref 27), (1, .ref 2), (2, .int dp)], [.int (Int32.ofInt 3), .ref 2, .ref 27], 0, 0) 10 4 (fun _ => rfl) h) ?_
    refine pj_X_ca (vs := [.ref 2, .int (Int32.ofInt 3)]) rfl (fun _ => rfl) ⟨Nat.le_of_ble_eq_true rfl, Nat.le_of_ble_eq_true rfl, pj_T_rcv hI rfl⟩ ⟨rfl, rfl⟩ (pj_Y_up (by decide) (ct_86 G0 hI (Int32.ofInt 3) ⟨by omega, by omega⟩)) ?_
    rintro _ G14 ⟨y13, rfl, iG14, jG14, ry13⟩
    have kG14 : pj_kpt kc_64_4 G0 G14 := pj_kpt_t hK (pj_kpt_s jG14 rfl)
    show pj_X _ _ G14 13 [(0, .ref 27), (1, .ref 2), (2, .int dp)] [.int y13, .ref 27] _
    refine pj_X_ca (vs := [.ref 27, .int y13]) rfl (fun _ => rfl) ⟨Nat.le_of_ble_eq_true rfl, Nat.le_of_ble_eq_true rfl, pj_T_rcv iG14 rfl⟩ ⟨rfl, rfl⟩ (pj_Y_up (by decide) (ct_60 G14 iG14 y13 (by omega))) ?_
    rintro _ G16 ⟨rfl, iG16, jG16⟩
    have kG16 : pj_kpt kc_64_4 G0 G16 := pj_kpt_t kG14 (pj_kpt_s jG16 rfl)
    show pj_X _ _ G16 16 [(0, .ref 27), (1, .ref 2), (2, .int dp)] [] _
    refine pj_X_of (fun r h => pj_R_to (G16, 88, [(0, .ref 27), (1, .ref 2), (2, .int dp)], [], 0, 0) 88 2 (fun _ => rfl) h) ?_
    exact pj_X_rt rfl rfl ⟨rfl, iG16, kG16⟩
def kc_63_4 : pj_KT := ([(2, 3), (2, 4), (27, 3)], [2, 27, 28, 29], [28, 29])
theorem lp_ct_63_4 (G0 : pj_G) (hI0 : pj_Inv G0) (dp : Int32) (rdp : (4 : Int) ≤ dp.toInt ∧ dp.toInt ≤ 4) : ∀ mn : Nat, (∀ (G : pj_G) (hI : pj_Inv G) (hK : pj_kpt kc_63_4 G0 G) (v3 : Int32) (v4 : Int32), ((0 : Int) ≤ v3.toInt ∧ v3.toInt ≤ 1) → ((0 : Int) ≤ v4.toInt ∧ v4.toInt ≤ 40) → 40 - v4.toInt < (mn : Int) → pj_X 17 pj_m63 G 5 [(0, .ref 27), (1, .ref 2), (2, .int dp), (3, .int v3), (4, .int v4)] [] (fun v G' => v = none ∧ pj_Inv G' ∧ pj_kpt kc_63_4 G0 G')) := by
  have c0_ : ((Int16.ofInt 2000).toInt32).toInt = 2000 := by decide
  have c1_ : ((Int8.ofInt 40).toInt32).toInt = 40 := by decide
  have c2_ : ((Int8.ofInt 45).toInt32).toInt = 45 := by decide
  have c3_ : (Int32.ofInt 0).toInt = 0 := by decide
  have c4_ : (Int32.ofInt 1).toInt = 1 := by decide
  intro mn
  induction mn with
  | zero =>
    intro G hI hK v3 v4 rv3 rv4 hm
    exfalso
    omega
  | succ mn ih =>
    intro G hI hK v3 v4 rv3 rv4 hm
    refine pj_X_of (fun r h => pj_R_to (G, 9, [(0, .ref 27), (1, .ref 2), (2, .int dp), (3, .int v3), (4, .int v4)], [.int ((Int8.ofInt 40).toInt32), .int v4], 0, 0) 9 3 (fun _ => rfl) h) ?_
    cases b1 : pj_c1 .ge v4 ((Int8.ofInt 40).toInt32) with
    | true =>
      have ub1 := pj_u_geT b1
      refine pj_X_of (fun r h => pj_R_icT 37 rfl rfl b1 h) ?_
      refine pj_X_of (fun r h => pj_R_to (G, 40, [(0, .ref 27), (1, .ref 2), (2, .int dp), (3, .int v3), (4, .int v4)], [.int dp, .ref 2, .ref 27], 0, 0) 40 4 (fun _ => rfl) h) ?_
      refine pj_X_ca (vs := [.ref 27, .ref 2, .int dp]) rfl (fun _ => rfl) ⟨Nat.le_of_ble_eq_true rfl, Nat.le_of_ble_eq_true rfl, pj_T_rcv hI rfl⟩ ⟨rfl, rfl⟩ (pj_Y_up (by decide) (ct_64_4 G hI dp ⟨by omega, by omega⟩)) ?_
      rintro _ G3 ⟨rfl, iG3, jG3⟩
      have kG3 : pj_kpt kc_63_4 G0 G3 := pj_kpt_t hK (pj_kpt_s jG3 rfl)
      show pj_X _ _ G3 43 [(0, .ref 27), (1, .ref 2), (2, .int dp), (3, .int v3), (4, .int v4)] [] _
      refine pj_X_of (fun r h => pj_R_to (G3, 44, [(0, .ref 27), (1, .ref 2), (2, .int dp), (3, .int v3), (4, .int v4)], [.int v3], 0, 0) 44 2 (fun _ => rfl) h) ?_
      cases b4 : pj_c1 .eq v3 0 with
      | true =>
        have ub4 := pj_u0_eqT b4
        refine pj_X_of (fun r h => pj_R_ifT 54 rfl rfl b4 h) ?_
        exact pj_X_rt rfl rfl ⟨rfl, iG3, kG3⟩
      | false =>
        have ub4 := pj_u0_eqF b4
        refine pj_X_of (fun r h => pj_R_ifF rfl b4 h) ?_
        refine pj_X_of (fun r h => pj_R_to (G3, 51, [(0, .ref 27), (1, .ref 2), (2, .int dp), (3, .int v3), (4, .int v4)], [.int ((Int16.ofInt 2000).toInt32), .ref 27], 0, 0) 51 3 (fun _ => rfl) h) ?_
        refine pj_X_ca (vs := [.ref 27, .int ((Int16.ofInt 2000).toInt32)]) rfl (fun _ => rfl) ⟨Nat.le_of_ble_eq_true rfl, Nat.le_of_ble_eq_true rfl, pj_T_rcv iG3 rfl⟩ ⟨rfl, rfl⟩ (pj_Y_up (by decide) (ct_60 G3 iG3 ((Int16.ofInt 2000).toInt32) (by omega))) ?_
        rintro _ G6 ⟨rfl, iG6, jG6⟩
        have kG6 : pj_kpt kc_63_4 G0 G6 := pj_kpt_t kG3 (pj_kpt_s jG6 rfl)
        show pj_X _ _ G6 54 [(0, .ref 27), (1, .ref 2), (2, .int dp), (3, .int v3), (4, .int v4)] [] _
        exact pj_X_rt rfl rfl ⟨rfl, iG6, kG6⟩
    | false =>
      have ub1 := pj_u_geF b1
      refine pj_X_of (fun r h => pj_R_icF rfl b1 h) ?_
      refine pj_X_of (fun r h => pj_R_to (G, 15, [(0, .ref 27), (1, .ref 2), (2, .int dp), (3, .int v3), (4, .int v4)], [.int ((Int8.ofInt 45).toInt32), .ref 2], 0, 0) 15 3 (fun _ => rfl) h) ?_
      refine pj_X_ca (vs := [.ref 2, .int ((Int8.ofInt 45).toInt32)]) rfl (fun _ => rfl) ⟨Nat.le_of_ble_eq_true rfl, Nat.le_of_ble_eq_true rfl, pj_T_rcv hI rfl⟩ ⟨rfl, rfl⟩ (pj_Y_up (by decide) (ct_82 G hI ((Int8.ofInt 45).toInt32) ⟨by omega, by omega⟩)) ?_
      rintro _ G8 ⟨y7, rfl, iG8, jG8, ry7⟩
      have kG8 : pj_kpt kc_63_4 G0 G8 := pj_kpt_t hK (pj_kpt_s jG8 rfl)
      show pj_X _ _ G8 18 [(0, .ref 27), (1, .ref 2), (2, .int dp), (3, .int v3), (4, .int v4)] [.int y7] _
      cases b9 : pj_c1 .eq y7 0 with
      | true =>
        have ub9 := pj_u0_eqT b9
        refine pj_X_of (fun r h => pj_R_ifT 37 rfl rfl b9 h) ?_
        refine pj_X_of (fun r h => pj_R_to (G8, 40, [(0, .ref 27), (1, .ref 2), (2, .int dp), (3, .int v3), (4, .int v4)], [.int dp, .ref 2, .ref 27], 0, 0) 40 4 (fun _ => rfl) h) ?_
        refine pj_X_ca (vs := [.ref 27, .ref 2, .int dp]) rfl (fun _ => rfl) ⟨Nat.le_of_ble_eq_true rfl, Nat.le_of_ble_eq_true rfl, pj_T_rcv iG8 rfl⟩ ⟨rfl, rfl⟩ (pj_Y_up (by decide) (ct_64_4 G8 iG8 dp ⟨by omega, by omega⟩)) ?_
        rintro _ G11 ⟨rfl, iG11, jG11⟩
        have kG11 : pj_kpt kc_63_4 G0 G11 := pj_kpt_t kG8 (pj_kpt_s jG11 rfl)
        show pj_X _ _ G11 43 [(0, .ref 27), (1, .ref 2), (2, .int dp), (3, .int v3), (4, .int v4)] [] _
        refine pj_X_of (fun r h => pj_R_to (G11, 44, [(0, .ref 27), (1, .ref 2), (2, .int dp), (3, .int v3), (4, .int v4)], [.int v3], 0, 0) 44 2 (fun _ => rfl) h) ?_
        cases b12 : pj_c1 .eq v3 0 with
        | true =>
          have ub12 := pj_u0_eqT b12
          refine pj_X_of (fun r h => pj_R_ifT 54 rfl rfl b12 h) ?_
          exact pj_X_rt rfl rfl ⟨rfl, iG11, kG11⟩
        | false =>
          have ub12 := pj_u0_eqF b12
          refine pj_X_of (fun r h => pj_R_ifF rfl b12 h) ?_
          refine pj_X_of (fun r h => pj_R_to (G11, 51, [(0, .ref 27), (1, .ref 2), (2, .int dp), (3, .int v3), (4, .int v4)], [.int ((Int16.ofInt 2000).toInt32), .ref 27], 0, 0) 51 3 (fun _ => rfl) h) ?_
          refine pj_X_ca (vs := [.ref 27, .int ((Int16.ofInt 2000).toInt32)]) rfl (fun _ => rfl) ⟨Nat.le_of_ble_eq_true rfl, Nat.le_of_ble_eq_true rfl, pj_T_rcv iG11 rfl⟩ ⟨rfl, rfl⟩ (pj_Y_up (by decide) (ct_60 G11 iG11 ((Int16.ofInt 2000).toInt32) (by omega))) ?_
          rintro _ G14 ⟨rfl, iG14, jG14⟩
          have kG14 : pj_kpt kc_63_4 G0 G14 := pj_kpt_t kG11 (pj_kpt_s jG14 rfl)
          show pj_X _ _ G14 54 [(0, .ref 27), (1, .ref 2), (2, .int dp), (3, .int v3), (4, .int v4)] [] _
          exact pj_X_rt rfl rfl ⟨rfl, iG14, kG14⟩
      | false =>
        have ub9 := pj_u0_eqF b9
        refine pj_X_of (fun r h => pj_R_ifF rfl b9 h) ?_
        refine pj_X_of (fun r h => pj_R_to (G8, 22, [(0, .ref 27), (1, .ref 2), (2, .int dp), (3, .int v3), (4, .int v4)], [.int v3], 0, 0) 22 2 (fun _ => rfl) h) ?_
        cases b15 : pj_c1 .ne v3 0 with
        | true =>
          have ub15 := pj_u0_neT b15
          refine pj_X_of (fun r h => pj_R_ifT 29 rfl rfl b15 h) ?_
          refine pj_X_of (fun r h => pj_R_to (G8, 34, [(4, .int (v4 + Int32.ofInt 1)), (3, .int (Int32.ofInt 0)), (0, .ref 27), (1, .ref 2), (2, .int dp)], [], 0, 0) 34 4 (fun _ => rfl) h) ?_
          obtain ⟨z16, hz16⟩ : ∃ z : Int32, z = v4 + Int32.ofInt 1 := ⟨_, rfl⟩
          rw [← hz16]
          have fz16_0 : z16.toInt = v4.toInt + (Int32.ofInt 1).toInt := by rw [hz16]; exact pj_addI (by have := pj_i32 v4; have := pj_i32 (Int32.ofInt 1); omega) (by have := pj_i32 v4; have := pj_i32 (Int32.ofInt 1); omega)
          refine pj_X_of (fun r h => pj_R_to (G8, 5, [(4, .int z16), (3, .int (Int32.ofInt 0)), (0, .ref 27), (1, .ref 2), (2, .int dp)], [], 0, 0) 5 2 (fun _ => rfl) h) ?_
          exact pj_X_sub [(0, .ref 27), (1, .ref 2), (2, .int dp), (3, .int (Int32.ofInt 0)), (4, .int z16)] (show List.Nodup [0, 1, 2, 3, 4] by decide) ⟨rfl, rfl, rfl, rfl, rfl, trivial⟩ (ih G8 iG8 kG8 (Int32.ofInt 0) z16 ⟨by omega, by omega⟩ ⟨by omega, by omega⟩ (by omega))
        | false =>
          have ub15 := pj_u0_neF b15
          refine pj_X_of (fun r h => pj_R_ifF rfl b15 h) ?_
          refine pj_X_of (fun r h => pj_R_to (G8, 34, [(4, .int (v4 + Int32.ofInt 1)), (3, .int (Int32.ofInt 1)), (0, .ref 27), (1, .ref 2), (2, .int dp)], [], 0, 0) 34 5 (fun _ => rfl) h) ?_
          obtain ⟨z17, hz17⟩ : ∃ z : Int32, z = v4 + Int32.ofInt 1 := ⟨_, rfl⟩
          rw [← hz17]
          have fz17_0 : z17.toInt = v4.toInt + (Int32.ofInt 1).toInt := by rw [hz17]; exact pj_addI (by have := pj_i32 v4; have := pj_i32 (Int32.ofInt 1); omega) (by have := pj_i32 v4; have := pj_i32 (Int32.ofInt 1); omega)
          refine pj_X_of (fun r h => pj_R_to (G8, 5, [(4, .int z17), (3, .int (Int32.ofInt 1)), (0, .ref 27), (1, .ref 2), (2, .int dp)], [], 0, 0) 5 2 (fun _ => rfl) h) ?_
          exact pj_X_sub [(0, .ref 27), (1, .ref 2), (2, .int dp), (3, .int (Int32.ofInt 1)), (4, .int z17)] (show List.Nodup [0, 1, 2, 3, 4] by decide) ⟨rfl, rfl, rfl, rfl, rfl, trivial⟩ (ih G8 iG8 kG8 (Int32.ofInt 1) z17 ⟨by omega, by omega⟩ ⟨by omega, by omega⟩ (by omega))
theorem ct_63_4 (G0 : pj_G) (hI : pj_Inv G0) (dp : Int32) (rdp : (4 : Int) ≤ dp.toInt ∧ dp.toInt ≤ 4) : pj_Y 18 63 [.ref 27, .ref 2, .int dp] G0 (fun v G' => v = none ∧ pj_Inv G' ∧ pj_kpt kc_63_4 G0 G') := by
  have c0_ : ((Int16.ofInt 2000).toInt32).toInt = 2000 := by decide
  have c1_ : ((Int8.ofInt 40).toInt32).toInt = 40 := by decide
  have c2_ : ((Int8.ofInt 45).toInt32).toInt = 45 := by decide
  have c3_ : (Int32.ofInt 0).toInt = 0 := by decide
  have c4_ : (Int32.ofInt 1).toInt = 1 := by decide
  refine pj_Y_X (M := pj_m63) rfl rfl (Nat.le_of_ble_eq_true rfl) ?_
  have hK : pj_kpt kc_63_4 G0 G0 := pj_kpt_r _ _
  show pj_X _ _ G0 0 [(0, .ref 27), (1, .ref 2), (2, .int dp)] [] _
  refine pj_X_of (fun r h => pj_R_to (G0, 5, [(4, .int (Int32.ofInt 0)), (3, .int (Int32.ofInt 0)), (0, .ref 27), (1, .ref 2), (2, .int dp)], [], 0, 0) 5 5 (fun _ => rfl) h) ?_
  exact pj_X_sub [(0, .ref 27), (1, .ref 2), (2, .int dp), (3, .int (Int32.ofInt 0)), (4, .int (Int32.ofInt 0))] (show List.Nodup [0, 1, 2, 3, 4] by decide) ⟨rfl, rfl, rfl, rfl, rfl, trivial⟩ ((lp_ct_63_4 G0 hI dp rdp 41) G0 hI hK (Int32.ofInt 0) (Int32.ofInt 0) ⟨by omega, by omega⟩ ⟨by omega, by omega⟩ (by omega))
def kc_62_3_4 : pj_KT := ([(2, 3), (2, 4), (27, 3)], [2, 27, 28, 29], [28, 29])
theorem ct_62_3_4 (G0 : pj_G) (hI : pj_Inv G0) (lv : Int32) (dp : Int32) (rlv : (3 : Int) ≤ lv.toInt ∧ lv.toInt ≤ 3) (rdp : (4 : Int) ≤ dp.toInt ∧ dp.toInt ≤ 4) : pj_Y 19 62 [.ref 27, .ref 2, .int lv, .int dp] G0 (fun v G' => v = none ∧ pj_Inv G' ∧ pj_kpt kc_62_3_4 G0 G') := by
  have c0_ : (Int32.ofInt 2).toInt = 2 := by decide
  refine pj_Y_X (M := pj_m62) rfl rfl (Nat.le_of_ble_eq_true rfl) ?_
  have hK : pj_kpt kc_62_3_4 G0 G0 := pj_kpt_r _ _
  show pj_X _ _ G0 0 [(0, .ref 27), (1, .ref 2), (2, .int lv), (3, .int dp)] [] _
  refine pj_X_of (fun r h => pj_R_to (G0, 2, [(0, .ref 27), (1, .ref 2), (2, .int lv), (3, .int dp)], [.int (Int32.ofInt 2), .int lv], 0, 0) 2 3 (fun _ => rfl) h) ?_
  refine pj_X_of (fun r h => pj_R_icF rfl (pj_b_leF (by omega)) h) ?_
  refine pj_X_of (fun r h => pj_R_to (G0, 8, [(0, .ref 27), (1, .ref 2), (2, .int lv), (3, .int dp)], [.int dp, .ref 2, .ref 27], 0, 0) 8 4 (fun _ => rfl) h) ?_
  refine pj_X_ca (vs := [.ref 27, .ref 2, .int dp]) rfl (fun _ => rfl) ⟨Nat.le_of_ble_eq_true rfl, Nat.le_of_ble_eq_true rfl, pj_T_rcv hI rfl⟩ ⟨rfl, rfl⟩ (pj_Y_up (by decide) (ct_63_4 G0 hI dp ⟨by omega, by omega⟩)) ?_
  rintro _ G2 ⟨rfl, iG2, jG2⟩
  have kG2 : pj_kpt kc_62_3_4 G0 G2 := pj_kpt_t hK (pj_kpt_s jG2 rfl)
  show pj_X _ _ G2 11 [(0, .ref 27), (1, .ref 2), (2, .int lv), (3, .int dp)] [] _
  exact pj_X_rt rfl rfl ⟨rfl, iG2, kG2⟩
def kc_62_2_4 : pj_KT := ([(2, 3), (2, 4), (27, 3)], [2, 27, 28, 29], [28, 29])
theorem lp_ct_62_2_4 (G0 : pj_G) (hI0 : pj_Inv G0) (lv : Int32) (dp : Int32) (rlv : (2 : Int) ≤ lv.toInt ∧ lv.toInt ≤ 2) (rdp : (4 : Int) ≤ dp.toInt ∧ dp.toInt ≤ 4) : ∀ mn : Nat, (∀ (G : pj_G) (hI : pj_Inv G) (hK : pj_kpt kc_62_2_4 G0 G) (v4 : Int32) (v5 : Int32), ((1 : Int) ≤ v4.toInt ∧ v4.toInt ≤ 40) → ((0 : Int) ≤ v5.toInt ∧ v5.toInt ≤ 40) → 40 - v5.toInt < (mn : Int) → pj_X 19 pj_m62 G 36 [(0, .ref 27), (1, .ref 2), (2, .int lv), (3, .int dp), (4, .int v4), (5, .int v5)] [] (fun v G' => v = none ∧ pj_Inv G' ∧ pj_kpt kc_62_2_4 G0 G')) := by
  have c0_ : ((Int16.ofInt 3000).toInt32).toInt = 3000 := by decide
  have c1_ : ((Int8.ofInt 40).toInt32).toInt = 40 := by decide
  have c2_ : (Int32.ofInt (-1)).toInt = -1 := by decide
  have c3_ : (Int32.ofInt 0).toInt = 0 := by decide
  have c4_ : (Int32.ofInt 1).toInt = 1 := by decide
  have c5_ : (Int32.ofInt 2).toInt = 2 := by decide
  intro mn
  induction mn with
  | zero =>
    intro G hI hK v4 v5 rv4 rv5 hm
    exfalso
    omega
  | succ mn ih =>
    intro G hI hK v4 v5 rv4 rv5 hm
    refine pj_X_of (fun r h => pj_R_to (G, 40, [(0, .ref 27), (1, .ref 2), (2, .int lv), (3, .int dp), (4, .int v4), (5, .int v5)], [.int v4, .int v5], 0, 0) 40 3 (fun _ => rfl) h) ?_
    cases b1 : pj_c1 .ge v5 v4 with
    | true =>
      have ub1 := pj_u_geT b1
      refine pj_X_of (fun r h => pj_R_icT 85 rfl rfl b1 h) ?_
      exact pj_X_rt rfl rfl ⟨rfl, hI, hK⟩
    | false =>
      have ub1 := pj_u_geF b1
      refine pj_X_of (fun r h => pj_R_icF rfl b1 h) ?_
      refine pj_X_of (fun r h => pj_R_to (G, 45, [(0, .ref 27), (1, .ref 2), (2, .int lv), (3, .int dp), (4, .int v4), (5, .int v5)], [.int lv, .ref 2], 0, 0) 45 3 (fun _ => rfl) h) ?_
      refine pj_X_ca (vs := [.int lv]) rfl (fun _ => rfl) ⟨Nat.le_of_ble_eq_true rfl, Nat.le_of_ble_eq_true rfl, rfl⟩ ⟨rfl, rfl⟩ (pj_Y_up (by decide) (ct_61_2 G hI lv ⟨by omega, by omega⟩)) ?_
      rintro _ _ ⟨rfl, rfl⟩
      show pj_X _ _ G 48 [(0, .ref 27), (1, .ref 2), (2, .int lv), (3, .int dp), (4, .int v4), (5, .int v5)] [.retAddr 7, .ref 2] _
      refine pj_X_ca (vs := [.ref 2, .retAddr 7]) rfl (fun _ => rfl) ⟨Nat.le_of_ble_eq_true rfl, Nat.le_of_ble_eq_true rfl, pj_T_rcv hI rfl⟩ ⟨rfl, rfl⟩ (pj_Y_up (by decide) (ct_84_s7 G hI)) ?_
      rintro _ G4 ⟨y3, rfl, iG4, jG4, ry3⟩
      have kG4 : pj_kpt kc_62_2_4 G0 G4 := pj_kpt_t hK (pj_kpt_s jG4 rfl)
      show pj_X _ _ G4 51 [(0, .ref 27), (1, .ref 2), (2, .int lv), (3, .int dp), (4, .int v4), (5, .int v5)] [.int y3] _
      refine pj_X_of (fun r h => pj_R_to (G4, 56, [(6, .int y3), (0, .ref 27), (1, .ref 2), (2, .int lv), (3, .int dp), (4, .int v4), (5, .int v5)], [.int (Int32.ofInt (-1)), .int y3], 0, 0) 56 4 (fun _ => rfl) h) ?_
      cases b5 : pj_c1 .ne y3 (Int32.ofInt (-1)) with
      | true =>
        have ub5 := pj_u_neT b5
        refine pj_X_of (fun r h => pj_R_icT 60 rfl rfl b5 h) ?_
        refine pj_X_of (fun r h => pj_R_to (G4, 65, [(6, .int y3), (0, .ref 27), (1, .ref 2), (2, .int lv), (3, .int dp), (4, .int v4), (5, .int v5)], [.int (lv + (Int32.ofInt 1)), .ref 2, .ref 27], 0, 0) 65 6 (fun _ => rfl) h) ?_
        obtain ⟨z6, hz6⟩ : ∃ z : Int32, z = lv + (Int32.ofInt 1) := ⟨_, rfl⟩
        rw [← hz6]
        have fz6_0 : z6.toInt = lv.toInt + (Int32.ofInt 1).toInt := by rw [hz6]; exact pj_addI (by have := pj_i32 lv; have := pj_i32 (Int32.ofInt 1); omega) (by have := pj_i32 lv; have := pj_i32 (Int32.ofInt 1); omega)
        refine pj_X_of (fun r h => pj_R_to (G4, 66, [(6, .int y3), (0, .ref 27), (1, .ref 2), (2, .int lv), (3, .int dp), (4, .int v4), (5, .int v5)], [.int dp, .int z6, .ref 2, .ref 27], 0, 0) 66 2 (fun _ => rfl) h) ?_
        refine pj_X_ca (vs := [.ref 27, .ref 2, .int z6, .int dp]) rfl (fun _ => rfl) ⟨Nat.le_of_ble_eq_true rfl, Nat.le_of_ble_eq_true rfl, pj_T_rcv iG4 rfl⟩ ⟨rfl, rfl⟩ (pj_Y_up (by decide) (ct_62_3_4 G4 iG4 z6 dp ⟨by omega, by omega⟩ ⟨by omega, by omega⟩)) ?_
        rintro _ G8 ⟨rfl, iG8, jG8⟩
        have kG8 : pj_kpt kc_62_2_4 G0 G8 := pj_kpt_t kG4 (pj_kpt_s jG8 rfl)
        show pj_X _ _ G8 69 [(6, .int y3), (0, .ref 27), (1, .ref 2), (2, .int lv), (3, .int dp), (4, .int v4), (5, .int v5)] [] _
        refine pj_X_of (fun r h => pj_R_to (G8, 76, [(6, .int y3), (0, .ref 27), (1, .ref 2), (2, .int lv), (3, .int dp), (4, .int v4), (5, .int v5)], [.int (((Int16.ofInt 3000).toInt32) + y3), .ref 27], 0, 0) 76 5 (fun _ => rfl) h) ?_
        obtain ⟨z9, hz9⟩ : ∃ z : Int32, z = ((Int16.ofInt 3000).toInt32) + y3 := ⟨_, rfl⟩
        rw [← hz9]
        have fz9_0 : z9.toInt = ((Int16.ofInt 3000).toInt32).toInt + y3.toInt := by rw [hz9]; exact pj_addI (by have := pj_i32 ((Int16.ofInt 3000).toInt32); have := pj_i32 y3; omega) (by have := pj_i32 ((Int16.ofInt 3000).toInt32); have := pj_i32 y3; omega)
        refine pj_X_ca (vs := [.ref 27, .int z9]) rfl (fun _ => rfl) ⟨Nat.le_of_ble_eq_true rfl, Nat.le_of_ble_eq_true rfl, pj_T_rcv iG8 rfl⟩ ⟨rfl, rfl⟩ (pj_Y_up (by decide) (ct_60 G8 iG8 z9 (by omega))) ?_
        rintro _ G11 ⟨rfl, iG11, jG11⟩
        have kG11 : pj_kpt kc_62_2_4 G0 G11 := pj_kpt_t kG8 (pj_kpt_s jG11 rfl)
        show pj_X _ _ G11 79 [(6, .int y3), (0, .ref 27), (1, .ref 2), (2, .int lv), (3, .int dp), (4, .int v4), (5, .int v5)] [] _
        refine pj_X_of (fun r h => pj_R_to (G11, 82, [(5, .int (v5 + Int32.ofInt 1)), (6, .int y3), (0, .ref 27), (1, .ref 2), (2, .int lv), (3, .int dp), (4, .int v4)], [], 0, 0) 82 2 (fun _ => rfl) h) ?_
        obtain ⟨z12, hz12⟩ : ∃ z : Int32, z = v5 + Int32.ofInt 1 := ⟨_, rfl⟩
        rw [← hz12]
        have fz12_0 : z12.toInt = v5.toInt + (Int32.ofInt 1).toInt := by rw [hz12]; exact pj_addI (by have := pj_i32 v5; have := pj_i32 (Int32.ofInt 1); omega) (by have := pj_i32 v5; have := pj_i32 (Int32.ofInt 1); omega)
        refine pj_X_of (fun r h => pj_R_to (G11, 36, [(5, .int z12), (6, .int y3), (0, .ref 27), (1, .ref 2), (2, .int lv), (3, .int dp), (4, .int v4)], [], 0, 0) 36 2 (fun _ => rfl) h) ?_
        exact pj_X_sub [(0, .ref 27), (1, .ref 2), (2, .int lv), (3, .int dp), (4, .int v4), (5, .int z12)] (show List.Nodup [0, 1, 2, 3, 4, 5] by decide) ⟨rfl, rfl, rfl, rfl, rfl, rfl, trivial⟩ (ih G11 iG11 kG11 v4 z12 ⟨by omega, by omega⟩ ⟨by omega, by omega⟩ (by omega))
      | false =>
        have ub5 := pj_u_neF b5
        refine pj_X_of (fun r h => pj_R_icF rfl b5 h) ?_
        exact pj_X_rt rfl rfl ⟨rfl, iG4, kG4⟩
theorem ct_62_2_4 (G0 : pj_G) (hI : pj_Inv G0) (lv : Int32) (dp : Int32) (rlv : (2 : Int) ≤ lv.toInt ∧ lv.toInt ≤ 2) (rdp : (4 : Int) ≤ dp.toInt ∧ dp.toInt ≤ 4) : pj_Y 20 62 [.ref 27, .ref 2, .int lv, .int dp] G0 (fun v G' => v = none ∧ pj_Inv G' ∧ pj_kpt kc_62_2_4 G0 G') := by
  have c0_ : ((Int16.ofInt 3000).toInt32).toInt = 3000 := by decide
  have c1_ : ((Int8.ofInt 40).toInt32).toInt = 40 := by decide
  have c2_ : (Int32.ofInt (-1)).toInt = -1 := by decide
  have c3_ : (Int32.ofInt 0).toInt = 0 := by decide
  have c4_ : (Int32.ofInt 1).toInt = 1 := by decide
  have c5_ : (Int32.ofInt 2).toInt = 2 := by decide
  refine pj_Y_X (M := pj_m62) rfl rfl (Nat.le_of_ble_eq_true rfl) ?_
  have hK : pj_kpt kc_62_2_4 G0 G0 := pj_kpt_r _ _
  show pj_X _ _ G0 0 [(0, .ref 27), (1, .ref 2), (2, .int lv), (3, .int dp)] [] _
  refine pj_X_of (fun r h => pj_R_to (G0, 2, [(0, .ref 27), (1, .ref 2), (2, .int lv), (3, .int dp)], [.int (Int32.ofInt 2), .int lv], 0, 0) 2 3 (fun _ => rfl) h) ?_
  refine pj_X_of (fun r h => pj_R_icT 12 rfl rfl (pj_b_leT (by omega)) h) ?_
  refine pj_X_of (fun r h => pj_R_to (G0, 17, [(0, .ref 27), (1, .ref 2), (2, .int lv), (3, .int dp)], [.int (lv + (Int32.ofInt 1)), .ref 2, .ref 27], 0, 0) 17 6 (fun _ => rfl) h) ?_
  obtain ⟨z13, hz13⟩ : ∃ z : Int32, z = lv + (Int32.ofInt 1) := ⟨_, rfl⟩
  rw [← hz13]
  have fz13_0 : z13.toInt = lv.toInt + (Int32.ofInt 1).toInt := by rw [hz13]; exact pj_addI (by have := pj_i32 lv; have := pj_i32 (Int32.ofInt 1); omega) (by have := pj_i32 lv; have := pj_i32 (Int32.ofInt 1); omega)
  refine pj_X_of (fun r h => pj_R_to (G0, 18, [(0, .ref 27), (1, .ref 2), (2, .int lv), (3, .int dp)], [.int dp, .int z13, .ref 2, .ref 27], 0, 0) 18 2 (fun _ => rfl) h) ?_
  refine pj_X_ca (vs := [.ref 27, .ref 2, .int z13, .int dp]) rfl (fun _ => rfl) ⟨Nat.le_of_ble_eq_true rfl, Nat.le_of_ble_eq_true rfl, pj_T_rcv hI rfl⟩ ⟨rfl, rfl⟩ (pj_Y_up (by decide) (ct_62_3_4 G0 hI z13 dp ⟨by omega, by omega⟩ ⟨by omega, by omega⟩)) ?_
  rintro _ G15 ⟨rfl, iG15, jG15⟩
  have kG15 : pj_kpt kc_62_2_4 G0 G15 := pj_kpt_t hK (pj_kpt_s jG15 rfl)
  show pj_X _ _ G15 21 [(0, .ref 27), (1, .ref 2), (2, .int lv), (3, .int dp)] [] _
  refine pj_X_of (fun r h => pj_R_to (G15, 22, [(0, .ref 27), (1, .ref 2), (2, .int lv), (3, .int dp)], [.int lv], 0, 0) 22 2 (fun _ => rfl) h) ?_
  refine pj_X_of (fun r h => pj_R_ifT 29 rfl rfl (pj_b0_neT (by omega)) h) ?_
  refine pj_X_of (fun r h => pj_R_to (G15, 36, [(5, .int (Int32.ofInt 0)), (4, .int ((Int8.ofInt 40).toInt32)), (0, .ref 27), (1, .ref 2), (2, .int lv), (3, .int dp)], [], 0, 0) 36 5 (fun _ => rfl) h) ?_
  exact pj_X_sub [(0, .ref 27), (1, .ref 2), (2, .int lv), (3, .int dp), (4, .int ((Int8.ofInt 40).toInt32)), (5, .int (Int32.ofInt 0))] (show List.Nodup [0, 1, 2, 3, 4, 5] by decide) ⟨rfl, rfl, rfl, rfl, rfl, rfl, trivial⟩ ((lp_ct_62_2_4 G0 hI lv dp rlv rdp 41) G15 iG15 kG15 ((Int8.ofInt 40).toInt32) (Int32.ofInt 0) ⟨by omega, by omega⟩ ⟨by omega, by omega⟩ (by omega))
def kc_62_1_4 : pj_KT := ([(2, 3), (2, 4), (27, 3)], [2, 27, 28, 29], [28, 29])
theorem lp_ct_62_1_4 (G0 : pj_G) (hI0 : pj_Inv G0) (lv : Int32) (dp : Int32) (rlv : (1 : Int) ≤ lv.toInt ∧ lv.toInt ≤ 1) (rdp : (4 : Int) ≤ dp.toInt ∧ dp.toInt ≤ 4) : ∀ mn : Nat, (∀ (G : pj_G) (hI : pj_Inv G) (hK : pj_kpt kc_62_1_4 G0 G) (v4 : Int32) (v5 : Int32), ((1 : Int) ≤ v4.toInt ∧ v4.toInt ≤ 40) → ((0 : Int) ≤ v5.toInt ∧ v5.toInt ≤ 40) → 40 - v5.toInt < (mn : Int) → pj_X 20 pj_m62 G 36 [(0, .ref 27), (1, .ref 2), (2, .int lv), (3, .int dp), (4, .int v4), (5, .int v5)] [] (fun v G' => v = none ∧ pj_Inv G' ∧ pj_kpt kc_62_1_4 G0 G')) := by
  have c0_ : ((Int16.ofInt 3000).toInt32).toInt = 3000 := by decide
  have c1_ : ((Int8.ofInt 40).toInt32).toInt = 40 := by decide
  have c2_ : (Int32.ofInt (-1)).toInt = -1 := by decide
  have c3_ : (Int32.ofInt 0).toInt = 0 := by decide
  have c4_ : (Int32.ofInt 1).toInt = 1 := by decide
  have c5_ : (Int32.ofInt 2).toInt = 2 := by decide
  intro mn
  induction mn with
  | zero =>
    intro G hI hK v4 v5 rv4 rv5 hm
    exfalso
    omega
  | succ mn ih =>
    intro G hI hK v4 v5 rv4 rv5 hm
    refine pj_X_of (fun r h => pj_R_to (G, 40, [(0, .ref 27), (1, .ref 2), (2, .int lv), (3, .int dp), (4, .int v4), (5, .int v5)], [.int v4, .int v5], 0, 0) 40 3 (fun _ => rfl) h) ?_
    cases b1 : pj_c1 .ge v5 v4 with
    | true =>
      have ub1 := pj_u_geT b1
      refine pj_X_of (fun r h => pj_R_icT 85 rfl rfl b1 h) ?_
      exact pj_X_rt rfl rfl ⟨rfl, hI, hK⟩
    | false =>
      have ub1 := pj_u_geF b1
      refine pj_X_of (fun r h => pj_R_icF rfl b1 h) ?_
      refine pj_X_of (fun r h => pj_R_to (G, 45, [(0, .ref 27), (1, .ref 2), (2, .int lv), (3, .int dp), (4, .int v4), (5, .int v5)], [.int lv, .ref 2], 0, 0) 45 3 (fun _ => rfl) h) ?_
      refine pj_X_ca (vs := [.int lv]) rfl (fun _ => rfl) ⟨Nat.le_of_ble_eq_true rfl, Nat.le_of_ble_eq_true rfl, rfl⟩ ⟨rfl, rfl⟩ (pj_Y_up (by decide) (ct_61_1 G hI lv ⟨by omega, by omega⟩)) ?_
      rintro _ _ ⟨rfl, rfl⟩
      show pj_X _ _ G 48 [(0, .ref 27), (1, .ref 2), (2, .int lv), (3, .int dp), (4, .int v4), (5, .int v5)] [.retAddr 6, .ref 2] _
      refine pj_X_ca (vs := [.ref 2, .retAddr 6]) rfl (fun _ => rfl) ⟨Nat.le_of_ble_eq_true rfl, Nat.le_of_ble_eq_true rfl, pj_T_rcv hI rfl⟩ ⟨rfl, rfl⟩ (pj_Y_up (by decide) (ct_84_s6 G hI)) ?_
      rintro _ G4 ⟨y3, rfl, iG4, jG4, ry3⟩
      have kG4 : pj_kpt kc_62_1_4 G0 G4 := pj_kpt_t hK (pj_kpt_s jG4 rfl)
      show pj_X _ _ G4 51 [(0, .ref 27), (1, .ref 2), (2, .int lv), (3, .int dp), (4, .int v4), (5, .int v5)] [.int y3] _
      refine pj_X_of (fun r h => pj_R_to (G4, 56, [(6, .int y3), (0, .ref 27), (1, .ref 2), (2, .int lv), (3, .int dp), (4, .int v4), (5, .int v5)], [.int (Int32.ofInt (-1)), .int y3], 0, 0) 56 4 (fun _ => rfl) h) ?_
      cases b5 : pj_c1 .ne y3 (Int32.ofInt (-1)) with
      | true =>
        have ub5 := pj_u_neT b5
        refine pj_X_of (fun r h => pj_R_icT 60 rfl rfl b5 h) ?_
        refine pj_X_of (fun r h => pj_R_to (G4, 65, [(6, .int y3), (0, .ref 27), (1, .ref 2), (2, .int lv), (3, .int dp), (4, .int v4), (5, .int v5)], [.int (lv + (Int32.ofInt 1)), .ref 2, .ref 27], 0, 0) 65 6 (fun _ => rfl) h) ?_
        obtain ⟨z6, hz6⟩ : ∃ z : Int32, z = lv + (Int32.ofInt 1) := ⟨_, rfl⟩
        rw [← hz6]
        have fz6_0 : z6.toInt = lv.toInt + (Int32.ofInt 1).toInt := by rw [hz6]; exact pj_addI (by have := pj_i32 lv; have := pj_i32 (Int32.ofInt 1); omega) (by have := pj_i32 lv; have := pj_i32 (Int32.ofInt 1); omega)
        refine pj_X_of (fun r h => pj_R_to (G4, 66, [(6, .int y3), (0, .ref 27), (1, .ref 2), (2, .int lv), (3, .int dp), (4, .int v4), (5, .int v5)], [.int dp, .int z6, .ref 2, .ref 27], 0, 0) 66 2 (fun _ => rfl) h) ?_
        refine pj_X_ca (vs := [.ref 27, .ref 2, .int z6, .int dp]) rfl (fun _ => rfl) ⟨Nat.le_of_ble_eq_true rfl, Nat.le_of_ble_eq_true rfl, pj_T_rcv iG4 rfl⟩ ⟨rfl, rfl⟩ (pj_Y_up (by decide) (ct_62_2_4 G4 iG4 z6 dp ⟨by omega, by omega⟩ ⟨by omega, by omega⟩)) ?_
        rintro _ G8 ⟨rfl, iG8, jG8⟩
        have kG8 : pj_kpt kc_62_1_4 G0 G8 := pj_kpt_t kG4 (pj_kpt_s jG8 rfl)
        show pj_X _ _ G8 69 [(6, .int y3), (0, .ref 27), (1, .ref 2), (2, .int lv), (3, .int dp), (4, .int v4), (5, .int v5)] [] _
        refine pj_X_of (fun r h => pj_R_to (G8, 76, [(6, .int y3), (0, .ref 27), (1, .ref 2), (2, .int lv), (3, .int dp), (4, .int v4), (5, .int v5)], [.int (((Int16.ofInt 3000).toInt32) + y3), .ref 27], 0, 0) 76 5 (fun _ => rfl) h) ?_
        obtain ⟨z9, hz9⟩ : ∃ z : Int32, z = ((Int16.ofInt 3000).toInt32) + y3 := ⟨_, rfl⟩
        rw [← hz9]
        have fz9_0 : z9.toInt = ((Int16.ofInt 3000).toInt32).toInt + y3.toInt := by rw [hz9]; exact pj_addI (by have := pj_i32 ((Int16.ofInt 3000).toInt32); have := pj_i32 y3; omega) (by have := pj_i32 ((Int16.ofInt 3000).toInt32); have := pj_i32 y3; omega)
        refine pj_X_ca (vs := [.ref 27, .int z9]) rfl (fun _ => rfl) ⟨Nat.le_of_ble_eq_true rfl, Nat.le_of_ble_eq_true rfl, pj_T_rcv iG8 rfl⟩ ⟨rfl, rfl⟩ (pj_Y_up (by decide) (ct_60 G8 iG8 z9 (by omega))) ?_
        rintro _ G11 ⟨rfl, iG11, jG11⟩
        have kG11 : pj_kpt kc_62_1_4 G0 G11 := pj_kpt_t kG8 (pj_kpt_s jG11 rfl)
        show pj_X _ _ G11 79 [(6, .int y3), (0, .ref 27), (1, .ref 2), (2, .int lv), (3, .int dp), (4, .int v4), (5, .int v5)] [] _
        refine pj_X_of (fun r h => pj_R_to (G11, 82, [(5, .int (v5 + Int32.ofInt 1)), (6, .int y3), (0, .ref 27), (1, .ref 2), (2, .int lv), (3, .int dp), (4, .int v4)], [], 0, 0) 82 2 (fun _ => rfl) h) ?_
        obtain ⟨z12, hz12⟩ : ∃ z : Int32, z = v5 + Int32.ofInt 1 := ⟨_, rfl⟩
        rw [← hz12]
        have fz12_0 : z12.toInt = v5.toInt + (Int32.ofInt 1).toInt := by rw [hz12]; exact pj_addI (by have := pj_i32 v5; have := pj_i32 (Int32.ofInt 1); omega) (by have := pj_i32 v5; have := pj_i32 (Int32.ofInt 1); omega)
        refine pj_X_of (fun r h => pj_R_to (G11, 36, [(5, .int z12), (6, .int y3), (0, .ref 27), (1, .ref 2), (2, .int lv), (3, .int dp), (4, .int v4)], [], 0, 0) 36 2 (fun _ => rfl) h) ?_
        exact pj_X_sub [(0, .ref 27), (1, .ref 2), (2, .int lv), (3, .int dp), (4, .int v4), (5, .int z12)] (show List.Nodup [0, 1, 2, 3, 4, 5] by decide) ⟨rfl, rfl, rfl, rfl, rfl, rfl, trivial⟩ (ih G11 iG11 kG11 v4 z12 ⟨by omega, by omega⟩ ⟨by omega, by omega⟩ (by omega))
      | false =>
        have ub5 := pj_u_neF b5
        refine pj_X_of (fun r h => pj_R_icF rfl b5 h) ?_
        exact pj_X_rt rfl rfl ⟨rfl, iG4, kG4⟩
theorem ct_62_1_4 (G0 : pj_G) (hI : pj_Inv G0) (lv : Int32) (dp : Int32) (rlv : (1 : Int) ≤ lv.toInt ∧ lv.toInt ≤ 1) (rdp : (4 : Int) ≤ dp.toInt ∧ dp.toInt ≤ 4) : pj_Y 21 62 [.ref 27, .ref 2, .int lv, .int dp] G0 (fun v G' => v = none ∧ pj_Inv G' ∧ pj_kpt kc_62_1_4 G0 G') := by
  have c0_ : ((Int16.ofInt 3000).toInt32).toInt = 3000 := by decide
  have c1_ : ((Int8.ofInt 40).toInt32).toInt = 40 := by decide
  have c2_ : (Int32.ofInt (-1)).toInt = -1 := by decide
  have c3_ : (Int32.ofInt 0).toInt = 0 := by decide
  have c4_ : (Int32.ofInt 1).toInt = 1 := by decide
  have c5_ : (Int32.ofInt 2).toInt = 2 := by decide
  refine pj_Y_X (M := pj_m62) rfl rfl (Nat.le_of_ble_eq_true rfl) ?_
  have hK : pj_kpt kc_62_1_4 G0 G0 := pj_kpt_r _ _
  show pj_X _ _ G0 0 [(0, .ref 27), (1, .ref 2), (2, .int lv), (3, .int dp)] [] _
  refine pj_X_of (fun r h => pj_R_to (G0, 2, [(0, .ref 27), (1, .ref 2), (2, .int lv), (3, .int dp)], [.int (Int32.ofInt 2), .int lv], 0, 0) 2 3 (fun _ => rfl) h) ?_
  refine pj_X_of (fun r h => pj_R_icT 12 rfl rfl (pj_b_leT (by omega)) h) ?_
  refine pj_X_of (fun r h => pj_R_to (G0, 17, [(0, .ref 27), (1, .ref 2), (2, .int lv), (3, .int dp)], [.int (lv + (Int32.ofInt 1)), .ref 2, .ref 27], 0, 0) 17 6 (fun _ => rfl) h) ?_
  obtain ⟨z13, hz13⟩ : ∃ z : Int32, z = lv + (Int32.ofInt 1) := ⟨_, rfl⟩
  rw [← hz13]
  have fz13_0 : z13.toInt = lv.toInt + (Int32.ofInt 1).toInt := by rw [hz13]; exact pj_addI (by have := pj_i32 lv; have := pj_i32 (Int32.ofInt 1); omega) (by have := pj_i32 lv; have := pj_i32 (Int32.ofInt 1); omega)
  refine pj_X_of (fun r h => pj_R_to (G0, 18, [(0, .ref 27), (1, .ref 2), (2, .int lv), (3, .int dp)], [.int dp, .int z13, .ref 2, .ref 27], 0, 0) 18 2 (fun _ => rfl) h) ?_
  refine pj_X_ca (vs := [.ref 27, .ref 2, .int z13, .int dp]) rfl (fun _ => rfl) ⟨Nat.le_of_ble_eq_true rfl, Nat.le_of_ble_eq_true rfl, pj_T_rcv hI rfl⟩ ⟨rfl, rfl⟩ (pj_Y_up (by decide) (ct_62_2_4 G0 hI z13 dp ⟨by omega, by omega⟩ ⟨by omega, by omega⟩)) ?_
  rintro _ G15 ⟨rfl, iG15, jG15⟩
  have kG15 : pj_kpt kc_62_1_4 G0 G15 := pj_kpt_t hK (pj_kpt_s jG15 rfl)
  show pj_X _ _ G15 21 [(0, .ref 27), (1, .ref 2), (2, .int lv), (3, .int dp)] [] _
  refine pj_X_of (fun r h => pj_R_to (G15, 22, [(0, .ref 27), (1, .ref 2), (2, .int lv), (3, .int dp)], [.int lv], 0, 0) 22 2 (fun _ => rfl) h) ?_
  refine pj_X_of (fun r h => pj_R_ifT 29 rfl rfl (pj_b0_neT (by omega)) h) ?_
  refine pj_X_of (fun r h => pj_R_to (G15, 36, [(5, .int (Int32.ofInt 0)), (4, .int ((Int8.ofInt 40).toInt32)), (0, .ref 27), (1, .ref 2), (2, .int lv), (3, .int dp)], [], 0, 0) 36 5 (fun _ => rfl) h) ?_
  exact pj_X_sub [(0, .ref 27), (1, .ref 2), (2, .int lv), (3, .int dp), (4, .int ((Int8.ofInt 40).toInt32)), (5, .int (Int32.ofInt 0))] (show List.Nodup [0, 1, 2, 3, 4, 5] by decide) ⟨rfl, rfl, rfl, rfl, rfl, rfl, trivial⟩ ((lp_ct_62_1_4 G0 hI lv dp rlv rdp 41) G15 iG15 kG15 ((Int8.ofInt 40).toInt32) (Int32.ofInt 0) ⟨by omega, by omega⟩ ⟨by omega, by omega⟩ (by omega))
def kc_62_0_4 : pj_KT := ([(2, 3), (2, 4), (27, 3)], [2, 27, 28, 29], [28, 29])
theorem lp_ct_62_0_4 (G0 : pj_G) (hI0 : pj_Inv G0) (lv : Int32) (dp : Int32) (rlv : (0 : Int) ≤ lv.toInt ∧ lv.toInt ≤ 0) (rdp : (4 : Int) ≤ dp.toInt ∧ dp.toInt ≤ 4) : ∀ mn : Nat, (∀ (G : pj_G) (hI : pj_Inv G) (hK : pj_kpt kc_62_0_4 G0 G) (v4 : Int32) (v5 : Int32), ((1 : Int) ≤ v4.toInt ∧ v4.toInt ≤ 40) → ((0 : Int) ≤ v5.toInt ∧ v5.toInt ≤ 40) → 40 - v5.toInt < (mn : Int) → pj_X 21 pj_m62 G 36 [(0, .ref 27), (1, .ref 2), (2, .int lv), (3, .int dp), (4, .int v4), (5, .int v5)] [] (fun v G' => v = none ∧ pj_Inv G' ∧ pj_kpt kc_62_0_4 G0 G')) := by
  have c0_ : ((Int16.ofInt 3000).toInt32).toInt = 3000 := by decide
  have c1_ : (Int32.ofInt (-1)).toInt = -1 := by decide
  have c2_ : (Int32.ofInt 0).toInt = 0 := by decide
  have c3_ : (Int32.ofInt 1).toInt = 1 := by decide
  have c4_ : (Int32.ofInt 2).toInt = 2 := by decide
  intro mn
  induction mn with
  | zero =>
    intro G hI hK v4 v5 rv4 rv5 hm
    exfalso
    omega
  | succ mn ih =>
    intro G hI hK v4 v5 rv4 rv5 hm
    refine pj_X_of (fun r h => pj_R_to (G, 40, [(0, .ref 27), (1, .ref 2), (2, .int lv), (3, .int dp), (4, .int v4), (5, .int v5)], [.int v4, .int v5], 0, 0) 40 3 (fun _ => rfl) h) ?_
    cases b1 : pj_c1 .ge v5 v4 with
    | true =>
      have ub1 := pj_u_geT b1
      refine pj_X_of (fun r h => pj_R_icT 85 rfl rfl b1 h) ?_
      exact pj_X_rt rfl rfl ⟨rfl, hI, hK⟩
    | false =>
      have ub1 := pj_u_geF b1
      refine pj_X_of (fun r h => pj_R_icF rfl b1 h) ?_
      refine pj_X_of (fun r h => pj_R_to (G, 45, [(0, .ref 27), (1, .ref 2), (2, .int lv), (3, .int dp), (4, .int v4), (5, .int v5)], [.int lv, .ref 2], 0, 0) 45 3 (fun _ => rfl) h) ?_
      refine pj_X_ca (vs := [.int lv]) rfl (fun _ => rfl) ⟨Nat.le_of_ble_eq_true rfl, Nat.le_of_ble_eq_true rfl, rfl⟩ ⟨rfl, rfl⟩ (pj_Y_up (by decide) (ct_61_0 G hI lv ⟨by omega, by omega⟩)) ?_
      rintro _ _ ⟨rfl, rfl⟩
      show pj_X _ _ G 48 [(0, .ref 27), (1, .ref 2), (2, .int lv), (3, .int dp), (4, .int v4), (5, .int v5)] [.retAddr 5, .ref 2] _
      refine pj_X_ca (vs := [.ref 2, .retAddr 5]) rfl (fun _ => rfl) ⟨Nat.le_of_ble_eq_true rfl, Nat.le_of_ble_eq_true rfl, pj_T_rcv hI rfl⟩ ⟨rfl, rfl⟩ (pj_Y_up (by decide) (ct_84_s5 G hI)) ?_
      rintro _ G4 ⟨y3, rfl, iG4, jG4, ry3⟩
      have kG4 : pj_kpt kc_62_0_4 G0 G4 := pj_kpt_t hK (pj_kpt_s jG4 rfl)
      show pj_X _ _ G4 51 [(0, .ref 27), (1, .ref 2), (2, .int lv), (3, .int dp), (4, .int v4), (5, .int v5)] [.int y3] _
      refine pj_X_of (fun r h => pj_R_to (G4, 56, [(6, .int y3), (0, .ref 27), (1, .ref 2), (2, .int lv), (3, .int dp), (4, .int v4), (5, .int v5)], [.int (Int32.ofInt (-1)), .int y3], 0, 0) 56 4 (fun _ => rfl) h) ?_
      cases b5 : pj_c1 .ne y3 (Int32.ofInt (-1)) with
      | true =>
        have ub5 := pj_u_neT b5
        refine pj_X_of (fun r h => pj_R_icT 60 rfl rfl b5 h) ?_
        refine pj_X_of (fun r h => pj_R_to (G4, 65, [(6, .int y3), (0, .ref 27), (1, .ref 2), (2, .int lv), (3, .int dp), (4, .int v4), (5, .int v5)], [.int (lv + (Int32.ofInt 1)), .ref 2, .ref 27], 0, 0) 65 6 (fun _ => rfl) h) ?_
        obtain ⟨z6, hz6⟩ : ∃ z : Int32, z = lv + (Int32.ofInt 1) := ⟨_, rfl⟩
        rw [← hz6]
        have fz6_0 : z6.toInt = lv.toInt + (Int32.ofInt 1).toInt := by rw [hz6]; exact pj_addI (by have := pj_i32 lv; have := pj_i32 (Int32.ofInt 1); omega) (by have := pj_i32 lv; have := pj_i32 (Int32.ofInt 1); omega)
        refine pj_X_of (fun r h => pj_R_to (G4, 66, [(6, .int y3), (0, .ref 27), (1, .ref 2), (2, .int lv), (3, .int dp), (4, .int v4), (5, .int v5)], [.int dp, .int z6, .ref 2, .ref 27], 0, 0) 66 2 (fun _ => rfl) h) ?_
        refine pj_X_ca (vs := [.ref 27, .ref 2, .int z6, .int dp]) rfl (fun _ => rfl) ⟨Nat.le_of_ble_eq_true rfl, Nat.le_of_ble_eq_true rfl, pj_T_rcv iG4 rfl⟩ ⟨rfl, rfl⟩ (pj_Y_up (by decide) (ct_62_1_4 G4 iG4 z6 dp ⟨by omega, by omega⟩ ⟨by omega, by omega⟩)) ?_
        rintro _ G8 ⟨rfl, iG8, jG8⟩
        have kG8 : pj_kpt kc_62_0_4 G0 G8 := pj_kpt_t kG4 (pj_kpt_s jG8 rfl)
        show pj_X _ _ G8 69 [(6, .int y3), (0, .ref 27), (1, .ref 2), (2, .int lv), (3, .int dp), (4, .int v4), (5, .int v5)] [] _
        refine pj_X_of (fun r h => pj_R_to (G8, 76, [(6, .int y3), (0, .ref 27), (1, .ref 2), (2, .int lv), (3, .int dp), (4, .int v4), (5, .int v5)], [.int (((Int16.ofInt 3000).toInt32) + y3), .ref 27], 0, 0) 76 5 (fun _ => rfl) h) ?_
        obtain ⟨z9, hz9⟩ : ∃ z : Int32, z = ((Int16.ofInt 3000).toInt32) + y3 := ⟨_, rfl⟩
        rw [← hz9]
        have fz9_0 : z9.toInt = ((Int16.ofInt 3000).toInt32).toInt + y3.toInt := by rw [hz9]; exact pj_addI (by have := pj_i32 ((Int16.ofInt 3000).toInt32); have := pj_i32 y3; omega) (by have := pj_i32 ((Int16.ofInt 3000).toInt32); have := pj_i32 y3; omega)
        refine pj_X_ca (vs := [.ref 27, .int z9]) rfl (fun _ => rfl) ⟨Nat.le_of_ble_eq_true rfl, Nat.le_of_ble_eq_true rfl, pj_T_rcv iG8 rfl⟩ ⟨rfl, rfl⟩ (pj_Y_up (by decide) (ct_60 G8 iG8 z9 (by omega))) ?_
        rintro _ G11 ⟨rfl, iG11, jG11⟩
        have kG11 : pj_kpt kc_62_0_4 G0 G11 := pj_kpt_t kG8 (pj_kpt_s jG11 rfl)
        show pj_X _ _ G11 79 [(6, .int y3), (0, .ref 27), (1, .ref 2), (2, .int lv), (3, .int dp), (4, .int v4), (5, .int v5)] [] _
        refine pj_X_of (fun r h => pj_R_to (G11, 82, [(5, .int (v5 + Int32.ofInt 1)), (6, .int y3), (0, .ref 27), (1, .ref 2), (2, .int lv), (3, .int dp), (4, .int v4)], [], 0, 0) 82 2 (fun _ => rfl) h) ?_
        obtain ⟨z12, hz12⟩ : ∃ z : Int32, z = v5 + Int32.ofInt 1 := ⟨_, rfl⟩
        rw [← hz12]
        have fz12_0 : z12.toInt = v5.toInt + (Int32.ofInt 1).toInt := by rw [hz12]; exact pj_addI (by have := pj_i32 v5; have := pj_i32 (Int32.ofInt 1); omega) (by have := pj_i32 v5; have := pj_i32 (Int32.ofInt 1); omega)
        refine pj_X_of (fun r h => pj_R_to (G11, 36, [(5, .int z12), (6, .int y3), (0, .ref 27), (1, .ref 2), (2, .int lv), (3, .int dp), (4, .int v4)], [], 0, 0) 36 2 (fun _ => rfl) h) ?_
        exact pj_X_sub [(0, .ref 27), (1, .ref 2), (2, .int lv), (3, .int dp), (4, .int v4), (5, .int z12)] (show List.Nodup [0, 1, 2, 3, 4, 5] by decide) ⟨rfl, rfl, rfl, rfl, rfl, rfl, trivial⟩ (ih G11 iG11 kG11 v4 z12 ⟨by omega, by omega⟩ ⟨by omega, by omega⟩ (by omega))
      | false =>
        have ub5 := pj_u_neF b5
        refine pj_X_of (fun r h => pj_R_icF rfl b5 h) ?_
        exact pj_X_rt rfl rfl ⟨rfl, iG4, kG4⟩
theorem ct_62_0_4 (G0 : pj_G) (hI : pj_Inv G0) (lv : Int32) (dp : Int32) (rlv : (0 : Int) ≤ lv.toInt ∧ lv.toInt ≤ 0) (rdp : (4 : Int) ≤ dp.toInt ∧ dp.toInt ≤ 4) : pj_Y 22 62 [.ref 27, .ref 2, .int lv, .int dp] G0 (fun v G' => v = none ∧ pj_Inv G' ∧ pj_kpt kc_62_0_4 G0 G') := by
  have c0_ : ((Int16.ofInt 3000).toInt32).toInt = 3000 := by decide
  have c1_ : (Int32.ofInt (-1)).toInt = -1 := by decide
  have c2_ : (Int32.ofInt 0).toInt = 0 := by decide
  have c3_ : (Int32.ofInt 1).toInt = 1 := by decide
  have c4_ : (Int32.ofInt 2).toInt = 2 := by decide
  refine pj_Y_X (M := pj_m62) rfl rfl (Nat.le_of_ble_eq_true rfl) ?_
  have hK : pj_kpt kc_62_0_4 G0 G0 := pj_kpt_r _ _
  show pj_X _ _ G0 0 [(0, .ref 27), (1, .ref 2), (2, .int lv), (3, .int dp)] [] _
  refine pj_X_of (fun r h => pj_R_to (G0, 2, [(0, .ref 27), (1, .ref 2), (2, .int lv), (3, .int dp)], [.int (Int32.ofInt 2), .int lv], 0, 0) 2 3 (fun _ => rfl) h) ?_
  refine pj_X_of (fun r h => pj_R_icT 12 rfl rfl (pj_b_leT (by omega)) h) ?_
  refine pj_X_of (fun r h => pj_R_to (G0, 17, [(0, .ref 27), (1, .ref 2), (2, .int lv), (3, .int dp)], [.int (lv + (Int32.ofInt 1)), .ref 2, .ref 27], 0, 0) 17 6 (fun _ => rfl) h) ?_
  obtain ⟨z13, hz13⟩ : ∃ z : Int32, z = lv + (Int32.ofInt 1) := ⟨_, rfl⟩
  rw [← hz13]
  have fz13_0 : z13.toInt = lv.toInt + (Int32.ofInt 1).toInt := by rw [hz13]; exact pj_addI (by have := pj_i32 lv; have := pj_i32 (Int32.ofInt 1); omega) (by have := pj_i32 lv; have := pj_i32 (Int32.ofInt 1); omega)
  refine pj_X_of (fun r h => pj_R_to (G0, 18, [(0, .ref 27), (1, .ref 2), (2, .int lv), (3, .int dp)], [.int dp, .int z13, .ref 2, .ref 27], 0, 0) 18 2 (fun _ => rfl) h) ?_
  refine pj_X_ca (vs := [.ref 27, .ref 2, .int z13, .int dp]) rfl (fun _ => rfl) ⟨Nat.le_of_ble_eq_true rfl, Nat.le_of_ble_eq_true rfl, pj_T_rcv hI rfl⟩ ⟨rfl, rfl⟩ (pj_Y_up (by decide) (ct_62_1_4 G0 hI z13 dp ⟨by omega, by omega⟩ ⟨by omega, by omega⟩)) ?_
  rintro _ G15 ⟨rfl, iG15, jG15⟩
  have kG15 : pj_kpt kc_62_0_4 G0 G15 := pj_kpt_t hK (pj_kpt_s jG15 rfl)
  show pj_X _ _ G15 21 [(0, .ref 27), (1, .ref 2), (2, .int lv), (3, .int dp)] [] _
  refine pj_X_of (fun r h => pj_R_to (G15, 22, [(0, .ref 27), (1, .ref 2), (2, .int lv), (3, .int dp)], [.int lv], 0, 0) 22 2 (fun _ => rfl) h) ?_
  refine pj_X_of (fun r h => pj_R_ifF rfl (pj_b0_neF (by omega)) h) ?_
  refine pj_X_of (fun r h => pj_R_to (G15, 36, [(5, .int (Int32.ofInt 0)), (4, .int (Int32.ofInt 1)), (0, .ref 27), (1, .ref 2), (2, .int lv), (3, .int dp)], [], 0, 0) 36 6 (fun _ => rfl) h) ?_
  exact pj_X_sub [(0, .ref 27), (1, .ref 2), (2, .int lv), (3, .int dp), (4, .int (Int32.ofInt 1)), (5, .int (Int32.ofInt 0))] (show List.Nodup [0, 1, 2, 3, 4, 5] by decide) ⟨rfl, rfl, rfl, rfl, rfl, rfl, trivial⟩ ((lp_ct_62_0_4 G0 hI lv dp rlv rdp 41) G15 iG15 kG15 (Int32.ofInt 1) (Int32.ofInt 0) ⟨by omega, by omega⟩ ⟨by omega, by omega⟩ (by omega))
def kc_64_3 : pj_KT := ([(2, 3), (2, 4), (27, 3)], [2, 27, 28, 29], [28, 29])
theorem ct_64_3 (G0 : pj_G) (hI : pj_Inv G0) (dp : Int32) (rdp : (3 : Int) ≤ dp.toInt ∧ dp.toInt ≤ 3) : pj_Y 23 64 [.ref 27, .ref 2, .int dp] G0 (fun v G' => v = none ∧ pj_Inv G' ∧ pj_kpt kc_64_3 G0 G') := by
  have c0_ : ((Int16.ofInt 1000).toInt32).toInt = 1000 := by decide
  have c1_ : ((Int8.ofInt 40).toInt32).toInt = 40 := by decide
  have c2_ : ((Int8.ofInt 41).toInt32).toInt = 41 := by decide
  have c3_ : (Int32.ofInt (-1)).toInt = -1 := by decide
  have c4_ : (Int32.ofInt 0).toInt = 0 := by decide
  have c5_ : (Int32.ofInt 1).toInt = 1 := by decide
  have c6_ : (Int32.ofInt 3).toInt = 3 := by decide
  have c7_ : (Int32.ofInt 4).toInt = 4 := by decide
  refine pj_Y_X (M := pj_m64) rfl rfl (Nat.le_of_ble_eq_true rfl) ?_
  have hK : pj_kpt kc_64_3 G0 G0 := pj_kpt_r _ _
  show pj_X _ _ G0 0 [(0, .ref 27), (1, .ref 2), (2, .int dp)] [] _
  refine pj_X_of (fun r h => pj_R_to (G0, 1, [(0, .ref 27), (1, .ref 2), (2, .int dp)], [.ref 2], 0, 0) 1 2 (fun _ => rfl) h) ?_
  refine pj_X_ca (vs := [.ref 2]) rfl (fun _ => rfl) ⟨Nat.le_of_ble_eq_true rfl, Nat.le_of_ble_eq_true rfl, pj_T_rcv hI rfl⟩ ⟨rfl, rfl⟩ (pj_Y_up (by decide) (ct_85 G0 hI)) ?_
  rintro _ _ ⟨y1, rfl, rfl, ry1⟩
  show pj_X _ _ G0 4 [(0, .ref 27), (1, .ref 2), (2, .int dp)] [.int y1] _
  cases b2 : pj_c1 .eq y1 0 with
  | true =>
    have ub2 := pj_u0_eqT b2
    refine pj_X_of (fun r h => pj_R_ifT 19 rfl rfl b2 h) ?_
    refine pj_X_of (fun r h => pj_R_to (G0, 21, [(0, .ref 27), (1, .ref 2), (2, .int dp)], [.int (Int32.ofInt 4), .int dp], 0, 0) 21 3 (fun _ => rfl) h) ?_
    refine pj_X_of (fun r h => pj_R_icF rfl (pj_b_geF (by omega)) h) ?_
    refine pj_X_of (fun r h => pj_R_to (G0, 27, [(0, .ref 27), (1, .ref 2), (2, .int dp)], [.int ((Int8.ofInt 40).toInt32), .ref 2], 0, 0) 27 3 (fun _ => rfl) h) ?_
    refine pj_X_ca (vs := [.ref 2, .int ((Int8.ofInt 40).toInt32)]) rfl (fun _ => rfl) ⟨Nat.le_of_ble_eq_true rfl, Nat.le_of_ble_eq_true rfl, pj_T_rcv hI rfl⟩ ⟨rfl, rfl⟩ (pj_Y_up (by decide) (ct_82 G0 hI ((Int8.ofInt 40).toInt32) ⟨by omega, by omega⟩)) ?_
    rintro _ G4 ⟨y3, rfl, iG4, jG4, ry3⟩
    have kG4 : pj_kpt kc_64_3 G0 G4 := pj_kpt_t hK (pj_kpt_s jG4 rfl)
    show pj_X _ _ G4 30 [(0, .ref 27), (1, .ref 2), (2, .int dp)] [.int y3] _
    cases b5 : pj_c1 .eq y3 0 with
    | true =>
      have ub5 := pj_u0_eqT b5
      refine pj_X_of (fun r h => pj_R_ifT 54 rfl rfl b5 h) ?_
      refine pj_X_of (fun r h => pj_R_to (G4, 57, [(0, .ref 27), (1, .ref 2), (2, .int dp)], [.retAddr 8, .ref 2], 0, 0) 57 3 (fun _ => rfl) h) ?_
      refine pj_X_ca (vs := [.ref 2, .retAddr 8]) rfl (fun _ => rfl) ⟨Nat.le_of_ble_eq_true rfl, Nat.le_of_ble_eq_true rfl, pj_T_rcv iG4 rfl⟩ ⟨rfl, rfl⟩ (pj_Y_up (by decide) (ct_84_s8 G4 iG4)) ?_
      rintro _ G7 ⟨y6, rfl, iG7, jG7, ry6⟩
      have kG7 : pj_kpt kc_64_3 G0 G7 := pj_kpt_t kG4 (pj_kpt_s jG7 rfl)
      show pj_X _ _ G7 60 [(0, .ref 27), (1, .ref 2), (2, .int dp)] [.int y6] _
      refine pj_X_of (fun r h => pj_R_to (G7, 63, [(3, .int y6), (0, .ref 27), (1, .ref 2), (2, .int dp)], [.int (Int32.ofInt (-1)), .int y6], 0, 0) 63 4 (fun _ => rfl) h) ?_
      cases b8 : pj_c1 .ne y6 (Int32.ofInt (-1)) with
      | true =>
        have ub8 := pj_u_neT b8
        refine pj_X_of (fun r h => pj_R_icT 73 rfl rfl b8 h) ?_
        refine pj_X_of (fun r h => pj_R_to (G7, 81, [(3, .int y6), (0, .ref 27), (1, .ref 2), (2, .int dp)], [.int ((y6.toUInt32 % 65536).toInt32), .retAddr 8, .int ((Int16.ofInt 1000).toInt32), .ref 27], 0, 0) 81 6 (fun _ => rfl) h) ?_
        obtain ⟨z9, hz9⟩ : ∃ z : Int32, z = (y6.toUInt32 % 65536).toInt32 := ⟨_, rfl⟩
        rw [← hz9]
        have fz9_0 : z9.toInt = y6.toInt := by rw [hz9]; exact pj_i2cI (by omega) (by omega)
        refine pj_X_ca (vs := [.retAddr 8, .int z9]) rfl (fun _ => rfl) ⟨Nat.le_of_ble_eq_true rfl, Nat.le_of_ble_eq_true rfl, rfl⟩ ⟨rfl, rfl⟩ (pj_Y_up (by decide) (ct_290_s8 G7 iG7 z9 ⟨by omega, by omega⟩)) ?_
        rintro _ _ ⟨y10, rfl, rfl, ry10⟩
        show pj_X _ _ G7 84 [(3, .int y6), (0, .ref 27), (1, .ref 2), (2, .int dp)] [.int y10, .int ((Int16.ofInt 1000).toInt32), .ref 27] _
        refine pj_X_of (fun r h => pj_R_to (G7, 85, [(3, .int y6), (0, .ref 27), (1, .ref 2), (2, .int dp)], [.int (((Int16.ofInt 1000).toInt32) + y10), .ref 27], 0, 0) 85 2 (fun _ => rfl) h) ?_
        obtain ⟨z11, hz11⟩ : ∃ z : Int32, z = ((Int16.ofInt 1000).toInt32) + y10 := ⟨_, rfl⟩
        rw [← hz11]
        have fz11_0 : z11.toInt = ((Int16.ofInt 1000).toInt32).toInt + y10.toInt := by rw [hz11]; exact pj_addI (by have := pj_i32 ((Int16.ofInt 1000).toInt32); have := pj_i32 y10; omega) (by have := pj_i32 ((Int16.ofInt 1000).toInt32); have := pj_i32 y10; omega)
        refine pj_X_ca (vs := [.ref 27, .int z11]) rfl (fun _ => rfl) ⟨Nat.le_of_ble_eq_true rfl, Nat.le_of_ble_eq_true rfl, pj_T_rcv iG7 rfl⟩ ⟨rfl, rfl⟩ (pj_Y_up (by decide) (ct_60 G7 iG7 z11 (by omega))) ?_
        rintro _ G13 ⟨rfl, iG13, jG13⟩
        have kG13 : pj_kpt kc_64_3 G0 G13 := pj_kpt_t kG7 (pj_kpt_s jG13 rfl)
        show pj_X _ _ G13 88 [(3, .int y6), (0, .ref 27), (1, .ref 2), (2, .int dp)] [] _
        exact pj_X_rt rfl rfl ⟨rfl, iG13, kG13⟩
      | false =>
        have ub8 := pj_u_neF b8
        refine pj_X_of (fun r h => pj_R_icF rfl b8 h) ?_
        refine pj_X_of (fun r h => pj_R_to (G7, 67, [(3, .int y6), (0, .ref 27), (1, .ref 2), (2, .int dp)], [.ref 2], 0, 0) 67 2 (fun _ => rfl) h) ?_
        refine pj_X_ca (vs := [.ref 2]) rfl (fun _ => rfl) ⟨Nat.le_of_ble_eq_true rfl, Nat.le_of_ble_eq_true rfl, pj_T_rcv iG7 rfl⟩ ⟨rfl, rfl⟩ (pj_Y_up (by decide) (ct_81 G7 iG7)) ?_
        rintro _ G15 ⟨rfl, iG15, jG15, eG15⟩
        have kG15 : pj_kpt kc_64_3 G0 G15 := pj_kpt_t kG7 (pj_kpt_s jG15 rfl)
        show pj_X _ _ G15 70 [(3, .int y6), (0, .ref 27), (1, .ref 2), (2, .int dp)] [] _
        refine pj_X_of (fun r h => pj_R_to (G15, 88, [(3, .int y6), (0, .ref 27), (1, .ref 2), (2, .int dp)], [], 0, 0) 88 2 (fun _ => rfl) h) ?_
        exact pj_X_rt rfl rfl ⟨rfl, iG15, kG15⟩
    | false =>
      have ub5 := pj_u0_eqF b5
      refine pj_X_of (fun r h => pj_R_ifF rfl b5 h) ?_
      refine pj_X_of (fun r h => pj_R_to (G4, 39, [(0, .ref 27), (1, .ref 2), (2, .int dp)], [.int (dp + (Int32.ofInt 1)), .int (Int32.ofInt 0), .ref 2, .ref 27], 0, 0) 39 7 (fun _ => rfl) h) ?_
      obtain ⟨z16, hz16⟩ : ∃ z : Int32, z = dp + (Int32.ofInt 1) := ⟨_, rfl⟩
      rw [← hz16]
      have fz16_0 : z16.toInt = dp.toInt + (Int32.ofInt 1).toInt := by rw [hz16]; exact pj_addI (by have := pj_i32 dp; have := pj_i32 (Int32.ofInt 1); omega) (by have := pj_i32 dp; have := pj_i32 (Int32.ofInt 1); omega)
      refine pj_X_ca (vs := [.ref 27, .ref 2, .int (Int32.ofInt 0), .int z16]) rfl (fun _ => rfl) ⟨Nat.le_of_ble_eq_true rfl, Nat.le_of_ble_eq_true rfl, pj_T_rcv iG4 rfl⟩ ⟨rfl, rfl⟩ (pj_Y_up (by decide) (ct_62_0_4 G4 iG4 (Int32.ofInt 0) z16 ⟨by omega, by omega⟩ ⟨by omega, by omega⟩)) ?_
      rintro _ G18 ⟨rfl, iG18, jG18⟩
      have kG18 : pj_kpt kc_64_3 G0 G18 := pj_kpt_t kG4 (pj_kpt_s jG18 rfl)
      show pj_X _ _ G18 42 [(0, .ref 27), (1, .ref 2), (2, .int dp)] [] _
      refine pj_X_of (fun r h => pj_R_to (G18, 47, [(0, .ref 27), (1, .ref 2), (2, .int dp)], [.int ((Int8.ofInt 41).toInt32), .int ((Int8.ofInt 41).toInt32), .ref 2], 0, 0) 47 4 (fun _ => rfl) h) ?_
      refine pj_X_ca (vs := [.ref 2, .int ((Int8.ofInt 41).toInt32), .int ((Int8.ofInt 41).toInt32)]) rfl (fun _ => rfl) ⟨Nat.le_of_ble_eq_true rfl, Nat.le_of_ble_eq_true rfl, pj_T_rcv iG18 rfl⟩ ⟨rfl, rfl⟩ (pj_Y_up (by decide) (ct_83 G18 iG18 ((Int8.ofInt 41).toInt32) ((Int8.ofInt 41).toInt32) ⟨by omega, by omega⟩ ⟨by omega, by omega⟩)) ?_
      rintro _ G20 ⟨y19, rfl, iG20, jG20, ry19, ey19⟩
      have kG20 : pj_kpt kc_64_3 G0 G20 := pj_kpt_t kG18 (pj_kpt_s jG20 rfl)
      show pj_X _ _ G20 50 [(0, .ref 27), (1, .ref 2), (2, .int dp)] [.int y19] _
      refine pj_X_of (fun r h => pj_R_to (G20, 88, [(0, .ref 27), (1, .ref 2), (2, .int dp)], [], 0, 0) 88 3 (fun _ => rfl) h) ?_
      exact pj_X_rt rfl rfl ⟨rfl, iG20, kG20⟩
  | false =>
    have ub2 := pj_u0_eqF b2
    refine pj_X_of (fun r h => pj_R_ifF rfl b2 h) ?_
    refine pj_X_of (fun r h => pj_R_to (G0, 10, [(0, .ref 27), (1, .ref 2), (2, .int dp)], [.int (Int32.ofInt 3), .ref 2, .ref 27], 0, 0) 10 4 (fun _ => rfl) h) ?_
    refine pj_X_ca (vs := [.ref 2, .int (Int32.ofInt 3)]) rfl (fun _ => rfl) ⟨Nat.le_of_ble_eq_true rfl, Nat.le_of_ble_eq_true rfl, pj_T_rcv hI rfl⟩ ⟨rfl, rfl⟩ (pj_Y_up (by decide) (ct_86 G0 hI (Int32.ofInt 3) ⟨by omega, by omega⟩)) ?_
    rintro _ G22 ⟨y21, rfl, iG22, jG22, ry21⟩
    have kG22 : pj_kpt kc_64_3 G0 G22 := pj_kpt_t hK (pj_kpt_s jG22 rfl)
    show pj_X _ _ G22 13 [(0, .ref 27), (1, .ref 2), (2, .int dp)] [.int y21, .ref 27] _
    refine pj_X_ca (vs := [.ref 27, .int y21]) rfl (fun _ => rfl) ⟨Nat.le_of_ble_eq_true rfl, Nat.le_of_ble_eq_true rfl, pj_T_rcv iG22 rfl⟩ ⟨rfl, rfl⟩ (pj_Y_up (by decide) (ct_60 G22 iG22 y21 (by omega))) ?_
    rintro _ G24 ⟨rfl, iG24, jG24⟩
    have kG24 : pj_kpt kc_64_3 G0 G24 := pj_kpt_t kG22 (pj_kpt_s jG24 rfl)
    show pj_X _ _ G24 16 [(0, .ref 27), (1, .ref 2), (2, .int dp)] [] _
    refine pj_X_of (fun r h => pj_R_to (G24, 88, [(0, .ref 27), (1, .ref 2), (2, .int dp)], [], 0, 0) 88 2 (fun _ => rfl) h) ?_
    exact pj_X_rt rfl rfl ⟨rfl, iG24, kG24⟩
def kc_63_3 : pj_KT := ([(2, 3), (2, 4), (27, 3)], [2, 27, 28, 29], [28, 29])
theorem lp_ct_63_3 (G0 : pj_G) (hI0 : pj_Inv G0) (dp : Int32) (rdp : (3 : Int) ≤ dp.toInt ∧ dp.toInt ≤ 3) : ∀ mn : Nat, (∀ (G : pj_G) (hI : pj_Inv G) (hK : pj_kpt kc_63_3 G0 G) (v3 : Int32) (v4 : Int32), ((0 : Int) ≤ v3.toInt ∧ v3.toInt ≤ 1) → ((0 : Int) ≤ v4.toInt ∧ v4.toInt ≤ 40) → 40 - v4.toInt < (mn : Int) → pj_X 23 pj_m63 G 5 [(0, .ref 27), (1, .ref 2), (2, .int dp), (3, .int v3), (4, .int v4)] [] (fun v G' => v = none ∧ pj_Inv G' ∧ pj_kpt kc_63_3 G0 G')) := by
  have c0_ : ((Int16.ofInt 2000).toInt32).toInt = 2000 := by decide
  have c1_ : ((Int8.ofInt 40).toInt32).toInt = 40 := by decide
  have c2_ : ((Int8.ofInt 45).toInt32).toInt = 45 := by decide
  have c3_ : (Int32.ofInt 0).toInt = 0 := by decide
  have c4_ : (Int32.ofInt 1).toInt = 1 := by decide
  intro mn
  induction mn with
  | zero =>
    intro G hI hK v3 v4 rv3 rv4 hm
    exfalso
    omega
  | succ mn ih =>
    intro G hI hK v3 v4 rv3 rv4 hm
    refine pj_X_of (fun r h => pj_R_to (G, 9, [(0, .ref 27), (1, .ref 2), (2, .int dp), (3, .int v3), (4, .int v4)], [.int ((Int8.ofInt 40).toInt32), .int v4], 0, 0) 9 3 (fun _ => rfl) h) ?_
    cases b1 : pj_c1 .ge v4 ((Int8.ofInt 40).toInt32) with
    | true =>
      have ub1 := pj_u_geT b1
      refine pj_X_of (fun r h => pj_R_icT 37 rfl rfl b1 h) ?_
      refine pj_X_of (fun r h => pj_R_to (G, 40, [(0, .ref 27), (1, .ref 2), (2, .int dp), (3, .int v3), (4, .int v4)], [.int dp, .ref 2, .ref 27], 0, 0) 40 4 (fun _ => rfl) h) ?_
      refine pj_X_ca (vs := [.ref 27, .ref 2, .int dp]) rfl (fun _ => rfl) ⟨Nat.le_of_ble_eq_true rfl, Nat.le_of_ble_eq_true rfl, pj_T_rcv hI rfl⟩ ⟨rfl, rfl⟩ (pj_Y_up (by decide) (ct_64_3 G hI dp ⟨by omega, by omega⟩)) ?_
      rintro _ G3 ⟨rfl, iG3, jG3⟩
      have kG3 : pj_kpt kc_63_3 G0 G3 := pj_kpt_t hK (pj_kpt_s jG3 rfl)
      show pj_X _ _ G3 43 [(0, .ref 27), (1, .ref 2), (2, .int dp), (3, .int v3), (4, .int v4)] [] _
      refine pj_X_of (fun r h => pj_R_to (G3, 44, [(0, .ref 27), (1, .ref 2), (2, .int dp), (3, .int v3), (4, .int v4)], [.int v3], 0, 0) 44 2 (fun _ => rfl) h) ?_
      cases b4 : pj_c1 .eq v3 0 with
      | true =>
        have ub4 := pj_u0_eqT b4
        refine pj_X_of (fun r h => pj_R_ifT 54 rfl rfl b4 h) ?_
        exact pj_X_rt rfl rfl ⟨rfl, iG3, kG3⟩
      | false =>
        have ub4 := pj_u0_eqF b4
        refine pj_X_of (fun r h => pj_R_ifF rfl b4 h) ?_
        refine pj_X_of (fun r h => pj_R_to (G3, 51, [(0, .ref 27), (1, .ref 2), (2, .int dp), (3, .int v3), (4, .int v4)], [.int ((Int16.ofInt 2000).toInt32), .ref 27], 0, 0) 51 3 (fun _ => rfl) h) ?_
        refine pj_X_ca (vs := [.ref 27, .int ((Int16.ofInt 2000).toInt32)]) rfl (fun _ => rfl) ⟨Nat.le_of_ble_eq_true rfl, Nat.le_of_ble_eq_true rfl, pj_T_rcv iG3 rfl⟩ ⟨rfl, rfl⟩ (pj_Y_up (by decide) (ct_60 G3 iG3 ((Int16.ofInt 2000).toInt32) (by omega))) ?_
        rintro _ G6 ⟨rfl, iG6, jG6⟩
        have kG6 : pj_kpt kc_63_3 G0 G6 := pj_kpt_t kG3 (pj_kpt_s jG6 rfl)
        show pj_X _ _ G6 54 [(0, .ref 27), (1, .ref 2), (2, .int dp), (3, .int v3), (4, .int v4)] [] _
        exact pj_X_rt rfl rfl ⟨rfl, iG6, kG6⟩
    | false =>
      have ub1 := pj_u_geF b1
      refine pj_X_of (fun r h => pj_R_icF rfl b1 h) ?_
      refine pj_X_of (fun r h => pj_R_to (G, 15, [(0, .ref 27), (1, .ref 2), (2, .int dp), (3, .int v3), (4, .int v4)], [.int ((Int8.ofInt 45).toInt32), .ref 2], 0, 0) 15 3 (fun _ => rfl) h) ?_
      refine pj_X_ca (vs := [.ref 2, .int ((Int8.ofInt 45).toInt32)]) rfl (fun _ => rfl) ⟨Nat.le_of_ble_eq_true rfl, Nat.le_of_ble_eq_true rfl, pj_T_rcv hI rfl⟩ ⟨rfl, rfl⟩ (pj_Y_up (by decide) (ct_82 G hI ((Int8.ofInt 45).toInt32) ⟨by omega, by omega⟩)) ?_
      rintro _ G8 ⟨y7, rfl, iG8, jG8, ry7⟩
      have kG8 : pj_kpt kc_63_3 G0 G8 := pj_kpt_t hK (pj_kpt_s jG8 rfl)
      show pj_X _ _ G8 18 [(0, .ref 27), (1, .ref 2), (2, .int dp), (3, .int v3), (4, .int v4)] [.int y7] _
      cases b9 : pj_c1 .eq y7 0 with
      | true =>
        have ub9 := pj_u0_eqT b9
        refine pj_X_of (fun r h => pj_R_ifT 37 rfl rfl b9 h) ?_
        refine pj_X_of (fun r h => pj_R_to (G8, 40, [(0, .ref 27), (1, .ref 2), (2, .int dp), (3, .int v3), (4, .int v4)], [.int dp, .ref 2, .ref 27], 0, 0) 40 4 (fun _ => rfl) h) ?_
        refine pj_X_ca (vs := [.ref 27, .ref 2, .int dp]) rfl (fun _ => rfl) ⟨Nat.le_of_ble_eq_true rfl, Nat.le_of_ble_eq_true rfl, pj_T_rcv iG8 rfl⟩ ⟨rfl, rfl⟩ (pj_Y_up (by decide) (ct_64_3 G8 iG8 dp ⟨by omega, by omega⟩)) ?_
        rintro _ G11 ⟨rfl, iG11, jG11⟩
        have kG11 : pj_kpt kc_63_3 G0 G11 := pj_kpt_t kG8 (pj_kpt_s jG11 rfl)
        show pj_X _ _ G11 43 [(0, .ref 27), (1, .ref 2), (2, .int dp), (3, .int v3), (4, .int v4)] [] _
        refine pj_X_of (fun r h => pj_R_to (G11, 44, [(0, .ref 27), (1, .ref 2), (2, .int dp), (3, .int v3), (4, .int v4)], [.int v3], 0, 0) 44 2 (fun _ => rfl) h) ?_
        cases b12 : pj_c1 .eq v3 0 with
        | true =>
          have ub12 := pj_u0_eqT b12
          refine pj_X_of (fun r h => pj_R_ifT 54 rfl rfl b12 h) ?_
          exact pj_X_rt rfl rfl ⟨rfl, iG11, kG11⟩
        | false =>
          have ub12 := pj_u0_eqF b12
          refine pj_X_of (fun r h => pj_R_ifF rfl b12 h) ?_
          refine pj_X_of (fun r h => pj_R_to (G11, 51, [(0, .ref 27), (1, .ref 2), (2, .int dp), (3, .int v3), (4, .int v4)], [.int ((Int16.ofInt 2000).toInt32), .ref 27], 0, 0) 51 3 (fun _ => rfl) h) ?_
          refine pj_X_ca (vs := [.ref 27, .int ((Int16.ofInt 2000).toInt32)]) rfl (fun _ => rfl) ⟨Nat.le_of_ble_eq_true rfl, Nat.le_of_ble_eq_true rfl, pj_T_rcv iG11 rfl⟩ ⟨rfl, rfl⟩ (pj_Y_up (by decide) (ct_60 G11 iG11 ((Int16.ofInt 2000).toInt32) (by omega))) ?_
          rintro _ G14 ⟨rfl, iG14, jG14⟩
          have kG14 : pj_kpt kc_63_3 G0 G14 := pj_kpt_t kG11 (pj_kpt_s jG14 rfl)
          show pj_X _ _ G14 54 [(0, .ref 27), (1, .ref 2), (2, .int dp), (3, .int v3), (4, .int v4)] [] _
          exact pj_X_rt rfl rfl ⟨rfl, iG14, kG14⟩
      | false =>
        have ub9 := pj_u0_eqF b9
        refine pj_X_of (fun r h => pj_R_ifF rfl b9 h) ?_
        refine pj_X_of (fun r h => pj_R_to (G8, 22, [(0, .ref 27), (1, .ref 2), (2, .int dp), (3, .int v3), (4, .int v4)], [.int v3], 0, 0) 22 2 (fun _ => rfl) h) ?_
        cases b15 : pj_c1 .ne v3 0 with
        | true =>
          have ub15 := pj_u0_neT b15
          refine pj_X_of (fun r h => pj_R_ifT 29 rfl rfl b15 h) ?_
          refine pj_X_of (fun r h => pj_R_to (G8, 34, [(4, .int (v4 + Int32.ofInt 1)), (3, .int (Int32.ofInt 0)), (0, .ref 27), (1, .ref 2), (2, .int dp)], [], 0, 0) 34 4 (fun _ => rfl) h) ?_
          obtain ⟨z16, hz16⟩ : ∃ z : Int32, z = v4 + Int32.ofInt 1 := ⟨_, rfl⟩
          rw [← hz16]
          have fz16_0 : z16.toInt = v4.toInt + (Int32.ofInt 1).toInt := by rw [hz16]; exact pj_addI (by have := pj_i32 v4; have := pj_i32 (Int32.ofInt 1); omega) (by have := pj_i32 v4; have := pj_i32 (Int32.ofInt 1); omega)
          refine pj_X_of (fun r h => pj_R_to (G8, 5, [(4, .int z16), (3, .int (Int32.ofInt 0)), (0, .ref 27), (1, .ref 2), (2, .int dp)], [], 0, 0) 5 2 (fun _ => rfl) h) ?_
          exact pj_X_sub [(0, .ref 27), (1, .ref 2), (2, .int dp), (3, .int (Int32.ofInt 0)), (4, .int z16)] (show List.Nodup [0, 1, 2, 3, 4] by decide) ⟨rfl, rfl, rfl, rfl, rfl, trivial⟩ (ih G8 iG8 kG8 (Int32.ofInt 0) z16 ⟨by omega, by omega⟩ ⟨by omega, by omega⟩ (by omega))
        | false =>
          have ub15 := pj_u0_neF b15
          refine pj_X_of (fun r h => pj_R_ifF rfl b15 h) ?_
          refine pj_X_of (fun r h => pj_R_to (G8, 34, [(4, .int (v4 + Int32.ofInt 1)), (3, .int (Int32.ofInt 1)), (0, .ref 27), (1, .ref 2), (2, .int dp)], [], 0, 0) 34 5 (fun _ => rfl) h) ?_
          obtain ⟨z17, hz17⟩ : ∃ z : Int32, z = v4 + Int32.ofInt 1 := ⟨_, rfl⟩
          rw [← hz17]
          have fz17_0 : z17.toInt = v4.toInt + (Int32.ofInt 1).toInt := by rw [hz17]; exact pj_addI (by have := pj_i32 v4; have := pj_i32 (Int32.ofInt 1); omega) (by have := pj_i32 v4; have := pj_i32 (Int32.ofInt 1); omega)
          refine pj_X_of (fun r h => pj_R_to (G8, 5, [(4, .int z17), (3, .int (Int32.ofInt 1)), (0, .ref 27), (1, .ref 2), (2, .int dp)], [], 0, 0) 5 2 (fun _ => rfl) h) ?_
          exact pj_X_sub [(0, .ref 27), (1, .ref 2), (2, .int dp), (3, .int (Int32.ofInt 1)), (4, .int z17)] (show List.Nodup [0, 1, 2, 3, 4] by decide) ⟨rfl, rfl, rfl, rfl, rfl, trivial⟩ (ih G8 iG8 kG8 (Int32.ofInt 1) z17 ⟨by omega, by omega⟩ ⟨by omega, by omega⟩ (by omega))
theorem ct_63_3 (G0 : pj_G) (hI : pj_Inv G0) (dp : Int32) (rdp : (3 : Int) ≤ dp.toInt ∧ dp.toInt ≤ 3) : pj_Y 24 63 [.ref 27, .ref 2, .int dp] G0 (fun v G' => v = none ∧ pj_Inv G' ∧ pj_kpt kc_63_3 G0 G') := by
  have c0_ : ((Int16.ofInt 2000).toInt32).toInt = 2000 := by decide
  have c1_ : ((Int8.ofInt 40).toInt32).toInt = 40 := by decide
  have c2_ : ((Int8.ofInt 45).toInt32).toInt = 45 := by decide
  have c3_ : (Int32.ofInt 0).toInt = 0 := by decide
  have c4_ : (Int32.ofInt 1).toInt = 1 := by decide
  refine pj_Y_X (M := pj_m63) rfl rfl (Nat.le_of_ble_eq_true rfl) ?_
  have hK : pj_kpt kc_63_3 G0 G0 := pj_kpt_r _ _
  show pj_X _ _ G0 0 [(0, .ref 27), (1, .ref 2), (2, .int dp)] [] _
  refine pj_X_of (fun r h => pj_R_to (G0, 5, [(4, .int (Int32.ofInt 0)), (3, .int (Int32.ofInt 0)), (0, .ref 27), (1, .ref 2), (2, .int dp)], [], 0, 0) 5 5 (fun _ => rfl) h) ?_
  exact pj_X_sub [(0, .ref 27), (1, .ref 2), (2, .int dp), (3, .int (Int32.ofInt 0)), (4, .int (Int32.ofInt 0))] (show List.Nodup [0, 1, 2, 3, 4] by decide) ⟨rfl, rfl, rfl, rfl, rfl, trivial⟩ ((lp_ct_63_3 G0 hI dp rdp 41) G0 hI hK (Int32.ofInt 0) (Int32.ofInt 0) ⟨by omega, by omega⟩ ⟨by omega, by omega⟩ (by omega))
def kc_62_3_3 : pj_KT := ([(2, 3), (2, 4), (27, 3)], [2, 27, 28, 29], [28, 29])
theorem ct_62_3_3 (G0 : pj_G) (hI : pj_Inv G0) (lv : Int32) (dp : Int32) (rlv : (3 : Int) ≤ lv.toInt ∧ lv.toInt ≤ 3) (rdp : (3 : Int) ≤ dp.toInt ∧ dp.toInt ≤ 3) : pj_Y 25 62 [.ref 27, .ref 2, .int lv, .int dp] G0 (fun v G' => v = none ∧ pj_Inv G' ∧ pj_kpt kc_62_3_3 G0 G') := by
  have c0_ : (Int32.ofInt 2).toInt = 2 := by decide
  refine pj_Y_X (M := pj_m62) rfl rfl (Nat.le_of_ble_eq_true rfl) ?_
  have hK : pj_kpt kc_62_3_3 G0 G0 := pj_kpt_r _ _
  show pj_X _ _ G0 0 [(0, .ref 27), (1, .ref 2), (2, .int lv), (3, .int dp)] [] _
  refine pj_X_of (fun r h => pj_R_to (G0, 2, [(0, .ref 27), (1, .ref 2), (2, .int lv), (3, .int dp)], [.int (Int32.ofInt 2), .int lv], 0, 0) 2 3 (fun _ => rfl) h) ?_
  refine pj_X_of (fun r h => pj_R_icF rfl (pj_b_leF (by omega)) h) ?_
  refine pj_X_of (fun r h => pj_R_to (G0, 8, [(0, .ref 27), (1, .ref 2), (2, .int lv), (3, .int dp)], [.int dp, .ref 2, .ref 27], 0, 0) 8 4 (fun _ => rfl) h) ?_
  refine pj_X_ca (vs := [.ref 27, .ref 2, .int dp]) rfl (fun _ => rfl) ⟨Nat.le_of_ble_eq_true rfl, Nat.le_of_ble_eq_true rfl, pj_T_rcv hI rfl⟩ ⟨rfl, rfl⟩ (pj_Y_up (by decide) (ct_63_3 G0 hI dp ⟨by omega, by omega⟩)) ?_
  rintro _ G2 ⟨rfl, iG2, jG2⟩
  have kG2 : pj_kpt kc_62_3_3 G0 G2 := pj_kpt_t hK (pj_kpt_s jG2 rfl)
  show pj_X _ _ G2 11 [(0, .ref 27), (1, .ref 2), (2, .int lv), (3, .int dp)] [] _
  exact pj_X_rt rfl rfl ⟨rfl, iG2, kG2⟩
def kc_62_2_3 : pj_KT := ([(2, 3), (2, 4), (27, 3)], [2, 27, 28, 29], [28, 29])
theorem lp_ct_62_2_3 (G0 : pj_G) (hI0 : pj_Inv G0) (lv : Int32) (dp : Int32) (rlv : (2 : Int) ≤ lv.toInt ∧ lv.toInt ≤ 2) (rdp : (3 : Int) ≤ dp.toInt ∧ dp.toInt ≤ 3) : ∀ mn : Nat, (∀ (G : pj_G) (hI : pj_Inv G) (hK : pj_kpt kc_62_2_3 G0 G) (v4 : Int32) (v5 : Int32), ((1 : Int) ≤ v4.toInt ∧ v4.toInt ≤ 40) → ((0 : Int) ≤ v5.toInt ∧ v5.toInt ≤ 40) → 40 - v5.toInt < (mn : Int) → pj_X 25 pj_m62 G 36 [(0, .ref 27), (1, .ref 2), (2, .int lv), (3, .int dp), (4, .int v4), (5, .int v5)] [] (fun v G' => v = none ∧ pj_Inv G' ∧ pj_kpt kc_62_2_3 G0 G')) := by
  have c0_ : ((Int16.ofInt 3000).toInt32).toInt = 3000 := by decide
  have c1_ : ((Int8.ofInt 40).toInt32).toInt = 40 := by decide
  have c2_ : (Int32.ofInt (-1)).toInt = -1 := by decide
  have c3_ : (Int32.ofInt 0).toInt = 0 := by decide
  have c4_ : (Int32.ofInt 1).toInt = 1 := by decide
  have c5_ : (Int32.ofInt 2).toInt = 2 := by decide
  intro mn
  induction mn with
  | zero =>
    intro G hI hK v4 v5 rv4 rv5 hm
    exfalso
    omega
  | succ mn ih =>
    intro G hI hK v4 v5 rv4 rv5 hm
    refine pj_X_of (fun r h => pj_R_to (G, 40, [(0, .ref 27), (1, .ref 2), (2, .int lv), (3, .int dp), (4, .int v4), (5, .int v5)], [.int v4, .int v5], 0, 0) 40 3 (fun _ => rfl) h) ?_
    cases b1 : pj_c1 .ge v5 v4 with
    | true =>
      have ub1 := pj_u_geT b1
      refine pj_X_of (fun r h => pj_R_icT 85 rfl rfl b1 h) ?_
      exact pj_X_rt rfl rfl ⟨rfl, hI, hK⟩
    | false =>
      have ub1 := pj_u_geF b1
      refine pj_X_of (fun r h => pj_R_icF rfl b1 h) ?_
      refine pj_X_of (fun r h => pj_R_to (G, 45, [(0, .ref 27), (1, .ref 2), (2, .int lv), (3, .int dp), (4, .int v4), (5, .int v5)], [.int lv, .ref 2], 0, 0) 45 3 (fun _ => rfl) h) ?_
      refine pj_X_ca (vs := [.int lv]) rfl (fun _ => rfl) ⟨Nat.le_of_ble_eq_true rfl, Nat.le_of_ble_eq_true rfl, rfl⟩ ⟨rfl, rfl⟩ (pj_Y_up (by decide) (ct_61_2 G hI lv ⟨by omega, by omega⟩)) ?_
      rintro _ _ ⟨rfl, rfl⟩
      show pj_X _ _ G 48 [(0, .ref 27), (1, .ref 2), (2, .int lv), (3, .int dp), (4, .int v4), (5, .int v5)] [.retAddr 7, .ref 2] _
      refine pj_X_ca (vs := [.ref 2, .retAddr 7]) rfl (fun _ => rfl) ⟨Nat.le_of_ble_eq_true rfl, Nat.le_of_ble_eq_true rfl, pj_T_rcv hI rfl⟩ ⟨rfl, rfl⟩ (pj_Y_up (by decide) (ct_84_s7 G hI)) ?_
      rintro _ G4 ⟨y3, rfl, iG4, jG4, ry3⟩
      have kG4 : pj_kpt kc_62_2_3 G0 G4 := pj_kpt_t hK (pj_kpt_s jG4 rfl)
      show pj_X _ _ G4 51 [(0, .ref 27), (1, .ref 2), (2, .int lv), (3, .int dp), (4, .int v4), (5, .int v5)] [.int y3] _
      refine pj_X_of (fun r h => pj_R_to (G4, 56, [(6, .int y3), (0, .ref 27), (1, .ref 2), (2, .int lv), (3, .int dp), (4, .int v4), (5, .int v5)], [.int (Int32.ofInt (-1)), .int y3], 0, 0) 56 4 (fun _ => rfl) h) ?_
      cases b5 : pj_c1 .ne y3 (Int32.ofInt (-1)) with
      | true =>
        have ub5 := pj_u_neT b5
        refine pj_X_of (fun r h => pj_R_icT 60 rfl rfl b5 h) ?_
        refine pj_X_of (fun r h => pj_R_to (G4, 65, [(6, .int y3), (0, .ref 27), (1, .ref 2), (2, .int lv), (3, .int dp), (4, .int v4), (5, .int v5)], [.int (lv + (Int32.ofInt 1)), .ref 2, .ref 27], 0, 0) 65 6 (fun _ => rfl) h) ?_
        obtain ⟨z6, hz6⟩ : ∃ z : Int32, z = lv + (Int32.ofInt 1) := ⟨_, rfl⟩
        rw [← hz6]
        have fz6_0 : z6.toInt = lv.toInt + (Int32.ofInt 1).toInt := by rw [hz6]; exact pj_addI (by have := pj_i32 lv; have := pj_i32 (Int32.ofInt 1); omega) (by have := pj_i32 lv; have := pj_i32 (Int32.ofInt 1); omega)
        refine pj_X_of (fun r h => pj_R_to (G4, 66, [(6, .int y3), (0, .ref 27), (1, .ref 2), (2, .int lv), (3, .int dp), (4, .int v4), (5, .int v5)], [.int dp, .int z6, .ref 2, .ref 27], 0, 0) 66 2 (fun _ => rfl) h) ?_
        refine pj_X_ca (vs := [.ref 27, .ref 2, .int z6, .int dp]) rfl (fun _ => rfl) ⟨Nat.le_of_ble_eq_true rfl, Nat.le_of_ble_eq_true rfl, pj_T_rcv iG4 rfl⟩ ⟨rfl, rfl⟩ (pj_Y_up (by decide) (ct_62_3_3 G4 iG4 z6 dp ⟨by omega, by omega⟩ ⟨by omega, by omega⟩)) ?_
        rintro _ G8 ⟨rfl, iG8, jG8⟩
        have kG8 : pj_kpt kc_62_2_3 G0 G8 := pj_kpt_t kG4 (pj_kpt_s jG8 rfl)
        show pj_X _ _ G8 69 [(6, .int y3), (0, .ref 27), (1, .ref 2), (2, .int lv), (3, .int dp), (4, .int v4), (5, .int v5)] [] _
        refine pj_X_of (fun r h => pj_R_to (G8, 76, [(6, .int y3), (0, .ref 27), (1, .ref 2), (2, .int lv), (3, .int dp), (4, .int v4), (5, .int v5)], [.int (((Int16.ofInt 3000).toInt32) + y3), .ref 27], 0, 0) 76 5 (fun _ => rfl) h) ?_
        obtain ⟨z9, hz9⟩ : ∃ z : Int32, z = ((Int16.ofInt 3000).toInt32) + y3 := ⟨_, rfl⟩
        rw [← hz9]
        have fz9_0 : z9.toInt = ((Int16.ofInt 3000).toInt32).toInt + y3.toInt := by rw [hz9]; exact pj_addI (by have := pj_i32 ((Int16.ofInt 3000).toInt32); have := pj_i32 y3; omega) (by have := pj_i32 ((Int16.ofInt 3000).toInt32); have := pj_i32 y3; omega)
        refine pj_X_ca (vs := [.ref 27, .int z9]) rfl (fun _ => rfl) ⟨Nat.le_of_ble_eq_true rfl, Nat.le_of_ble_eq_true rfl, pj_T_rcv iG8 rfl⟩ ⟨rfl, rfl⟩ (pj_Y_up (by decide) (ct_60 G8 iG8 z9 (by omega))) ?_
        rintro _ G11 ⟨rfl, iG11, jG11⟩
        have kG11 : pj_kpt kc_62_2_3 G0 G11 := pj_kpt_t kG8 (pj_kpt_s jG11 rfl)
        show pj_X _ _ G11 79 [(6, .int y3), (0, .ref 27), (1, .ref 2), (2, .int lv), (3, .int dp), (4, .int v4), (5, .int v5)] [] _
        refine pj_X_of (fun r h => pj_R_to (G11, 82, [(5, .int (v5 + Int32.ofInt 1)), (6, .int y3), (0, .ref 27), (1, .ref 2), (2, .int lv), (3, .int dp), (4, .int v4)], [], 0, 0) 82 2 (fun _ => rfl) h) ?_
        obtain ⟨z12, hz12⟩ : ∃ z : Int32, z = v5 + Int32.ofInt 1 := ⟨_, rfl⟩
        rw [← hz12]
        have fz12_0 : z12.toInt = v5.toInt + (Int32.ofInt 1).toInt := by rw [hz12]; exact pj_addI (by have := pj_i32 v5; have := pj_i32 (Int32.ofInt 1); omega) (by have := pj_i32 v5; have := pj_i32 (Int32.ofInt 1); omega)
        refine pj_X_of (fun r h => pj_R_to (G11, 36, [(5, .int z12), (6, .int y3), (0, .ref 27), (1, .ref 2), (2, .int lv), (3, .int dp), (4, .int v4)], [], 0, 0) 36 2 (fun _ => rfl) h) ?_
        exact pj_X_sub [(0, .ref 27), (1, .ref 2), (2, .int lv), (3, .int dp), (4, .int v4), (5, .int z12)] (show List.Nodup [0, 1, 2, 3, 4, 5] by decide) ⟨rfl, rfl, rfl, rfl, rfl, rfl, trivial⟩ (ih G11 iG11 kG11 v4 z12 ⟨by omega, by omega⟩ ⟨by omega, by omega⟩ (by omega))
      | false =>
        have ub5 := pj_u_neF b5
        refine pj_X_of (fun r h => pj_R_icF rfl b5 h) ?_
        exact pj_X_rt rfl rfl ⟨rfl, iG4, kG4⟩
theorem ct_62_2_3 (G0 : pj_G) (hI : pj_Inv G0) (lv : Int32) (dp : Int32) (rlv : (2 : Int) ≤ lv.toInt ∧ lv.toInt ≤ 2) (rdp : (3 : Int) ≤ dp.toInt ∧ dp.toInt ≤ 3) : pj_Y 26 62 [.ref 27, .ref 2, .int lv, .int dp] G0 (fun v G' => v = none ∧ pj_Inv G' ∧ pj_kpt kc_62_2_3 G0 G') := by
  have c0_ : ((Int16.ofInt 3000).toInt32).toInt = 3000 := by decide
  have c1_ : ((Int8.ofInt 40).toInt32).toInt = 40 := by decide
  have c2_ : (Int32.ofInt (-1)).toInt = -1 := by decide
  have c3_ : (Int32.ofInt 0).toInt = 0 := by decide
  have c4_ : (Int32.ofInt 1).toInt = 1 := by decide
  have c5_ : (Int32.ofInt 2).toInt = 2 := by decide
  refine pj_Y_X (M := pj_m62) rfl rfl (Nat.le_of_ble_eq_true rfl) ?_
  have hK : pj_kpt kc_62_2_3 G0 G0 := pj_kpt_r _ _
  show pj_X _ _ G0 0 [(0, .ref 27), (1, .ref 2), (2, .int lv), (3, .int dp)] [] _
  refine pj_X_of (fun r h => pj_R_to (G0, 2, [(0, .ref 27), (1, .ref 2), (2, .int lv), (3, .int dp)], [.int (Int32.ofInt 2), .int lv], 0, 0) 2 3 (fun _ => rfl) h) ?_
  refine pj_X_of (fun r h => pj_R_icT 12 rfl rfl (pj_b_leT (by omega)) h) ?_
  refine pj_X_of (fun r h => pj_R_to (G0, 17, [(0, .ref 27), (1, .ref 2), (2, .int lv), (3, .int dp)], [.int (lv + (Int32.ofInt 1)), .ref 2, .ref 27], 0, 0) 17 6 (fun _ => rfl) h) ?_
  obtain ⟨z13, hz13⟩ : ∃ z : Int32, z = lv + (Int32.ofInt 1) := ⟨_, rfl⟩
  rw [← hz13]
  have fz13_0 : z13.toInt = lv.toInt + (Int32.ofInt 1).toInt := by rw [hz13]; exact pj_addI (by have := pj_i32 lv; have := pj_i32 (Int32.ofInt 1); omega) (by have := pj_i32 lv; have := pj_i32 (Int32.ofInt 1); omega)
  refine pj_X_of (fun r h => pj_R_to (G0, 18, [(0, .ref 27), (1, .ref 2), (2, .int lv), (3, .int dp)], [.int dp, .int z13, .ref 2, .ref 27], 0, 0) 18 2 (fun _ => rfl) h) ?_
  refine pj_X_ca (vs := [.ref 27, .ref 2, .int z13, .int dp]) rfl (fun _ => rfl) ⟨Nat.le_of_ble_eq_true rfl, Nat.le_of_ble_eq_true rfl, pj_T_rcv hI rfl⟩ ⟨rfl, rfl⟩ (pj_Y_up (by decide) (ct_62_3_3 G0 hI z13 dp ⟨by omega, by omega⟩ ⟨by omega, by omega⟩)) ?_
  rintro _ G15 ⟨rfl, iG15, jG15⟩
  have kG15 : pj_kpt kc_62_2_3 G0 G15 := pj_kpt_t hK (pj_kpt_s jG15 rfl)
  show pj_X _ _ G15 21 [(0, .ref 27), (1, .ref 2), (2, .int lv), (3, .int dp)] [] _
  refine pj_X_of (fun r h => pj_R_to (G15, 22, [(0, .ref 27), (1, .ref 2), (2, .int lv), (3, .int dp)], [.int lv], 0, 0) 22 2 (fun _ => rfl) h) ?_
  refine pj_X_of (fun r h => pj_R_ifT 29 rfl rfl (pj_b0_neT (by omega)) h) ?_
  refine pj_X_of (fun r h => pj_R_to (G15, 36, [(5, .int (Int32.ofInt 0)), (4, .int ((Int8.ofInt 40).toInt32)), (0, .ref 27), (1, .ref 2), (2, .int lv), (3, .int dp)], [], 0, 0) 36 5 (fun _ => rfl) h) ?_
  exact pj_X_sub [(0, .ref 27), (1, .ref 2), (2, .int lv), (3, .int dp), (4, .int ((Int8.ofInt 40).toInt32)), (5, .int (Int32.ofInt 0))] (show List.Nodup [0, 1, 2, 3, 4, 5] by decide) ⟨rfl, rfl, rfl, rfl, rfl, rfl, trivial⟩ ((lp_ct_62_2_3 G0 hI lv dp rlv rdp 41) G15 iG15 kG15 ((Int8.ofInt 40).toInt32) (Int32.ofInt 0) ⟨by omega, by omega⟩ ⟨by omega, by omega⟩ (by omega))
def kc_62_1_3 : pj_KT := ([(2, 3), (2, 4), (27, 3)], [2, 27, 28, 29], [28, 29])
theorem lp_ct_62_1_3 (G0 : pj_G) (hI0 : pj_Inv G0) (lv : Int32) (dp : Int32) (rlv : (1 : Int) ≤ lv.toInt ∧ lv.toInt ≤ 1) (rdp : (3 : Int) ≤ dp.toInt ∧ dp.toInt ≤ 3) : ∀ mn : Nat, (∀ (G : pj_G) (hI : pj_Inv G) (hK : pj_kpt kc_62_1_3 G0 G) (v4 : Int32) (v5 : Int32), ((1 : Int) ≤ v4.toInt ∧ v4.toInt ≤ 40) → ((0 : Int) ≤ v5.toInt ∧ v5.toInt ≤ 40) → 40 - v5.toInt < (mn : Int) → pj_X 26 pj_m62 G 36 [(0, .ref 27), (1, .ref 2), (2, .int lv), (3, .int dp), (4, .int v4), (5, .int v5)] [] (fun v G' => v = none ∧ pj_Inv G' ∧ pj_kpt kc_62_1_3 G0 G')) := by
  have c0_ : ((Int16.ofInt 3000).toInt32).toInt = 3000 := by decide
  have c1_ : ((Int8.ofInt 40).toInt32).toInt = 40 := by decide
  have c2_ : (Int32.ofInt (-1)).toInt = -1 := by decide
  have c3_ : (Int32.ofInt 0).toInt = 0 := by decide
  have c4_ : (Int32.ofInt 1).toInt = 1 := by decide
  have c5_ : (Int32.ofInt 2).toInt = 2 := by decide
  intro mn
  induction mn with
  | zero =>
    intro G hI hK v4 v5 rv4 rv5 hm
    exfalso
    omega
  | succ mn ih =>
    intro G hI hK v4 v5 rv4 rv5 hm
    refine pj_X_of (fun r h => pj_R_to (G, 40, [(0, .ref 27), (1, .ref 2), (2, .int lv), (3, .int dp), (4, .int v4), (5, .int v5)], [.int v4, .int v5], 0, 0) 40 3 (fun _ => rfl) h) ?_
    cases b1 : pj_c1 .ge v5 v4 with
    | true =>
      have ub1 := pj_u_geT b1
      refine pj_X_of (fun r h => pj_R_icT 85 rfl rfl b1 h) ?_
      exact pj_X_rt rfl rfl ⟨rfl, hI, hK⟩
    | false =>
      have ub1 := pj_u_geF b1
      refine pj_X_of (fun r h => pj_R_icF rfl b1 h) ?_
      refine pj_X_of (fun r h => pj_R_to (G, 45, [(0, .ref 27), (1, .ref 2), (2, .int lv), (3, .int dp), (4, .int v4), (5, .int v5)], [.int lv, .ref 2], 0, 0) 45 3 (fun _ => rfl) h) ?_
      refine pj_X_ca (vs := [.int lv]) rfl (fun _ => rfl) ⟨Nat.le_of_ble_eq_true rfl, Nat.le_of_ble_eq_true rfl, rfl⟩ ⟨rfl, rfl⟩ (pj_Y_up (by decide) (ct_61_1 G hI lv ⟨by omega, by omega⟩)) ?_
      rintro _ _ ⟨rfl, rfl⟩
      show pj_X _ _ G 48 [(0, .ref 27), (1, .ref 2), (2, .int lv), (3, .int dp), (4, .int v4), (5, .int v5)] [.retAddr 6, .ref 2] _
      refine pj_X_ca (vs := [.ref 2, .retAddr 6]) rfl (fun _ => rfl) ⟨Nat.le_of_ble_eq_true rfl, Nat.le_of_ble_eq_true rfl, pj_T_rcv hI rfl⟩ ⟨rfl, rfl⟩ (pj_Y_up (by decide) (ct_84_s6 G hI)) ?_
      rintro _ G4 ⟨y3, rfl, iG4, jG4, ry3⟩
      have kG4 : pj_kpt kc_62_1_3 G0 G4 := pj_kpt_t hK (pj_kpt_s jG4 rfl)
      show pj_X _ _ G4 51 [(0, .ref 27), (1, .ref 2), (2, .int lv), (3, .int dp), (4, .int v4), (5, .int v5)] [.int y3] _
      refine pj_X_of (fun r h => pj_R_to (G4, 56, [(6, .int y3), (0, .ref 27), (1, .ref 2), (2, .int lv), (3, .int dp), (4, .int v4), (5, .int v5)], [.int (Int32.ofInt (-1)), .int y3], 0, 0) 56 4 (fun _ => rfl) h) ?_
      cases b5 : pj_c1 .ne y3 (Int32.ofInt (-1)) with
      | true =>
        have ub5 := pj_u_neT b5
        refine pj_X_of (fun r h => pj_R_icT 60 rfl rfl b5 h) ?_
        refine pj_X_of (fun r h => pj_R_to (G4, 65, [(6, .int y3), (0, .ref 27), (1, .ref 2), (2, .int lv), (3, .int dp), (4, .int v4), (5, .int v5)], [.int (lv + (Int32.ofInt 1)), .ref 2, .ref 27], 0, 0) 65 6 (fun _ => rfl) h) ?_
        obtain ⟨z6, hz6⟩ : ∃ z : Int32, z = lv + (Int32.ofInt 1) := ⟨_, rfl⟩
        rw [← hz6]
        have fz6_0 : z6.toInt = lv.toInt + (Int32.ofInt 1).toInt := by rw [hz6]; exact pj_addI (by have := pj_i32 lv; have := pj_i32 (Int32.ofInt 1); omega) (by have := pj_i32 lv; have := pj_i32 (Int32.ofInt 1); omega)
        refine pj_X_of (fun r h => pj_R_to (G4, 66, [(6, .int y3), (0, .ref 27), (1, .ref 2), (2, .int lv), (3, .int dp), (4, .int v4), (5, .int v5)], [.int dp, .int z6, .ref 2, .ref 27], 0, 0) 66 2 (fun _ => rfl) h) ?_
        refine pj_X_ca (vs := [.ref 27, .ref 2, .int z6, .int dp]) rfl (fun _ => rfl) ⟨Nat.le_of_ble_eq_true rfl, Nat.le_of_ble_eq_true rfl, pj_T_rcv iG4 rfl⟩ ⟨rfl, rfl⟩ (pj_Y_up (by decide) (ct_62_2_3 G4 iG4 z6 dp ⟨by omega, by omega⟩ ⟨by omega, by omega⟩)) ?_
        rintro _ G8 ⟨rfl, iG8, jG8⟩
        have kG8 : pj_kpt kc_62_1_3 G0 G8 := pj_kpt_t kG4 (pj_kpt_s jG8 rfl)
        show pj_X _ _ G8 69 [(6, .int y3), (0, .ref 27), (1, .ref 2), (2, .int lv), (3, .int dp), (4, .int v4), (5, .int v5)] [] _
        refine pj_X_of (fun r h => pj_R_to (G8, 76, [(6, .int y3), (0, .ref 27), (1, .ref 2), (2, .int lv), (3, .int dp), (4, .int v4), (5, .int v5)], [.int (((Int16.ofInt 3000).toInt32) + y3), .ref 27], 0, 0) 76 5 (fun _ => rfl) h) ?_
        obtain ⟨z9, hz9⟩ : ∃ z : Int32, z = ((Int16.ofInt 3000).toInt32) + y3 := ⟨_, rfl⟩
        rw [← hz9]
        have fz9_0 : z9.toInt = ((Int16.ofInt 3000).toInt32).toInt + y3.toInt := by rw [hz9]; exact pj_addI (by have := pj_i32 ((Int16.ofInt 3000).toInt32); have := pj_i32 y3; omega) (by have := pj_i32 ((Int16.ofInt 3000).toInt32); have := pj_i32 y3; omega)
        refine pj_X_ca (vs := [.ref 27, .int z9]) rfl (fun _ => rfl) ⟨Nat.le_of_ble_eq_true rfl, Nat.le_of_ble_eq_true rfl, pj_T_rcv iG8 rfl⟩ ⟨rfl, rfl⟩ (pj_Y_up (by decide) (ct_60 G8 iG8 z9 (by omega))) ?_
        rintro _ G11 ⟨rfl, iG11, jG11⟩
        have kG11 : pj_kpt kc_62_1_3 G0 G11 := pj_kpt_t kG8 (pj_kpt_s jG11 rfl)
        show pj_X _ _ G11 79 [(6, .int y3), (0, .ref 27), (1, .ref 2), (2, .int lv), (3, .int dp), (4, .int v4), (5, .int v5)] [] _
        refine pj_X_of (fun r h => pj_R_to (G11, 82, [(5, .int (v5 + Int32.ofInt 1)), (6, .int y3), (0, .ref 27), (1, .ref 2), (2, .int lv), (3, .int dp), (4, .int v4)], [], 0, 0) 82 2 (fun _ => rfl) h) ?_
        obtain ⟨z12, hz12⟩ : ∃ z : Int32, z = v5 + Int32.ofInt 1 := ⟨_, rfl⟩
        rw [← hz12]
        have fz12_0 : z12.toInt = v5.toInt + (Int32.ofInt 1).toInt := by rw [hz12]; exact pj_addI (by have := pj_i32 v5; have := pj_i32 (Int32.ofInt 1); omega) (by have := pj_i32 v5; have := pj_i32 (Int32.ofInt 1); omega)
        refine pj_X_of (fun r h => pj_R_to (G11, 36, [(5, .int z12), (6, .int y3), (0, .ref 27), (1, .ref 2), (2, .int lv), (3, .int dp), (4, .int v4)], [], 0, 0) 36 2 (fun _ => rfl) h) ?_
        exact pj_X_sub [(0, .ref 27), (1, .ref 2), (2, .int lv), (3, .int dp), (4, .int v4), (5, .int z12)] (show List.Nodup [0, 1, 2, 3, 4, 5] by decide) ⟨rfl, rfl, rfl, rfl, rfl, rfl, trivial⟩ (ih G11 iG11 kG11 v4 z12 ⟨by omega, by omega⟩ ⟨by omega, by omega⟩ (by omega))
      | false =>
        have ub5 := pj_u_neF b5
        refine pj_X_of (fun r h => pj_R_icF rfl b5 h) ?_
        exact pj_X_rt rfl rfl ⟨rfl, iG4, kG4⟩
theorem ct_62_1_3 (G0 : pj_G) (hI : pj_Inv G0) (lv : Int32) (dp : Int32) (rlv : (1 : Int) ≤ lv.toInt ∧ lv.toInt ≤ 1) (rdp : (3 : Int) ≤ dp.toInt ∧ dp.toInt ≤ 3) : pj_Y 27 62 [.ref 27, .ref 2, .int lv, .int dp] G0 (fun v G' => v = none ∧ pj_Inv G' ∧ pj_kpt kc_62_1_3 G0 G') := by
  have c0_ : ((Int16.ofInt 3000).toInt32).toInt = 3000 := by decide
  have c1_ : ((Int8.ofInt 40).toInt32).toInt = 40 := by decide
  have c2_ : (Int32.ofInt (-1)).toInt = -1 := by decide
  have c3_ : (Int32.ofInt 0).toInt = 0 := by decide
  have c4_ : (Int32.ofInt 1).toInt = 1 := by decide
  have c5_ : (Int32.ofInt 2).toInt = 2 := by decide
  refine pj_Y_X (M := pj_m62) rfl rfl (Nat.le_of_ble_eq_true rfl) ?_
  have hK : pj_kpt kc_62_1_3 G0 G0 := pj_kpt_r _ _
  show pj_X _ _ G0 0 [(0, .ref 27), (1, .ref 2), (2, .int lv), (3, .int dp)] [] _
  refine pj_X_of (fun r h => pj_R_to (G0, 2, [(0, .ref 27), (1, .ref 2), (2, .int lv), (3, .int dp)], [.int (Int32.ofInt 2), .int lv], 0, 0) 2 3 (fun _ => rfl) h) ?_
  refine pj_X_of (fun r h => pj_R_icT 12 rfl rfl (pj_b_leT (by omega)) h) ?_
  refine pj_X_of (fun r h => pj_R_to (G0, 17, [(0, .ref 27), (1, .ref 2), (2, .int lv), (3, .int dp)], [.int (lv + (Int32.ofInt 1)), .ref 2, .ref 27], 0, 0) 17 6 (fun _ => rfl) h) ?_
  obtain ⟨z13, hz13⟩ : ∃ z : Int32, z = lv + (Int32.ofInt 1) := ⟨_, rfl⟩
  rw [← hz13]
  have fz13_0 : z13.toInt = lv.toInt + (Int32.ofInt 1).toInt := by rw [hz13]; exact pj_addI (by have := pj_i32 lv; have := pj_i32 (Int32.ofInt 1); omega) (by have := pj_i32 lv; have := pj_i32 (Int32.ofInt 1); omega)
  refine pj_X_of (fun r h => pj_R_to (G0, 18, [(0, .ref 27), (1, .ref 2), (2, .int lv), (3, .int dp)], [.int dp, .int z13, .ref 2, .ref 27], 0, 0) 18 2 (fun _ => rfl) h) ?_
  refine pj_X_ca (vs := [.ref 27, .ref 2, .int z13, .int dp]) rfl (fun _ => rfl) ⟨Nat.le_of_ble_eq_true rfl, Nat.le_of_ble_eq_true rfl, pj_T_rcv hI rfl⟩ ⟨rfl, rfl⟩ (pj_Y_up (by decide) (ct_62_2_3 G0 hI z13 dp ⟨by omega, by omega⟩ ⟨by omega, by omega⟩)) ?_
  rintro _ G15 ⟨rfl, iG15, jG15⟩
  have kG15 : pj_kpt kc_62_1_3 G0 G15 := pj_kpt_t hK (pj_kpt_s jG15 rfl)
  show pj_X _ _ G15 21 [(0, .ref 27), (1, .ref 2), (2, .int lv), (3, .int dp)] [] _
  refine pj_X_of (fun r h => pj_R_to (G15, 22, [(0, .ref 27), (1, .ref 2), (2, .int lv), (3, .int dp)], [.int lv], 0, 0) 22 2 (fun _ => rfl) h) ?_
  refine pj_X_of (fun r h => pj_R_ifT 29 rfl rfl (pj_b0_neT (by omega)) h) ?_
  refine pj_X_of (fun r h => pj_R_to (G15, 36, [(5, .int (Int32.ofInt 0)), (4, .int ((Int8.ofInt 40).toInt32)), (0, .ref 27), (1, .ref 2), (2, .int lv), (3, .int dp)], [], 0, 0) 36 5 (fun _ => rfl) h) ?_
  exact pj_X_sub [(0, .ref 27), (1, .ref 2), (2, .int lv), (3, .int dp), (4, .int ((Int8.ofInt 40).toInt32)), (5, .int (Int32.ofInt 0))] (show List.Nodup [0, 1, 2, 3, 4, 5] by decide) ⟨rfl, rfl, rfl, rfl, rfl, rfl, trivial⟩ ((lp_ct_62_1_3 G0 hI lv dp rlv rdp 41) G15 iG15 kG15 ((Int8.ofInt 40).toInt32) (Int32.ofInt 0) ⟨by omega, by omega⟩ ⟨by omega, by omega⟩ (by omega))
def kc_62_0_3 : pj_KT := ([(2, 3), (2, 4), (27, 3)], [2, 27, 28, 29], [28, 29])
theorem lp_ct_62_0_3 (G0 : pj_G) (hI0 : pj_Inv G0) (lv : Int32) (dp : Int32) (rlv : (0 : Int) ≤ lv.toInt ∧ lv.toInt ≤ 0) (rdp : (3 : Int) ≤ dp.toInt ∧ dp.toInt ≤ 3) : ∀ mn : Nat, (∀ (G : pj_G) (hI : pj_Inv G) (hK : pj_kpt kc_62_0_3 G0 G) (v4 : Int32) (v5 : Int32), ((1 : Int) ≤ v4.toInt ∧ v4.toInt ≤ 40) → ((0 : Int) ≤ v5.toInt ∧ v5.toInt ≤ 40) → 40 - v5.toInt < (mn : Int) → pj_X 27 pj_m62 G 36 [(0, .ref 27), (1, .ref 2), (2, .int lv), (3, .int dp), (4, .int v4), (5, .int v5)] [] (fun v G' => v = none ∧ pj_Inv G' ∧ pj_kpt kc_62_0_3 G0 G')) := by
  have c0_ : ((Int16.ofInt 3000).toInt32).toInt = 3000 := by decide
  have c1_ : (Int32.ofInt (-1)).toInt = -1 := by decide
  have c2_ : (Int32.ofInt 0).toInt = 0 := by decide
  have c3_ : (Int32.ofInt 1).toInt = 1 := by decide
  have c4_ : (Int32.ofInt 2).toInt = 2 := by decide
  intro mn
  induction mn with
  | zero =>
    intro G hI hK v4 v5 rv4 rv5 hm
    exfalso
    omega
  | succ mn ih =>
    intro G hI hK v4 v5 rv4 rv5 hm
    refine pj_X_of (fun r h => pj_R_to (G, 40, [(0, .ref 27), (1, .ref 2), (2, .int lv), (3, .int dp), (4, .int v4), (5, .int v5)], [.int v4, .int v5], 0, 0) 40 3 (fun _ => rfl) h) ?_
    cases b1 : pj_c1 .ge v5 v4 with
    | true =>
      have ub1 := pj_u_geT b1
      refine pj_X_of (fun r h => pj_R_icT 85 rfl rfl b1 h) ?_
      exact pj_X_rt rfl rfl ⟨rfl, hI, hK⟩
    | false =>
      have ub1 := pj_u_geF b1
      refine pj_X_of (fun r h => pj_R_icF rfl b1 h) ?_
      refine pj_X_of (fun r h => pj_R_to (G, 45, [(0, .ref 27), (1, .ref 2), (2, .int lv), (3, .int dp), (4, .int v4), (5, .int v5)], [.int lv, .ref 2], 0, 0) 45 3 (fun _ => rfl) h) ?_
      refine pj_X_ca (vs := [.int lv]) rfl (fun _ => rfl) ⟨Nat.le_of_ble_eq_true rfl, Nat.le_of_ble_eq_true rfl, rfl⟩ ⟨rfl, rfl⟩ (pj_Y_up (by decide) (ct_61_0 G hI lv ⟨by omega, by omega⟩)) ?_
      rintro _ _ ⟨rfl, rfl⟩
      show pj_X _ _ G 48 [(0, .ref 27), (1, .ref 2), (2, .int lv), (3, .int dp), (4, .int v4), (5, .int v5)] [.retAddr 5, .ref 2] _
      refine pj_X_ca (vs := [.ref 2, .retAddr 5]) rfl (fun _ => rfl) ⟨Nat.le_of_ble_eq_true rfl, Nat.le_of_ble_eq_true rfl, pj_T_rcv hI rfl⟩ ⟨rfl, rfl⟩ (pj_Y_up (by decide) (ct_84_s5 G hI)) ?_
      rintro _ G4 ⟨y3, rfl, iG4, jG4, ry3⟩
      have kG4 : pj_kpt kc_62_0_3 G0 G4 := pj_kpt_t hK (pj_kpt_s jG4 rfl)
      show pj_X _ _ G4 51 [(0, .ref 27), (1, .ref 2), (2, .int lv), (3, .int dp), (4, .int v4), (5, .int v5)] [.int y3] _
      refine pj_X_of (fun r h => pj_R_to (G4, 56, [(6, .int y3), (0, .ref 27), (1, .ref 2), (2, .int lv), (3, .int dp), (4, .int v4), (5, .int v5)], [.int (Int32.ofInt (-1)), .int y3], 0, 0) 56 4 (fun _ => rfl) h) ?_
      cases b5 : pj_c1 .ne y3 (Int32.ofInt (-1)) with
      | true =>
        have ub5 := pj_u_neT b5
        refine pj_X_of (fun r h => pj_R_icT 60 rfl rfl b5 h) ?_
        refine pj_X_of (fun r h => pj_R_to (G4, 65, [(6, .int y3), (0, .ref 27), (1, .ref 2), (2, .int lv), (3, .int dp), (4, .int v4), (5, .int v5)], [.int (lv + (Int32.ofInt 1)), .ref 2, .ref 27], 0, 0) 65 6 (fun _ => rfl) h) ?_
        obtain ⟨z6, hz6⟩ : ∃ z : Int32, z = lv + (Int32.ofInt 1) := ⟨_, rfl⟩
        rw [← hz6]
        have fz6_0 : z6.toInt = lv.toInt + (Int32.ofInt 1).toInt := by rw [hz6]; exact pj_addI (by have := pj_i32 lv; have := pj_i32 (Int32.ofInt 1); omega) (by have := pj_i32 lv; have := pj_i32 (Int32.ofInt 1); omega)
        refine pj_X_of (fun r h => pj_R_to (G4, 66, [(6, .int y3), (0, .ref 27), (1, .ref 2), (2, .int lv), (3, .int dp), (4, .int v4), (5, .int v5)], [.int dp, .int z6, .ref 2, .ref 27], 0, 0) 66 2 (fun _ => rfl) h) ?_
        refine pj_X_ca (vs := [.ref 27, .ref 2, .int z6, .int dp]) rfl (fun _ => rfl) ⟨Nat.le_of_ble_eq_true rfl, Nat.le_of_ble_eq_true rfl, pj_T_rcv iG4 rfl⟩ ⟨rfl, rfl⟩ (pj_Y_up (by decide) (ct_62_1_3 G4 iG4 z6 dp ⟨by omega, by omega⟩ ⟨by omega, by omega⟩)) ?_
        rintro _ G8 ⟨rfl, iG8, jG8⟩
        have kG8 : pj_kpt kc_62_0_3 G0 G8 := pj_kpt_t kG4 (pj_kpt_s jG8 rfl)
        show pj_X _ _ G8 69 [(6, .int y3), (0, .ref 27), (1, .ref 2), (2, .int lv), (3, .int dp), (4, .int v4), (5, .int v5)] [] _
        refine pj_X_of (fun r h => pj_R_to (G8, 76, [(6, .int y3), (0, .ref 27), (1, .ref 2), (2, .int lv), (3, .int dp), (4, .int v4), (5, .int v5)], [.int (((Int16.ofInt 3000).toInt32) + y3), .ref 27], 0, 0) 76 5 (fun _ => rfl) h) ?_
        obtain ⟨z9, hz9⟩ : ∃ z : Int32, z = ((Int16.ofInt 3000).toInt32) + y3 := ⟨_, rfl⟩
        rw [← hz9]
        have fz9_0 : z9.toInt = ((Int16.ofInt 3000).toInt32).toInt + y3.toInt := by rw [hz9]; exact pj_addI (by have := pj_i32 ((Int16.ofInt 3000).toInt32); have := pj_i32 y3; omega) (by have := pj_i32 ((Int16.ofInt 3000).toInt32); have := pj_i32 y3; omega)
        refine pj_X_ca (vs := [.ref 27, .int z9]) rfl (fun _ => rfl) ⟨Nat.le_of_ble_eq_true rfl, Nat.le_of_ble_eq_true rfl, pj_T_rcv iG8 rfl⟩ ⟨rfl, rfl⟩ (pj_Y_up (by decide) (ct_60 G8 iG8 z9 (by omega))) ?_
        rintro _ G11 ⟨rfl, iG11, jG11⟩
        have kG11 : pj_kpt kc_62_0_3 G0 G11 := pj_kpt_t kG8 (pj_kpt_s jG11 rfl)
        show pj_X _ _ G11 79 [(6, .int y3), (0, .ref 27), (1, .ref 2), (2, .int lv), (3, .int dp), (4, .int v4), (5, .int v5)] [] _
        refine pj_X_of (fun r h => pj_R_to (G11, 82, [(5, .int (v5 + Int32.ofInt 1)), (6, .int y3), (0, .ref 27), (1, .ref 2), (2, .int lv), (3, .int dp), (4, .int v4)], [], 0, 0) 82 2 (fun _ => rfl) h) ?_
        obtain ⟨z12, hz12⟩ : ∃ z : Int32, z = v5 + Int32.ofInt 1 := ⟨_, rfl⟩
        rw [← hz12]
        have fz12_0 : z12.toInt = v5.toInt + (Int32.ofInt 1).toInt := by rw [hz12]; exact pj_addI (by have := pj_i32 v5; have := pj_i32 (Int32.ofInt 1); omega) (by have := pj_i32 v5; have := pj_i32 (Int32.ofInt 1); omega)
        refine pj_X_of (fun r h => pj_R_to (G11, 36, [(5, .int z12), (6, .int y3), (0, .ref 27), (1, .ref 2), (2, .int lv), (3, .int dp), (4, .int v4)], [], 0, 0) 36 2 (fun _ => rfl) h) ?_
        exact pj_X_sub [(0, .ref 27), (1, .ref 2), (2, .int lv), (3, .int dp), (4, .int v4), (5, .int z12)] (show List.Nodup [0, 1, 2, 3, 4, 5] by decide) ⟨rfl, rfl, rfl, rfl, rfl, rfl, trivial⟩ (ih G11 iG11 kG11 v4 z12 ⟨by omega, by omega⟩ ⟨by omega, by omega⟩ (by omega))
      | false =>
        have ub5 := pj_u_neF b5
        refine pj_X_of (fun r h => pj_R_icF rfl b5 h) ?_
        exact pj_X_rt rfl rfl ⟨rfl, iG4, kG4⟩
theorem ct_62_0_3 (G0 : pj_G) (hI : pj_Inv G0) (lv : Int32) (dp : Int32) (rlv : (0 : Int) ≤ lv.toInt ∧ lv.toInt ≤ 0) (rdp : (3 : Int) ≤ dp.toInt ∧ dp.toInt ≤ 3) : pj_Y 28 62 [.ref 27, .ref 2, .int lv, .int dp] G0 (fun v G' => v = none ∧ pj_Inv G' ∧ pj_kpt kc_62_0_3 G0 G') := by
  have c0_ : ((Int16.ofInt 3000).toInt32).toInt = 3000 := by decide
  have c1_ : (Int32.ofInt (-1)).toInt = -1 := by decide
  have c2_ : (Int32.ofInt 0).toInt = 0 := by decide
  have c3_ : (Int32.ofInt 1).toInt = 1 := by decide
  have c4_ : (Int32.ofInt 2).toInt = 2 := by decide
  refine pj_Y_X (M := pj_m62) rfl rfl (Nat.le_of_ble_eq_true rfl) ?_
  have hK : pj_kpt kc_62_0_3 G0 G0 := pj_kpt_r _ _
  show pj_X _ _ G0 0 [(0, .ref 27), (1, .ref 2), (2, .int lv), (3, .int dp)] [] _
  refine pj_X_of (fun r h => pj_R_to (G0, 2, [(0, .ref 27), (1, .ref 2), (2, .int lv), (3, .int dp)], [.int (Int32.ofInt 2), .int lv], 0, 0) 2 3 (fun _ => rfl) h) ?_
  refine pj_X_of (fun r h => pj_R_icT 12 rfl rfl (pj_b_leT (by omega)) h) ?_
  refine pj_X_of (fun r h => pj_R_to (G0, 17, [(0, .ref 27), (1, .ref 2), (2, .int lv), (3, .int dp)], [.int (lv + (Int32.ofInt 1)), .ref 2, .ref 27], 0, 0) 17 6 (fun _ => rfl) h) ?_
  obtain ⟨z13, hz13⟩ : ∃ z : Int32, z = lv + (Int32.ofInt 1) := ⟨_, rfl⟩
  rw [← hz13]
  have fz13_0 : z13.toInt = lv.toInt + (Int32.ofInt 1).toInt := by rw [hz13]; exact pj_addI (by have := pj_i32 lv; have := pj_i32 (Int32.ofInt 1); omega) (by have := pj_i32 lv; have := pj_i32 (Int32.ofInt 1); omega)
  refine pj_X_of (fun r h => pj_R_to (G0, 18, [(0, .ref 27), (1, .ref 2), (2, .int lv), (3, .int dp)], [.int dp, .int z13, .ref 2, .ref 27], 0, 0) 18 2 (fun _ => rfl) h) ?_
  refine pj_X_ca (vs := [.ref 27, .ref 2, .int z13, .int dp]) rfl (fun _ => rfl) ⟨Nat.le_of_ble_eq_true rfl, Nat.le_of_ble_eq_true rfl, pj_T_rcv hI rfl⟩ ⟨rfl, rfl⟩ (pj_Y_up (by decide) (ct_62_1_3 G0 hI z13 dp ⟨by omega, by omega⟩ ⟨by omega, by omega⟩)) ?_
  rintro _ G15 ⟨rfl, iG15, jG15⟩
  have kG15 : pj_kpt kc_62_0_3 G0 G15 := pj_kpt_t hK (pj_kpt_s jG15 rfl)
  show pj_X _ _ G15 21 [(0, .ref 27), (1, .ref 2), (2, .int lv), (3, .int dp)] [] _
  refine pj_X_of (fun r h => pj_R_to (G15, 22, [(0, .ref 27), (1, .ref 2), (2, .int lv), (3, .int dp)], [.int lv], 0, 0) 22 2 (fun _ => rfl) h) ?_
  refine pj_X_of (fun r h => pj_R_ifF rfl (pj_b0_neF (by omega)) h) ?_
  refine pj_X_of (fun r h => pj_R_to (G15, 36, [(5, .int (Int32.ofInt 0)), (4, .int (Int32.ofInt 1)), (0, .ref 27), (1, .ref 2), (2, .int lv), (3, .int dp)], [], 0, 0) 36 6 (fun _ => rfl) h) ?_
  exact pj_X_sub [(0, .ref 27), (1, .ref 2), (2, .int lv), (3, .int dp), (4, .int (Int32.ofInt 1)), (5, .int (Int32.ofInt 0))] (show List.Nodup [0, 1, 2, 3, 4, 5] by decide) ⟨rfl, rfl, rfl, rfl, rfl, rfl, trivial⟩ ((lp_ct_62_0_3 G0 hI lv dp rlv rdp 41) G15 iG15 kG15 (Int32.ofInt 1) (Int32.ofInt 0) ⟨by omega, by omega⟩ ⟨by omega, by omega⟩ (by omega))
def kc_64_2 : pj_KT := ([(2, 3), (2, 4), (27, 3)], [2, 27, 28, 29], [28, 29])
theorem ct_64_2 (G0 : pj_G) (hI : pj_Inv G0) (dp : Int32) (rdp : (2 : Int) ≤ dp.toInt ∧ dp.toInt ≤ 2) : pj_Y 29 64 [.ref 27, .ref 2, .int dp] G0 (fun v G' => v = none ∧ pj_Inv G' ∧ pj_kpt kc_64_2 G0 G') := by
  have c0_ : ((Int16.ofInt 1000).toInt32).toInt = 1000 := by decide
  have c1_ : ((Int8.ofInt 40).toInt32).toInt = 40 := by decide
  have c2_ : ((Int8.ofInt 41).toInt32).toInt = 41 := by decide
  have c3_ : (Int32.ofInt (-1)).toInt = -1 := by decide
  have c4_ : (Int32.ofInt 0).toInt = 0 := by decide
  have c5_ : (Int32.ofInt 1).toInt = 1 := by decide
  have c6_ : (Int32.ofInt 3).toInt = 3 := by decide
  have c7_ : (Int32.ofInt 4).toInt = 4 := by decide
  refine pj_Y_X (M := pj_m64) rfl rfl (Nat.le_of_ble_eq_true rfl) ?_
  have hK : pj_kpt kc_64_2 G0 G0 := pj_kpt_r _ _
  show pj_X _ _ G0 0 [(0, .ref 27), (1, .ref 2), (2, .int dp)] [] _
  refine pj_X_of (fun r h => pj_R_to (G0, 1, [(0, .ref 27), (1, .ref 2), (2, .int dp)], [.ref 2], 0, 0) 1 2 (fun _ => rfl) h) ?_
  refine pj_X_ca (vs := [.ref 2]) rfl (fun _ => rfl) ⟨Nat.le_of_ble_eq_true rfl, Nat.le_of_ble_eq_true rfl, pj_T_rcv hI rfl⟩ ⟨rfl, rfl⟩ (pj_Y_up (by decide) (ct_85 G0 hI)) ?_
  rintro _ _ ⟨y1, rfl, rfl, ry1⟩
  show pj_X _ _ G0 4 [(0, .ref 27), (1, .ref 2), (2, .int dp)] [.int y1] _
  cases b2 : pj_c1 .eq y1 0 with
  | true =>
    have ub2 := pj_u0_eqT b2
    refine pj_X_of (fun r h => pj_R_ifT 19 rfl rfl b2 h) ?_
    refine pj_X_of (fun r h => pj_R_to (G0, 21, [(0, .ref 27), (1, .ref 2), (2, .int dp)], [.int (Int32.ofInt 4), .int dp], 0, 0) 21 3 (fun _ => rfl) h) ?_
    refine pj_X_of (fun r h => pj_R_icF rfl (pj_b_geF (by omega)) h) ?_
    refine pj_X_of (fun r h => pj_R_to (G0, 27, [(0, .ref 27), (1, .ref 2), (2, .int dp)], [.int ((Int8.ofInt 40).toInt32), .ref 2], 0, 0) 27 3 (fun _ => rfl) h) ?_
    refine pj_X_ca (vs := [.ref 2, .int ((Int8.ofInt 40).toInt32)]) rfl (fun _ => rfl) ⟨Nat.le_of_ble_eq_true rfl, Nat.le_of_ble_eq_true rfl, pj_T_rcv hI rfl⟩ ⟨rfl, rfl⟩ (pj_Y_up (by decide) (ct_82 G0 hI ((Int8.ofInt 40).toInt32) ⟨by omega, by omega⟩)) ?_
    rintro _ G4 ⟨y3, rfl, iG4, jG4, ry3⟩
    have kG4 : pj_kpt kc_64_2 G0 G4 := pj_kpt_t hK (pj_kpt_s jG4 rfl)
    show pj_X _ _ G4 30 [(0, .ref 27), (1, .ref 2), (2, .int dp)] [.int y3] _
    cases b5 : pj_c1 .eq y3 0 with
    | true =>
      have ub5 := pj_u0_eqT b5
      refine pj_X_of (fun r h => pj_R_ifT 54 rfl rfl b5 h) ?_
      refine pj_X_of (fun r h => pj_R_to (G4, 57, [(0, .ref 27), (1, .ref 2), (2, .int dp)], [.retAddr 8, .ref 2], 0, 0) 57 3 (fun _ => rfl) h) ?_
      refine pj_X_ca (vs := [.ref 2, .retAddr 8]) rfl (fun _ => rfl) ⟨Nat.le_of_ble_eq_true rfl, Nat.le_of_ble_eq_true rfl, pj_T_rcv iG4 rfl⟩ ⟨rfl, rfl⟩ (pj_Y_up (by decide) (ct_84_s8 G4 iG4)) ?_
      rintro _ G7 ⟨y6, rfl, iG7, jG7, ry6⟩
      have kG7 : pj_kpt kc_64_2 G0 G7 := pj_kpt_t kG4 (pj_kpt_s jG7 rfl)
      show pj_X _ _ G7 60 [(0, .ref 27), (1, .ref 2), (2, .int dp)] [.int y6] _
      refine pj_X_of (fun r h => pj_R_to (G7, 63, [(3, .int y6), (0, .ref 27), (1, .ref 2), (2, .int dp)], [.int (Int32.ofInt (-1)), .int y6], 0, 0) 63 4 (fun _ => rfl) h) ?_
      cases b8 : pj_c1 .ne y6 (Int32.ofInt (-1)) with
      | true =>
        have ub8 := pj_u_neT b8
        refine pj_X_of (fun r h => pj_R_icT 73 rfl rfl b8 h) ?_
        refine pj_X_of (fun r h => pj_R_to (G7, 81, [(3, .int y6), (0, .ref 27), (1, .ref 2), (2, .int dp)], [.int ((y6.toUInt32 % 65536).toInt32), .retAddr 8, .int ((Int16.ofInt 1000).toInt32), .ref 27], 0, 0) 81 6 (fun _ => rfl) h) ?_
        obtain ⟨z9, hz9⟩ : ∃ z : Int32, z = (y6.toUInt32 % 65536).toInt32 := ⟨_, rfl⟩
        rw [← hz9]
        have fz9_0 : z9.toInt = y6.toInt := by rw [hz9]; exact pj_i2cI (by omega) (by omega)
        refine pj_X_ca (vs := [.retAddr 8, .int z9]) rfl (fun _ => rfl) ⟨Nat.le_of_ble_eq_true rfl, Nat.le_of_ble_eq_true rfl, rfl⟩ ⟨rfl, rfl⟩ (pj_Y_up (by decide) (ct_290_s8 G7 iG7 z9 ⟨by omega, by omega⟩)) ?_
        rintro _ _ ⟨y10, rfl, rfl, ry10⟩
        show pj_X _ _ G7 84 [(3, .int y6), (0, .ref 27), (1, .ref 2), (2, .int dp)] [.int y10, .int ((Int16.ofInt 1000).toInt32), .ref 27] _
        refine pj_X_of (fun r h => pj_R_to (G7, 85, [(3, .int y6), (0, .ref 27), (1, .ref 2), (2, .int dp)], [.int (((Int16.ofInt 1000).toInt32) + y10), .ref 27], 0, 0) 85 2 (fun _ => rfl) h) ?_
        obtain ⟨z11, hz11⟩ : ∃ z : Int32, z = ((Int16.ofInt 1000).toInt32) + y10 := ⟨_, rfl⟩
        rw [← hz11]
        have fz11_0 : z11.toInt = ((Int16.ofInt 1000).toInt32).toInt + y10.toInt := by rw [hz11]; exact pj_addI (by have := pj_i32 ((Int16.ofInt 1000).toInt32); have := pj_i32 y10; omega) (by have := pj_i32 ((Int16.ofInt 1000).toInt32); have := pj_i32 y10; omega)
        refine pj_X_ca (vs := [.ref 27, .int z11]) rfl (fun _ => rfl) ⟨Nat.le_of_ble_eq_true rfl, Nat.le_of_ble_eq_true rfl, pj_T_rcv iG7 rfl⟩ ⟨rfl, rfl⟩ (pj_Y_up (by decide) (ct_60 G7 iG7 z11 (by omega))) ?_
        rintro _ G13 ⟨rfl, iG13, jG13⟩
        have kG13 : pj_kpt kc_64_2 G0 G13 := pj_kpt_t kG7 (pj_kpt_s jG13 rfl)
        show pj_X _ _ G13 88 [(3, .int y6), (0, .ref 27), (1, .ref 2), (2, .int dp)] [] _
        exact pj_X_rt rfl rfl ⟨rfl, iG13, kG13⟩
      | false =>
        have ub8 := pj_u_neF b8
        refine pj_X_of (fun r h => pj_R_icF rfl b8 h) ?_
        refine pj_X_of (fun r h => pj_R_to (G7, 67, [(3, .int y6), (0, .ref 27), (1, .ref 2), (2, .int dp)], [.ref 2], 0, 0) 67 2 (fun _ => rfl) h) ?_
        refine pj_X_ca (vs := [.ref 2]) rfl (fun _ => rfl) ⟨Nat.le_of_ble_eq_true rfl, Nat.le_of_ble_eq_true rfl, pj_T_rcv iG7 rfl⟩ ⟨rfl, rfl⟩ (pj_Y_up (by decide) (ct_81 G7 iG7)) ?_
        rintro _ G15 ⟨rfl, iG15, jG15, eG15⟩
        have kG15 : pj_kpt kc_64_2 G0 G15 := pj_kpt_t kG7 (pj_kpt_s jG15 rfl)
        show pj_X _ _ G15 70 [(3, .int y6), (0, .ref 27), (1, .ref 2), (2, .int dp)] [] _
        refine pj_X_of (fun r h => pj_R_to (G15, 88, [(3, .int y6), (0, .ref 27), (1, .ref 2), (2, .int dp)], [], 0, 0) 88 2 (fun _ => rfl) h) ?_
        exact pj_X_rt rfl rfl ⟨rfl, iG15, kG15⟩
    | false =>
      have ub5 := pj_u0_eqF b5
      refine pj_X_of (fun r h => pj_R_ifF rfl b5 h) ?_
      refine pj_X_of (fun r h => pj_R_to (G4, 39, [(0, .ref 27), (1, .ref 2), (2, .int dp)], [.int (dp + (Int32.ofInt 1)), .int (Int32.ofInt 0), .ref 2, .ref 27], 0, 0) 39 7 (fun _ => rfl) h) ?_
      obtain ⟨z16, hz16⟩ : ∃ z : Int32, z = dp + (Int32.ofInt 1) := ⟨_, rfl⟩
      rw [← hz16]
      have fz16_0 : z16.toInt = dp.toInt + (Int32.ofInt 1).toInt := by rw [hz16]; exact pj_addI (by have := pj_i32 dp; have := pj_i32 (Int32.ofInt 1); omega) (by have := pj_i32 dp; have := pj_i32 (Int32.ofInt 1); omega)
      refine pj_X_ca (vs := [.ref 27, .ref 2, .int (Int32.ofInt 0), .int z16]) rfl (fun _ => rfl) ⟨Nat.le_of_ble_eq_true rfl, Nat.le_of_ble_eq_true rfl, pj_T_rcv iG4 rfl⟩ ⟨rfl, rfl⟩ (pj_Y_up (by decide) (ct_62_0_3 G4 iG4 (Int32.ofInt 0) z16 ⟨by omega, by omega⟩ ⟨by omega, by omega⟩)) ?_
      rintro _ G18 ⟨rfl, iG18, jG18⟩
      have kG18 : pj_kpt kc_64_2 G0 G18 := pj_kpt_t kG4 (pj_kpt_s jG18 rfl)
      show pj_X _ _ G18 42 [(0, .ref 27), (1, .ref 2), (2, .int dp)] [] _
      refine pj_X_of (fun r h => pj_R_to (G18, 47, [(0, .ref 27), (1, .ref 2), (2, .int dp)], [.int ((Int8.ofInt 41).toInt32), .int ((Int8.ofInt 41).toInt32), .ref 2], 0, 0) 47 4 (fun _ => rfl) h) ?_
      refine pj_X_ca (vs := [.ref 2, .int ((Int8.ofInt 41).toInt32), .int ((Int8.ofInt 41).toInt32)]) rfl (fun _ => rfl) ⟨Nat.le_of_ble_eq_true rfl, Nat.le_of_ble_eq_true rfl, pj_T_rcv iG18 rfl⟩ ⟨rfl, rfl⟩ (pj_Y_up (by decide) (ct_83 G18 iG18 ((Int8.ofInt 41).toInt32) ((Int8.ofInt 41).toInt32) ⟨by omega, by omega⟩ ⟨by omega, by omega⟩)) ?_
      rintro _ G20 ⟨y19, rfl, iG20, jG20, ry19, ey19⟩
      have kG20 : pj_kpt kc_64_2 G0 G20 := pj_kpt_t kG18 (pj_kpt_s jG20 rfl)
      show pj_X _ _ G20 50 [(0, .ref 27), (1, .ref 2), (2, .int dp)] [.int y19] _
      refine pj_X_of (fun r h => pj_R_to (G20, 88, [(0, .ref 27), (1, .ref 2), (2, .int dp)], [], 0, 0) 88 3 (fun _ => rfl) h) ?_
      exact pj_X_rt rfl rfl ⟨rfl, iG20, kG20⟩
  | false =>
    have ub2 := pj_u0_eqF b2
    refine pj_X_of (fun r h => pj_R_ifF rfl b2 h) ?_
    refine pj_X_of (fun r h => pj_R_to (G0, 10, [(0, .ref 27), (1, .ref 2), (2, .int dp)], [.int (Int32.ofInt 3), .ref 2, .ref 27], 0, 0) 10 4 (fun _ => rfl) h) ?_
    refine pj_X_ca (vs := [.ref 2, .int (Int32.ofInt 3)]) rfl (fun _ => rfl) ⟨Nat.le_of_ble_eq_true rfl, Nat.le_of_ble_eq_true rfl, pj_T_rcv hI rfl⟩ ⟨rfl, rfl⟩ (pj_Y_up (by decide) (ct_86 G0 hI (Int32.ofInt 3) ⟨by omega, by omega⟩)) ?_
    rintro _ G22 ⟨y21, rfl, iG22, jG22, ry21⟩
    have kG22 : pj_kpt kc_64_2 G0 G22 := pj_kpt_t hK (pj_kpt_s jG22 rfl)
    show pj_X _ _ G22 13 [(0, .ref 27), (1, .ref 2), (2, .int dp)] [.int y21, .ref 27] _
    refine pj_X_ca (vs := [.ref 27, .int y21]) rfl (fun _ => rfl) ⟨Nat.le_of_ble_eq_true rfl, Nat.le_of_ble_eq_true rfl, pj_T_rcv iG22 rfl⟩ ⟨rfl, rfl⟩ (pj_Y_up (by decide) (ct_60 G22 iG22 y21 (by omega))) ?_
    rintro _ G24 ⟨rfl, iG24, jG24⟩
    have kG24 : pj_kpt kc_64_2 G0 G24 := pj_kpt_t kG22 (pj_kpt_s jG24 rfl)
    show pj_X _ _ G24 16 [(0, .ref 27), (1, .ref 2), (2, .int dp)] [] _
    refine pj_X_of (fun r h => pj_R_to (G24, 88, [(0, .ref 27), (1, .ref 2), (2, .int dp)], [], 0, 0) 88 2 (fun _ => rfl) h) ?_
    exact pj_X_rt rfl rfl ⟨rfl, iG24, kG24⟩
def kc_63_2 : pj_KT := ([(2, 3), (2, 4), (27, 3)], [2, 27, 28, 29], [28, 29])
theorem lp_ct_63_2 (G0 : pj_G) (hI0 : pj_Inv G0) (dp : Int32) (rdp : (2 : Int) ≤ dp.toInt ∧ dp.toInt ≤ 2) : ∀ mn : Nat, (∀ (G : pj_G) (hI : pj_Inv G) (hK : pj_kpt kc_63_2 G0 G) (v3 : Int32) (v4 : Int32), ((0 : Int) ≤ v3.toInt ∧ v3.toInt ≤ 1) → ((0 : Int) ≤ v4.toInt ∧ v4.toInt ≤ 40) → 40 - v4.toInt < (mn : Int) → pj_X 29 pj_m63 G 5 [(0, .ref 27), (1, .ref 2), (2, .int dp), (3, .int v3), (4, .int v4)] [] (fun v G' => v = none ∧ pj_Inv G' ∧ pj_kpt kc_63_2 G0 G')) := by
  have c0_ : ((Int16.ofInt 2000).toInt32).toInt = 2000 := by decide
  have c1_ : ((Int8.ofInt 40).toInt32).toInt = 40 := by decide
  have c2_ : ((Int8.ofInt 45).toInt32).toInt = 45 := by decide
  have c3_ : (Int32.ofInt 0).toInt = 0 := by decide
  have c4_ : (Int32.ofInt 1).toInt = 1 := by decide
  intro mn
  induction mn with
  | zero =>
    intro G hI hK v3 v4 rv3 rv4 hm
    exfalso
    omega
  | succ mn ih =>
    intro G hI hK v3 v4 rv3 rv4 hm
    refine pj_X_of (fun r h => pj_R_to (G, 9, [(0, .ref 27), (1, .ref 2), (2, .int dp), (3, .int v3), (4, .int v4)], [.int ((Int8.ofInt 40).toInt32), .int v4], 0, 0) 9 3 (fun _ => rfl) h) ?_
    cases b1 : pj_c1 .ge v4 ((Int8.ofInt 40).toInt32) with
    | true =>
      have ub1 := pj_u_geT b1
      refine pj_X_of (fun r h => pj_R_icT 37 rfl rfl b1 h) ?_
      refine pj_X_of (fun r h => pj_R_to (G, 40, [(0, .ref 27), (1, .ref 2), (2, .int dp), (3, .int v3), (4, .int v4)], [.int dp, .ref 2, .ref 27], 0, 0) 40 4 (fun _ => rfl) h) ?_
      refine pj_X_ca (vs := [.ref 27, .ref 2, .int dp]) rfl (fun _ => rfl) ⟨Nat.le_of_ble_eq_true rfl, Nat.le_of_ble_eq_true rfl, pj_T_rcv hI rfl⟩ ⟨rfl, rfl⟩ (pj_Y_up (by decide) (ct_64_2 G hI dp ⟨by omega, by omega⟩)) ?_
      rintro _ G3 ⟨rfl, iG3, jG3⟩
      have kG3 : pj_kpt kc_63_2 G0 G3 := pj_kpt_t hK (pj_kpt_s jG3 rfl)
      show pj_X _ _ G3 43 [(0, .ref 27), (1, .ref 2), (2, .int dp), (3, .int v3), (4, .int v4)] [] _
      refine pj_X_of (fun r h => pj_R_to (G3, 44, [(0, .ref 27), (1, .ref 2), (2, .int dp), (3, .int v3), (4, .int v4)], [.int v3], 0, 0) 44 2 (fun _ => rfl) h) ?_
      cases b4 : pj_c1 .eq v3 0 with
      | true =>
        have ub4 := pj_u0_eqT b4
        refine pj_X_of (fun r h => pj_R_ifT 54 rfl rfl b4 h) ?_
        exact pj_X_rt rfl rfl ⟨rfl, iG3, kG3⟩
      | false =>
        have ub4 := pj_u0_eqF b4
        refine pj_X_of (fun r h => pj_R_ifF rfl b4 h) ?_
        refine pj_X_of (fun r h => pj_R_to (G3, 51, [(0, .ref 27), (1, .ref 2), (2, .int dp), (3, .int v3), (4, .int v4)], [.int ((Int16.ofInt 2000).toInt32), .ref 27], 0, 0) 51 3 (fun _ => rfl) h) ?_
        refine pj_X_ca (vs := [.ref 27, .int ((Int16.ofInt 2000).toInt32)]) rfl (fun _ => rfl) ⟨Nat.le_of_ble_eq_true rfl, Nat.le_of_ble_eq_true rfl, pj_T_rcv iG3 rfl⟩ ⟨rfl, rfl⟩ (pj_Y_up (by decide) (ct_60 G3 iG3 ((Int16.ofInt 2000).toInt32) (by omega))) ?_
        rintro _ G6 ⟨rfl, iG6, jG6⟩
        have kG6 : pj_kpt kc_63_2 G0 G6 := pj_kpt_t kG3 (pj_kpt_s jG6 rfl)
        show pj_X _ _ G6 54 [(0, .ref 27), (1, .ref 2), (2, .int dp), (3, .int v3), (4, .int v4)] [] _
        exact pj_X_rt rfl rfl ⟨rfl, iG6, kG6⟩
    | false =>
      have ub1 := pj_u_geF b1
      refine pj_X_of (fun r h => pj_R_icF rfl b1 h) ?_
      refine pj_X_of (fun r h => pj_R_to (G, 15, [(0, .ref 27), (1, .ref 2), (2, .int dp), (3, .int v3), (4, .int v4)], [.int ((Int8.ofInt 45).toInt32), .ref 2], 0, 0) 15 3 (fun _ => rfl) h) ?_
      refine pj_X_ca (vs := [.ref 2, .int ((Int8.ofInt 45).toInt32)]) rfl (fun _ => rfl) ⟨Nat.le_of_ble_eq_true rfl, Nat.le_of_ble_eq_true rfl, pj_T_rcv hI rfl⟩ ⟨rfl, rfl⟩ (pj_Y_up (by decide) (ct_82 G hI ((Int8.ofInt 45).toInt32) ⟨by omega, by omega⟩)) ?_
      rintro _ G8 ⟨y7, rfl, iG8, jG8, ry7⟩
      have kG8 : pj_kpt kc_63_2 G0 G8 := pj_kpt_t hK (pj_kpt_s jG8 rfl)
      show pj_X _ _ G8 18 [(0, .ref 27), (1, .ref 2), (2, .int dp), (3, .int v3), (4, .int v4)] [.int y7] _
      cases b9 : pj_c1 .eq y7 0 with
      | true =>
        have ub9 := pj_u0_eqT b9
        refine pj_X_of (fun r h => pj_R_ifT 37 rfl rfl b9 h) ?_
        refine pj_X_of (fun r h => pj_R_to (G8, 40, [(0, .ref 27), (1, .ref 2), (2, .int dp), (3, .int v3), (4, .int v4)], [.int dp, .ref 2, .ref 27], 0, 0) 40 4 (fun _ => rfl) h) ?_
        refine pj_X_ca (vs := [.ref 27, .ref 2, .int dp]) rfl (fun _ => rfl) ⟨Nat.le_of_ble_eq_true rfl, Nat.le_of_ble_eq_true rfl, pj_T_rcv iG8 rfl⟩ ⟨rfl, rfl⟩ (pj_Y_up (by decide) (ct_64_2 G8 iG8 dp ⟨by omega, by omega⟩)) ?_
        rintro _ G11 ⟨rfl, iG11, jG11⟩
        have kG11 : pj_kpt kc_63_2 G0 G11 := pj_kpt_t kG8 (pj_kpt_s jG11 rfl)
        show pj_X _ _ G11 43 [(0, .ref 27), (1, .ref 2), (2, .int dp), (3, .int v3), (4, .int v4)] [] _
        refine pj_X_of (fun r h => pj_R_to (G11, 44, [(0, .ref 27), (1, .ref 2), (2, .int dp), (3, .int v3), (4, .int v4)], [.int v3], 0, 0) 44 2 (fun _ => rfl) h) ?_
        cases b12 : pj_c1 .eq v3 0 with
        | true =>
          have ub12 := pj_u0_eqT b12
          refine pj_X_of (fun r h => pj_R_ifT 54 rfl rfl b12 h) ?_
          exact pj_X_rt rfl rfl ⟨rfl, iG11, kG11⟩
        | false =>
          have ub12 := pj_u0_eqF b12
          refine pj_X_of (fun r h => pj_R_ifF rfl b12 h) ?_
          refine pj_X_of (fun r h => pj_R_to (G11, 51, [(0, .ref 27), (1, .ref 2), (2, .int dp), (3, .int v3), (4, .int v4)], [.int ((Int16.ofInt 2000).toInt32), .ref 27], 0, 0) 51 3 (fun _ => rfl) h) ?_
          refine pj_X_ca (vs := [.ref 27, .int ((Int16.ofInt 2000).toInt32)]) rfl (fun _ => rfl) ⟨Nat.le_of_ble_eq_true rfl, Nat.le_of_ble_eq_true rfl, pj_T_rcv iG11 rfl⟩ ⟨rfl, rfl⟩ (pj_Y_up (by decide) (ct_60 G11 iG11 ((Int16.ofInt 2000).toInt32) (by omega))) ?_
          rintro _ G14 ⟨rfl, iG14, jG14⟩
          have kG14 : pj_kpt kc_63_2 G0 G14 := pj_kpt_t kG11 (pj_kpt_s jG14 rfl)
          show pj_X _ _ G14 54 [(0, .ref 27), (1, .ref 2), (2, .int dp), (3, .int v3), (4, .int v4)] [] _
          exact pj_X_rt rfl rfl ⟨rfl, iG14, kG14⟩
      | false =>
        have ub9 := pj_u0_eqF b9
        refine pj_X_of (fun r h => pj_R_ifF rfl b9 h) ?_
        refine pj_X_of (fun r h => pj_R_to (G8, 22, [(0, .ref 27), (1, .ref 2), (2, .int dp), (3, .int v3), (4, .int v4)], [.int v3], 0, 0) 22 2 (fun _ => rfl) h) ?_
        cases b15 : pj_c1 .ne v3 0 with
        | true =>
          have ub15 := pj_u0_neT b15
          refine pj_X_of (fun r h => pj_R_ifT 29 rfl rfl b15 h) ?_
          refine pj_X_of (fun r h => pj_R_to (G8, 34, [(4, .int (v4 + Int32.ofInt 1)), (3, .int (Int32.ofInt 0)), (0, .ref 27), (1, .ref 2), (2, .int dp)], [], 0, 0) 34 4 (fun _ => rfl) h) ?_
          obtain ⟨z16, hz16⟩ : ∃ z : Int32, z = v4 + Int32.ofInt 1 := ⟨_, rfl⟩
          rw [← hz16]
          have fz16_0 : z16.toInt = v4.toInt + (Int32.ofInt 1).toInt := by rw [hz16]; exact pj_addI (by have := pj_i32 v4; have := pj_i32 (Int32.ofInt 1); omega) (by have := pj_i32 v4; have := pj_i32 (Int32.ofInt 1); omega)
          refine pj_X_of (fun r h => pj_R_to (G8, 5, [(4, .int z16), (3, .int (Int32.ofInt 0)), (0, .ref 27), (1, .ref 2), (2, .int dp)], [], 0, 0) 5 2 (fun _ => rfl) h) ?_
          exact pj_X_sub [(0, .ref 27), (1, .ref 2), (2, .int dp), (3, .int (Int32.ofInt 0)), (4, .int z16)] (show List.Nodup [0, 1, 2, 3, 4] by decide) ⟨rfl, rfl, rfl, rfl, rfl, trivial⟩ (ih G8 iG8 kG8 (Int32.ofInt 0) z16 ⟨by omega, by omega⟩ ⟨by omega, by omega⟩ (by omega))
        | false =>
          have ub15 := pj_u0_neF b15
          refine pj_X_of (fun r h => pj_R_ifF rfl b15 h) ?_
          refine pj_X_of (fun r h => pj_R_to (G8, 34, [(4, .int (v4 + Int32.ofInt 1)), (3, .int (Int32.ofInt 1)), (0, .ref 27), (1, .ref 2), (2, .int dp)], [], 0, 0) 34 5 (fun _ => rfl) h) ?_
          obtain ⟨z17, hz17⟩ : ∃ z : Int32, z = v4 + Int32.ofInt 1 := ⟨_, rfl⟩
          rw [← hz17]
          have fz17_0 : z17.toInt = v4.toInt + (Int32.ofInt 1).toInt := by rw [hz17]; exact pj_addI (by have := pj_i32 v4; have := pj_i32 (Int32.ofInt 1); omega) (by have := pj_i32 v4; have := pj_i32 (Int32.ofInt 1); omega)
          refine pj_X_of (fun r h => pj_R_to (G8, 5, [(4, .int z17), (3, .int (Int32.ofInt 1)), (0, .ref 27), (1, .ref 2), (2, .int dp)], [], 0, 0) 5 2 (fun _ => rfl) h) ?_
          exact pj_X_sub [(0, .ref 27), (1, .ref 2), (2, .int dp), (3, .int (Int32.ofInt 1)), (4, .int z17)] (show List.Nodup [0, 1, 2, 3, 4] by decide) ⟨rfl, rfl, rfl, rfl, rfl, trivial⟩ (ih G8 iG8 kG8 (Int32.ofInt 1) z17 ⟨by omega, by omega⟩ ⟨by omega, by omega⟩ (by omega))
theorem ct_63_2 (G0 : pj_G) (hI : pj_Inv G0) (dp : Int32) (rdp : (2 : Int) ≤ dp.toInt ∧ dp.toInt ≤ 2) : pj_Y 30 63 [.ref 27, .ref 2, .int dp] G0 (fun v G' => v = none ∧ pj_Inv G' ∧ pj_kpt kc_63_2 G0 G') := by
  have c0_ : ((Int16.ofInt 2000).toInt32).toInt = 2000 := by decide
  have c1_ : ((Int8.ofInt 40).toInt32).toInt = 40 := by decide
  have c2_ : ((Int8.ofInt 45).toInt32).toInt = 45 := by decide
  have c3_ : (Int32.ofInt 0).toInt = 0 := by decide
  have c4_ : (Int32.ofInt 1).toInt = 1 := by decide
  refine pj_Y_X (M := pj_m63) rfl rfl (Nat.le_of_ble_eq_true rfl) ?_
  have hK : pj_kpt kc_63_2 G0 G0 := pj_kpt_r _ _
  show pj_X _ _ G0 0 [(0, .ref 27), (1, .ref 2), (2, .int dp)] [] _
  refine pj_X_of (fun r h => pj_R_to (G0, 5, [(4, .int (Int32.ofInt 0)), (3, .int (Int32.ofInt 0)), (0, .ref 27), (1, .ref 2), (2, .int dp)], [], 0, 0) 5 5 (fun _ => rfl) h) ?_
  exact pj_X_sub [(0, .ref 27), (1, .ref 2), (2, .int dp), (3, .int (Int32.ofInt 0)), (4, .int (Int32.ofInt 0))] (show List.Nodup [0, 1, 2, 3, 4] by decide) ⟨rfl, rfl, rfl, rfl, rfl, trivial⟩ ((lp_ct_63_2 G0 hI dp rdp 41) G0 hI hK (Int32.ofInt 0) (Int32.ofInt 0) ⟨by omega, by omega⟩ ⟨by omega, by omega⟩ (by omega))
def kc_62_3_2 : pj_KT := ([(2, 3), (2, 4), (27, 3)], [2, 27, 28, 29], [28, 29])
theorem ct_62_3_2 (G0 : pj_G) (hI : pj_Inv G0) (lv : Int32) (dp : Int32) (rlv : (3 : Int) ≤ lv.toInt ∧ lv.toInt ≤ 3) (rdp : (2 : Int) ≤ dp.toInt ∧ dp.toInt ≤ 2) : pj_Y 31 62 [.ref 27, .ref 2, .int lv, .int dp] G0 (fun v G' => v = none ∧ pj_Inv G' ∧ pj_kpt kc_62_3_2 G0 G') := by
  have c0_ : (Int32.ofInt 2).toInt = 2 := by decide
  refine pj_Y_X (M := pj_m62) rfl rfl (Nat.le_of_ble_eq_true rfl) ?_
  have hK : pj_kpt kc_62_3_2 G0 G0 := pj_kpt_r _ _
  show pj_X _ _ G0 0 [(0, .ref 27), (1, .ref 2), (2, .int lv), (3, .int dp)] [] _
  refine pj_X_of (fun r h => pj_R_to (G0, 2, [(0, .ref 27), (1, .ref 2), (2, .int lv), (3, .int dp)], [.int (Int32.ofInt 2), .int lv], 0, 0) 2 3 (fun _ => rfl) h) ?_
  refine pj_X_of (fun r h => pj_R_icF rfl (pj_b_leF (by omega)) h) ?_
  refine pj_X_of (fun r h => pj_R_to (G0, 8, [(0, .ref 27), (1, .ref 2), (2, .int lv), (3, .int dp)], [.int dp, .ref 2, .ref 27], 0, 0) 8 4 (fun _ => rfl) h) ?_
  refine pj_X_ca (vs := [.ref 27, .ref 2, .int dp]) rfl (fun _ => rfl) ⟨Nat.le_of_ble_eq_true rfl, Nat.le_of_ble_eq_true rfl, pj_T_rcv hI rfl⟩ ⟨rfl, rfl⟩ (pj_Y_up (by decide) (ct_63_2 G0 hI dp ⟨by omega, by omega⟩)) ?_
  rintro _ G2 ⟨rfl, iG2, jG2⟩
  have kG2 : pj_kpt kc_62_3_2 G0 G2 := pj_kpt_t hK (pj_kpt_s jG2 rfl)
  show pj_X _ _ G2 11 [(0, .ref 27), (1, .ref 2), (2, .int lv), (3, .int dp)] [] _
  exact pj_X_rt rfl rfl ⟨rfl, iG2, kG2⟩
def kc_62_2_2 : pj_KT := ([(2, 3), (2, 4), (27, 3)], [2, 27, 28, 29], [28, 29])
theorem lp_ct_62_2_2 (G0 : pj_G) (hI0 : pj_Inv G0) (lv : Int32) (dp : Int32) (rlv : (2 : Int) ≤ lv.toInt ∧ lv.toInt ≤ 2) (rdp : (2 : Int) ≤ dp.toInt ∧ dp.toInt ≤ 2) : ∀ mn : Nat, (∀ (G : pj_G) (hI : pj_Inv G) (hK : pj_kpt kc_62_2_2 G0 G) (v4 : Int32) (v5 : Int32), ((1 : Int) ≤ v4.toInt ∧ v4.toInt ≤ 40) → ((0 : Int) ≤ v5.toInt ∧ v5.toInt ≤ 40) → 40 - v5.toInt < (mn : Int) → pj_X 31 pj_m62 G 36 [(0, .ref 27), (1, .ref 2), (2, .int lv), (3, .int dp), (4, .int v4), (5, .int v5)] [] (fun v G' => v = none ∧ pj_Inv G' ∧ pj_kpt kc_62_2_2 G0 G')) := by
  have c0_ : ((Int16.ofInt 3000).toInt32).toInt = 3000 := by decide
  have c1_ : ((Int8.ofInt 40).toInt32).toInt = 40 := by decide
  have c2_ : (Int32.ofInt (-1)).toInt = -1 := by decide
  have c3_ : (Int32.ofInt 0).toInt = 0 := by decide
  have c4_ : (Int32.ofInt 1).toInt = 1 := by decide
  have c5_ : (Int32.ofInt 2).toInt = 2 := by decide
  intro mn
  induction mn with
  | zero =>
    intro G hI hK v4 v5 rv4 rv5 hm
    exfalso
    omega
  | succ mn ih =>
    intro G hI hK v4 v5 rv4 rv5 hm
    refine pj_X_of (fun r h => pj_R_to (G, 40, [(0, .ref 27), (1, .ref 2), (2, .int lv), (3, .int dp), (4, .int v4), (5, .int v5)], [.int v4, .int v5], 0, 0) 40 3 (fun _ => rfl) h) ?_
    cases b1 : pj_c1 .ge v5 v4 with
    | true =>
      have ub1 := pj_u_geT b1
      refine pj_X_of (fun r h => pj_R_icT 85 rfl rfl b1 h) ?_
      exact pj_X_rt rfl rfl ⟨rfl, hI, hK⟩
    | false =>
      have ub1 := pj_u_geF b1
      refine pj_X_of (fun r h => pj_R_icF rfl b1 h) ?_
      refine pj_X_of (fun r h => pj_R_to (G, 45, [(0, .ref 27), (1, .ref 2), (2, .int lv), (3, .int dp), (4, .int v4), (5, .int v5)], [.int lv, .ref 2], 0, 0) 45 3 (fun _ => rfl) h) ?_
      refine pj_X_ca (vs := [.int lv]) rfl (fun _ => rfl) ⟨Nat.le_of_ble_eq_true rfl, Nat.le_of_ble_eq_true rfl, rfl⟩ ⟨rfl, rfl⟩ (pj_Y_up (by decide) (ct_61_2 G hI lv ⟨by omega, by omega⟩)) ?_
      rintro _ _ ⟨rfl, rfl⟩
      show pj_X _ _ G 48 [(0, .ref 27), (1, .ref 2), (2, .int lv), (3, .int dp), (4, .int v4), (5, .int v5)] [.retAddr 7, .ref 2] _
      refine pj_X_ca (vs := [.ref 2, .retAddr 7]) rfl (fun _ => rfl) ⟨Nat.le_of_ble_eq_true rfl, Nat.le_of_ble_eq_true rfl, pj_T_rcv hI rfl⟩ ⟨rfl, rfl⟩ (pj_Y_up (by decide) (ct_84_s7 G hI)) ?_
      rintro _ G4 ⟨y3, rfl, iG4, jG4, ry3⟩
      have kG4 : pj_kpt kc_62_2_2 G0 G4 := pj_kpt_t hK (pj_kpt_s jG4 rfl)
      show pj_X _ _ G4 51 [(0, .ref 27), (1, .ref 2), (2, .int lv), (3, .int dp), (4, .int v4), (5, .int v5)] [.int y3] _
      refine pj_X_of (fun r h => pj_R_to (G4, 56, [(6, .int y3), (0, .ref 27), (1, .ref 2), (2, .int lv), (3, .int dp), (4, .int v4), (5, .int v5)], [.int (Int32.ofInt (-1)), .int y3], 0, 0) 56 4 (fun _ => rfl) h) ?_
      cases b5 : pj_c1 .ne y3 (Int32.ofInt (-1)) with
      | true =>
        have ub5 := pj_u_neT b5
        refine pj_X_of (fun r h => pj_R_icT 60 rfl rfl b5 h) ?_
        refine pj_X_of (fun r h => pj_R_to (G4, 65, [(6, .int y3), (0, .ref 27), (1, .ref 2), (2, .int lv), (3, .int dp), (4, .int v4), (5, .int v5)], [.int (lv + (Int32.ofInt 1)), .ref 2, .ref 27], 0, 0) 65 6 (fun _ => rfl) h) ?_
        obtain ⟨z6, hz6⟩ : ∃ z : Int32, z = lv + (Int32.ofInt 1) := ⟨_, rfl⟩
        rw [← hz6]
        have fz6_0 : z6.toInt = lv.toInt + (Int32.ofInt 1).toInt := by rw [hz6]; exact pj_addI (by have := pj_i32 lv; have := pj_i32 (Int32.ofInt 1); omega) (by have := pj_i32 lv; have := pj_i32 (Int32.ofInt 1); omega)
        refine pj_X_of (fun r h => pj_R_to (G4, 66, [(6, .int y3), (0, .ref 27), (1, .ref 2), (2, .int lv), (3, .int dp), (4, .int v4), (5, .int v5)], [.int dp, .int z6, .ref 2, .ref 27], 0, 0) 66 2 (fun _ => rfl) h) ?_
        refine pj_X_ca (vs := [.ref 27, .ref 2, .int z6, .int dp]) rfl (fun _ => rfl) ⟨Nat.le_of_ble_eq_true rfl, Nat.le_of_ble_eq_true rfl, pj_T_rcv iG4 rfl⟩ ⟨rfl, rfl⟩ (pj_Y_up (by decide) (ct_62_3_2 G4 iG4 z6 dp ⟨by omega, by omega⟩ ⟨by omega, by omega⟩)) ?_
        rintro _ G8 ⟨rfl, iG8, jG8⟩
        have kG8 : pj_kpt kc_62_2_2 G0 G8 := pj_kpt_t kG4 (pj_kpt_s jG8 rfl)
        show pj_X _ _ G8 69 [(6, .int y3), (0, .ref 27), (1, .ref 2), (2, .int lv), (3, .int dp), (4, .int v4), (5, .int v5)] [] _
        refine pj_X_of (fun r h => pj_R_to (G8, 76, [(6, .int y3), (0, .ref 27), (1, .ref 2), (2, .int lv), (3, .int dp), (4, .int v4), (5, .int v5)], [.int (((Int16.ofInt 3000).toInt32) + y3), .ref 27], 0, 0) 76 5 (fun _ => rfl) h) ?_
        obtain ⟨z9, hz9⟩ : ∃ z : Int32, z = ((Int16.ofInt 3000).toInt32) + y3 := ⟨_, rfl⟩
        rw [← hz9]
        have fz9_0 : z9.toInt = ((Int16.ofInt 3000).toInt32).toInt + y3.toInt := by rw [hz9]; exact pj_addI (by have := pj_i32 ((Int16.ofInt 3000).toInt32); have := pj_i32 y3; omega) (by have := pj_i32 ((Int16.ofInt 3000).toInt32); have := pj_i32 y3; omega)
        refine pj_X_ca (vs := [.ref 27, .int z9]) rfl (fun _ => rfl) ⟨Nat.le_of_ble_eq_true rfl, Nat.le_of_ble_eq_true rfl, pj_T_rcv iG8 rfl⟩ ⟨rfl, rfl⟩ (pj_Y_up (by decide) (ct_60 G8 iG8 z9 (by omega))) ?_
        rintro _ G11 ⟨rfl, iG11, jG11⟩
        have kG11 : pj_kpt kc_62_2_2 G0 G11 := pj_kpt_t kG8 (pj_kpt_s jG11 rfl)
        show pj_X _ _ G11 79 [(6, .int y3), (0, .ref 27), (1, .ref 2), (2, .int lv), (3, .int dp), (4, .int v4), (5, .int v5)] [] _
        refine pj_X_of (fun r h => pj_R_to (G11, 82, [(5, .int (v5 + Int32.ofInt 1)), (6, .int y3), (0, .ref 27), (1, .ref 2), (2, .int lv), (3, .int dp), (4, .int v4)], [], 0, 0) 82 2 (fun _ => rfl) h) ?_
        obtain ⟨z12, hz12⟩ : ∃ z : Int32, z = v5 + Int32.ofInt 1 := ⟨_, rfl⟩
        rw [← hz12]
        have fz12_0 : z12.toInt = v5.toInt + (Int32.ofInt 1).toInt := by rw [hz12]; exact pj_addI (by have := pj_i32 v5; have := pj_i32 (Int32.ofInt 1); omega) (by have := pj_i32 v5; have := pj_i32 (Int32.ofInt 1); omega)
        refine pj_X_of (fun r h => pj_R_to (G11, 36, [(5, .int z12), (6, .int y3), (0, .ref 27), (1, .ref 2), (2, .int lv), (3, .int dp), (4, .int v4)], [], 0, 0) 36 2 (fun _ => rfl) h) ?_
        exact pj_X_sub [(0, .ref 27), (1, .ref 2), (2, .int lv), (3, .int dp), (4, .int v4), (5, .int z12)] (show List.Nodup [0, 1, 2, 3, 4, 5] by decide) ⟨rfl, rfl, rfl, rfl, rfl, rfl, trivial⟩ (ih G11 iG11 kG11 v4 z12 ⟨by omega, by omega⟩ ⟨by omega, by omega⟩ (by omega))
      | false =>
        have ub5 := pj_u_neF b5
        refine pj_X_of (fun r h => pj_R_icF rfl b5 h) ?_
        exact pj_X_rt rfl rfl ⟨rfl, iG4, kG4⟩
theorem ct_62_2_2 (G0 : pj_G) (hI : pj_Inv G0) (lv : Int32) (dp : Int32) (rlv : (2 : Int) ≤ lv.toInt ∧ lv.toInt ≤ 2) (rdp : (2 : Int) ≤ dp.toInt ∧ dp.toInt ≤ 2) : pj_Y 32 62 [.ref 27, .ref 2, .int lv, .int dp] G0 (fun v G' => v = none ∧ pj_Inv G' ∧ pj_kpt kc_62_2_2 G0 G') := by
  have c0_ : ((Int16.ofInt 3000).toInt32).toInt = 3000 := by decide
  have c1_ : ((Int8.ofInt 40).toInt32).toInt = 40 := by decide
  have c2_ : (Int32.ofInt (-1)).toInt = -1 := by decide
  have c3_ : (Int32.ofInt 0).toInt = 0 := by decide
  have c4_ : (Int32.ofInt 1).toInt = 1 := by decide
  have c5_ : (Int32.ofInt 2).toInt = 2 := by decide
  refine pj_Y_X (M := pj_m62) rfl rfl (Nat.le_of_ble_eq_true rfl) ?_
  have hK : pj_kpt kc_62_2_2 G0 G0 := pj_kpt_r _ _
  show pj_X _ _ G0 0 [(0, .ref 27), (1, .ref 2), (2, .int lv), (3, .int dp)] [] _
  refine pj_X_of (fun r h => pj_R_to (G0, 2, [(0, .ref 27), (1, .ref 2), (2, .int lv), (3, .int dp)], [.int (Int32.ofInt 2), .int lv], 0, 0) 2 3 (fun _ => rfl) h) ?_
  refine pj_X_of (fun r h => pj_R_icT 12 rfl rfl (pj_b_leT (by omega)) h) ?_
  refine pj_X_of (fun r h => pj_R_to (G0, 17, [(0, .ref 27), (1, .ref 2), (2, .int lv), (3, .int dp)], [.int (lv + (Int32.ofInt 1)), .ref 2, .ref 27], 0, 0) 17 6 (fun _ => rfl) h) ?_
  obtain ⟨z13, hz13⟩ : ∃ z : Int32, z = lv + (Int32.ofInt 1) := ⟨_, rfl⟩
  rw [← hz13]
  have fz13_0 : z13.toInt = lv.toInt + (Int32.ofInt 1).toInt := by rw [hz13]; exact pj_addI (by have := pj_i32 lv; have := pj_i32 (Int32.ofInt 1); omega) (by have := pj_i32 lv; have := pj_i32 (Int32.ofInt 1); omega)
  refine pj_X_of (fun r h => pj_R_to (G0, 18, [(0, .ref 27), (1, .ref 2), (2, .int lv), (3, .int dp)], [.int dp, .int z13, .ref 2, .ref 27], 0, 0) 18 2 (fun _ => rfl) h) ?_
  refine pj_X_ca (vs := [.ref 27, .ref 2, .int z13, .int dp]) rfl (fun _ => rfl) ⟨Nat.le_of_ble_eq_true rfl, Nat.le_of_ble_eq_true rfl, pj_T_rcv hI rfl⟩ ⟨rfl, rfl⟩ (pj_Y_up (by decide) (ct_62_3_2 G0 hI z13 dp ⟨by omega, by omega⟩ ⟨by omega, by omega⟩)) ?_
  rintro _ G15 ⟨rfl, iG15, jG15⟩
  have kG15 : pj_kpt kc_62_2_2 G0 G15 := pj_kpt_t hK (pj_kpt_s jG15 rfl)
  show pj_X _ _ G15 21 [(0, .ref 27), (1, .ref 2), (2, .int lv), (3, .int dp)] [] _
  refine pj_X_of (fun r h => pj_R_to (G15, 22, [(0, .ref 27), (1, .ref 2), (2, .int lv), (3, .int dp)], [.int lv], 0, 0) 22 2 (fun _ => rfl) h) ?_
  refine pj_X_of (fun r h => pj_R_ifT 29 rfl rfl (pj_b0_neT (by omega)) h) ?_
  refine pj_X_of (fun r h => pj_R_to (G15, 36, [(5, .int (Int32.ofInt 0)), (4, .int ((Int8.ofInt 40).toInt32)), (0, .ref 27), (1, .ref 2), (2, .int lv), (3, .int dp)], [], 0, 0) 36 5 (fun _ => rfl) h) ?_
  exact pj_X_sub [(0, .ref 27), (1, .ref 2), (2, .int lv), (3, .int dp), (4, .int ((Int8.ofInt 40).toInt32)), (5, .int (Int32.ofInt 0))] (show List.Nodup [0, 1, 2, 3, 4, 5] by decide) ⟨rfl, rfl, rfl, rfl, rfl, rfl, trivial⟩ ((lp_ct_62_2_2 G0 hI lv dp rlv rdp 41) G15 iG15 kG15 ((Int8.ofInt 40).toInt32) (Int32.ofInt 0) ⟨by omega, by omega⟩ ⟨by omega, by omega⟩ (by omega))
def kc_62_1_2 : pj_KT := ([(2, 3), (2, 4), (27, 3)], [2, 27, 28, 29], [28, 29])
theorem lp_ct_62_1_2 (G0 : pj_G) (hI0 : pj_Inv G0) (lv : Int32) (dp : Int32) (rlv : (1 : Int) ≤ lv.toInt ∧ lv.toInt ≤ 1) (rdp : (2 : Int) ≤ dp.toInt ∧ dp.toInt ≤ 2) : ∀ mn : Nat, (∀ (G : pj_G) (hI : pj_Inv G) (hK : pj_kpt kc_62_1_2 G0 G) (v4 : Int32) (v5 : Int32), ((1 : Int) ≤ v4.toInt ∧ v4.toInt ≤ 40) → ((0 : Int) ≤ v5.toInt ∧ v5.toInt ≤ 40) → 40 - v5.toInt < (mn : Int) → pj_X 32 pj_m62 G 36 [(0, .ref 27), (1, .ref 2), (2, .int lv), (3, .int dp), (4, .int v4), (5, .int v5)] [] (fun v G' => v = none ∧ pj_Inv G' ∧ pj_kpt kc_62_1_2 G0 G')) := by
  have c0_ : ((Int16.ofInt 3000).toInt32).toInt = 3000 := by decide
  have c1_ : ((Int8.ofInt 40).toInt32).toInt = 40 := by decide
  have c2_ : (Int32.ofInt (-1)).toInt = -1 := by decide
  have c3_ : (Int32.ofInt 0).toInt = 0 := by decide
  have c4_ : (Int32.ofInt 1).toInt = 1 := by decide
  have c5_ : (Int32.ofInt 2).toInt = 2 := by decide
  intro mn
  induction mn with
  | zero =>
    intro G hI hK v4 v5 rv4 rv5 hm
    exfalso
    omega
  | succ mn ih =>
    intro G hI hK v4 v5 rv4 rv5 hm
    refine pj_X_of (fun r h => pj_R_to (G, 40, [(0, .ref 27), (1, .ref 2), (2, .int lv), (3, .int dp), (4, .int v4), (5, .int v5)], [.int v4, .int v5], 0, 0) 40 3 (fun _ => rfl) h) ?_
    cases b1 : pj_c1 .ge v5 v4 with
    | true =>
      have ub1 := pj_u_geT b1
      refine pj_X_of (fun r h => pj_R_icT 85 rfl rfl b1 h) ?_
      exact pj_X_rt rfl rfl ⟨rfl, hI, hK⟩
    | false =>
      have ub1 := pj_u_geF b1
      refine pj_X_of (fun r h => pj_R_icF rfl b1 h) ?_
      refine pj_X_of (fun r h => pj_R_to (G, 45, [(0, .ref 27), (1, .ref 2), (2, .int lv), (3, .int dp), (4, .int v4), (5, .int v5)], [.int lv, .ref 2], 0, 0) 45 3 (fun _ => rfl) h) ?_
      refine pj_X_ca (vs := [.int lv]) rfl (fun _ => rfl) ⟨Nat.le_of_ble_eq_true rfl, Nat.le_of_ble_eq_true rfl, rfl⟩ ⟨rfl, rfl⟩ (pj_Y_up (by decide) (ct_61_1 G hI lv ⟨by omega, by omega⟩)) ?_
      rintro _ _ ⟨rfl, rfl⟩
      show pj_X _ _ G 48 [(0, .ref 27), (1, .ref 2), (2, .int lv), (3, .int dp), (4, .int v4), (5, .int v5)] [.retAddr 6, .ref 2] _
      refine pj_X_ca (vs := [.ref 2, .retAddr 6]) rfl (fun _ => rfl) ⟨Nat.le_of_ble_eq_true rfl, Nat.le_of_ble_eq_true rfl, pj_T_rcv hI rfl⟩ ⟨rfl, rfl⟩ (pj_Y_up (by decide) (ct_84_s6 G hI)) ?_
      rintro _ G4 ⟨y3, rfl, iG4, jG4, ry3⟩
      have kG4 : pj_kpt kc_62_1_2 G0 G4 := pj_kpt_t hK (pj_kpt_s jG4 rfl)
      show pj_X _ _ G4 51 [(0, .ref 27), (1, .ref 2), (2, .int lv), (3, .int dp), (4, .int v4), (5, .int v5)] [.int y3] _
      refine pj_X_of (fun r h => pj_R_to (G4, 56, [(6, .int y3), (0, .ref 27), (1, .ref 2), (2, .int lv), (3, .int dp), (4, .int v4), (5, .int v5)], [.int (Int32.ofInt (-1)), .int y3], 0, 0) 56 4 (fun _ => rfl) h) ?_
      cases b5 : pj_c1 .ne y3 (Int32.ofInt (-1)) with
      | true =>
        have ub5 := pj_u_neT b5
        refine pj_X_of (fun r h => pj_R_icT 60 rfl rfl b5 h) ?_
        refine pj_X_of (fun r h => pj_R_to (G4, 65, [(6, .int y3), (0, .ref 27), (1, .ref 2), (2, .int lv), (3, .int dp), (4, .int v4), (5, .int v5)], [.int (lv + (Int32.ofInt 1)), .ref 2, .ref 27], 0, 0) 65 6 (fun _ => rfl) h) ?_
        obtain ⟨z6, hz6⟩ : ∃ z : Int32, z = lv + (Int32.ofInt 1) := ⟨_, rfl⟩
        rw [← hz6]
        have fz6_0 : z6.toInt = lv.toInt + (Int32.ofInt 1).toInt := by rw [hz6]; exact pj_addI (by have := pj_i32 lv; have := pj_i32 (Int32.ofInt 1); omega) (by have := pj_i32 lv; have := pj_i32 (Int32.ofInt 1); omega)
        refine pj_X_of (fun r h => pj_R_to (G4, 66, [(6, .int y3), (0, .ref 27), (1, .ref 2), (2, .int lv), (3, .int dp), (4, .int v4), (5, .int v5)], [.int dp, .int z6, .ref 2, .ref 27], 0, 0) 66 2 (fun _ => rfl) h) ?_
        refine pj_X_ca (vs := [.ref 27, .ref 2, .int z6, .int dp]) rfl (fun _ => rfl) ⟨Nat.le_of_ble_eq_true rfl, Nat.le_of_ble_eq_true rfl, pj_T_rcv iG4 rfl⟩ ⟨rfl, rfl⟩ (pj_Y_up (by decide) (ct_62_2_2 G4 iG4 z6 dp ⟨by omega, by omega⟩ ⟨by omega, by omega⟩)) ?_
        rintro _ G8 ⟨rfl, iG8, jG8⟩
        have kG8 : pj_kpt kc_62_1_2 G0 G8 := pj_kpt_t kG4 (pj_kpt_s jG8 rfl)
        show pj_X _ _ G8 69 [(6, .int y3), (0, .ref 27), (1, .ref 2), (2, .int lv), (3, .int dp), (4, .int v4), (5, .int v5)] [] _
        refine pj_X_of (fun r h => pj_R_to (G8, 76, [(6, .int y3), (0, .ref 27), (1, .ref 2), (2, .int lv), (3, .int dp), (4, .int v4), (5, .int v5)], [.int (((Int16.ofInt 3000).toInt32) + y3), .ref 27], 0, 0) 76 5 (fun _ => rfl) h) ?_
        obtain ⟨z9, hz9⟩ : ∃ z : Int32, z = ((Int16.ofInt 3000).toInt32) + y3 := ⟨_, rfl⟩
        rw [← hz9]
        have fz9_0 : z9.toInt = ((Int16.ofInt 3000).toInt32).toInt + y3.toInt := by rw [hz9]; exact pj_addI (by have := pj_i32 ((Int16.ofInt 3000).toInt32); have := pj_i32 y3; omega) (by have := pj_i32 ((Int16.ofInt 3000).toInt32); have := pj_i32 y3; omega)
        refine pj_X_ca (vs := [.ref 27, .int z9]) rfl (fun _ => rfl) ⟨Nat.le_of_ble_eq_true rfl, Nat.le_of_ble_eq_true rfl, pj_T_rcv iG8 rfl⟩ ⟨rfl, rfl⟩ (pj_Y_up (by decide) (ct_60 G8 iG8 z9 (by omega))) ?_
        rintro _ G11 ⟨rfl, iG11, jG11⟩
        have kG11 : pj_kpt kc_62_1_2 G0 G11 := pj_kpt_t kG8 (pj_kpt_s jG11 rfl)
        show pj_X _ _ G11 79 [(6, .int y3), (0, .ref 27), (1, .ref 2), (2, .int lv), (3, .int dp), (4, .int v4), (5, .int v5)] [] _
        refine pj_X_of (fun r h => pj_R_to (G11, 82, [(5, .int (v5 + Int32.ofInt 1)), (6, .int y3), (0, .ref 27), (1, .ref 2), (2, .int lv), (3, .int dp), (4, .int v4)], [], 0, 0) 82 2 (fun _ => rfl) h) ?_
        obtain ⟨z12, hz12⟩ : ∃ z : Int32, z = v5 + Int32.ofInt 1 := ⟨_, rfl⟩
        rw [← hz12]
        have fz12_0 : z12.toInt = v5.toInt + (Int32.ofInt 1).toInt := by rw [hz12]; exact pj_addI (by have := pj_i32 v5; have := pj_i32 (Int32.ofInt 1); omega) (by have := pj_i32 v5; have := pj_i32 (Int32.ofInt 1); omega)
        refine pj_X_of (fun r h => pj_R_to (G11, 36, [(5, .int z12), (6, .int y3), (0, .ref 27), (1, .ref 2), (2, .int lv), (3, .int dp), (4, .int v4)], [], 0, 0) 36 2 (fun _ => rfl) h) ?_
        exact pj_X_sub [(0, .ref 27), (1, .ref 2), (2, .int lv), (3, .int dp), (4, .int v4), (5, .int z12)] (show List.Nodup [0, 1, 2, 3, 4, 5] by decide) ⟨rfl, rfl, rfl, rfl, rfl, rfl, trivial⟩ (ih G11 iG11 kG11 v4 z12 ⟨by omega, by omega⟩ ⟨by omega, by omega⟩ (by omega))
      | false =>
        have ub5 := pj_u_neF b5
        refine pj_X_of (fun r h => pj_R_icF rfl b5 h) ?_
        exact pj_X_rt rfl rfl ⟨rfl, iG4, kG4⟩
theorem ct_62_1_2 (G0 : pj_G) (hI : pj_Inv G0) (lv : Int32) (dp : Int32) (rlv : (1 : Int) ≤ lv.toInt ∧ lv.toInt ≤ 1) (rdp : (2 : Int) ≤ dp.toInt ∧ dp.toInt ≤ 2) : pj_Y 33 62 [.ref 27, .ref 2, .int lv, .int dp] G0 (fun v G' => v = none ∧ pj_Inv G' ∧ pj_kpt kc_62_1_2 G0 G') := by
  have c0_ : ((Int16.ofInt 3000).toInt32).toInt = 3000 := by decide
  have c1_ : ((Int8.ofInt 40).toInt32).toInt = 40 := by decide
  have c2_ : (Int32.ofInt (-1)).toInt = -1 := by decide
  have c3_ : (Int32.ofInt 0).toInt = 0 := by decide
  have c4_ : (Int32.ofInt 1).toInt = 1 := by decide
  have c5_ : (Int32.ofInt 2).toInt = 2 := by decide
  refine pj_Y_X (M := pj_m62) rfl rfl (Nat.le_of_ble_eq_true rfl) ?_
  have hK : pj_kpt kc_62_1_2 G0 G0 := pj_kpt_r _ _
  show pj_X _ _ G0 0 [(0, .ref 27), (1, .ref 2), (2, .int lv), (3, .int dp)] [] _
  refine pj_X_of (fun r h => pj_R_to (G0, 2, [(0, .ref 27), (1, .ref 2), (2, .int lv), (3, .int dp)], [.int (Int32.ofInt 2), .int lv], 0, 0) 2 3 (fun _ => rfl) h) ?_
  refine pj_X_of (fun r h => pj_R_icT 12 rfl rfl (pj_b_leT (by omega)) h) ?_
  refine pj_X_of (fun r h => pj_R_to (G0, 17, [(0, .ref 27), (1, .ref 2), (2, .int lv), (3, .int dp)], [.int (lv + (Int32.ofInt 1)), .ref 2, .ref 27], 0, 0) 17 6 (fun _ => rfl) h) ?_
  obtain ⟨z13, hz13⟩ : ∃ z : Int32, z = lv + (Int32.ofInt 1) := ⟨_, rfl⟩
  rw [← hz13]
  have fz13_0 : z13.toInt = lv.toInt + (Int32.ofInt 1).toInt := by rw [hz13]; exact pj_addI (by have := pj_i32 lv; have := pj_i32 (Int32.ofInt 1); omega) (by have := pj_i32 lv; have := pj_i32 (Int32.ofInt 1); omega)
  refine pj_X_of (fun r h => pj_R_to (G0, 18, [(0, .ref 27), (1, .ref 2), (2, .int lv), (3, .int dp)], [.int dp, .int z13, .ref 2, .ref 27], 0, 0) 18 2 (fun _ => rfl) h) ?_
  refine pj_X_ca (vs := [.ref 27, .ref 2, .int z13, .int dp]) rfl (fun _ => rfl) ⟨Nat.le_of_ble_eq_true rfl, Nat.le_of_ble_eq_true rfl, pj_T_rcv hI rfl⟩ ⟨rfl, rfl⟩ (pj_Y_up (by decide) (ct_62_2_2 G0 hI z13 dp ⟨by omega, by omega⟩ ⟨by omega, by omega⟩)) ?_
  rintro _ G15 ⟨rfl, iG15, jG15⟩
  have kG15 : pj_kpt kc_62_1_2 G0 G15 := pj_kpt_t hK (pj_kpt_s jG15 rfl)
  show pj_X _ _ G15 21 [(0, .ref 27), (1, .ref 2), (2, .int lv), (3, .int dp)] [] _
  refine pj_X_of (fun r h => pj_R_to (G15, 22, [(0, .ref 27), (1, .ref 2), (2, .int lv), (3, .int dp)], [.int lv], 0, 0) 22 2 (fun _ => rfl) h) ?_
  refine pj_X_of (fun r h => pj_R_ifT 29 rfl rfl (pj_b0_neT (by omega)) h) ?_
  refine pj_X_of (fun r h => pj_R_to (G15, 36, [(5, .int (Int32.ofInt 0)), (4, .int ((Int8.ofInt 40).toInt32)), (0, .ref 27), (1, .ref 2), (2, .int lv), (3, .int dp)], [], 0, 0) 36 5 (fun _ => rfl) h) ?_
  exact pj_X_sub [(0, .ref 27), (1, .ref 2), (2, .int lv), (3, .int dp), (4, .int ((Int8.ofInt 40).toInt32)), (5, .int (Int32.ofInt 0))] (show List.Nodup [0, 1, 2, 3, 4, 5] by decide) ⟨rfl, rfl, rfl, rfl, rfl, rfl, trivial⟩ ((lp_ct_62_1_2 G0 hI lv dp rlv rdp 41) G15 iG15 kG15 ((Int8.ofInt 40).toInt32) (Int32.ofInt 0) ⟨by omega, by omega⟩ ⟨by omega, by omega⟩ (by omega))
def kc_62_0_2 : pj_KT := ([(2, 3), (2, 4), (27, 3)], [2, 27, 28, 29], [28, 29])
theorem lp_ct_62_0_2 (G0 : pj_G) (hI0 : pj_Inv G0) (lv : Int32) (dp : Int32) (rlv : (0 : Int) ≤ lv.toInt ∧ lv.toInt ≤ 0) (rdp : (2 : Int) ≤ dp.toInt ∧ dp.toInt ≤ 2) : ∀ mn : Nat, (∀ (G : pj_G) (hI : pj_Inv G) (hK : pj_kpt kc_62_0_2 G0 G) (v4 : Int32) (v5 : Int32), ((1 : Int) ≤ v4.toInt ∧ v4.toInt ≤ 40) → ((0 : Int) ≤ v5.toInt ∧ v5.toInt ≤ 40) → 40 - v5.toInt < (mn : Int) → pj_X 33 pj_m62 G 36 [(0, .ref 27), (1, .ref 2), (2, .int lv), (3, .int dp), (4, .int v4), (5, .int v5)] [] (fun v G' => v = none ∧ pj_Inv G' ∧ pj_kpt kc_62_0_2 G0 G')) := by
  have c0_ : ((Int16.ofInt 3000).toInt32).toInt = 3000 := by decide
  have c1_ : (Int32.ofInt (-1)).toInt = -1 := by decide
  have c2_ : (Int32.ofInt 0).toInt = 0 := by decide
  have c3_ : (Int32.ofInt 1).toInt = 1 := by decide
  have c4_ : (Int32.ofInt 2).toInt = 2 := by decide
  intro mn
  induction mn with
  | zero =>
    intro G hI hK v4 v5 rv4 rv5 hm
    exfalso
    omega
  | succ mn ih =>
    intro G hI hK v4 v5 rv4 rv5 hm
    refine pj_X_of (fun r h => pj_R_to (G, 40, [(0, .ref 27), (1, .ref 2), (2, .int lv), (3, .int dp), (4, .int v4), (5, .int v5)], [.int v4, .int v5], 0, 0) 40 3 (fun _ => rfl) h) ?_
    cases b1 : pj_c1 .ge v5 v4 with
    | true =>
      have ub1 := pj_u_geT b1
      refine pj_X_of (fun r h => pj_R_icT 85 rfl rfl b1 h) ?_
      exact pj_X_rt rfl rfl ⟨rfl, hI, hK⟩
    | false =>
      have ub1 := pj_u_geF b1
      refine pj_X_of (fun r h => pj_R_icF rfl b1 h) ?_
      refine pj_X_of (fun r h => pj_R_to (G, 45, [(0, .ref 27), (1, .ref 2), (2, .int lv), (3, .int dp), (4, .int v4), (5, .int v5)], [.int lv, .ref 2], 0, 0) 45 3 (fun _ => rfl) h) ?_
      refine pj_X_ca (vs := [.int lv]) rfl (fun _ => rfl) ⟨Nat.le_of_ble_eq_true rfl, Nat.le_of_ble_eq_true rfl, rfl⟩ ⟨rfl, rfl⟩ (pj_Y_up (by decide) (ct_61_0 G hI lv ⟨by omega, by omega⟩)) ?_
      rintro _ _ ⟨rfl, rfl⟩
      show pj_X _ _ G 48 [(0, .ref 27), (1, .ref 2), (2, .int lv), (3, .int dp), (4, .int v4), (5, .int v5)] [.retAddr 5, .ref 2] _
      refine pj_X_ca (vs := [.ref 2, .retAddr 5]) rfl (fun _ => rfl) ⟨Nat.le_of_ble_eq_true rfl, Nat.le_of_ble_eq_true rfl, pj_T_rcv hI rfl⟩ ⟨rfl, rfl⟩ (pj_Y_up (by decide) (ct_84_s5 G hI)) ?_
      rintro _ G4 ⟨y3, rfl, iG4, jG4, ry3⟩
      have kG4 : pj_kpt kc_62_0_2 G0 G4 := pj_kpt_t hK (pj_kpt_s jG4 rfl)
      show pj_X _ _ G4 51 [(0, .ref 27), (1, .ref 2), (2, .int lv), (3, .int dp), (4, .int v4), (5, .int v5)] [.int y3] _
      refine pj_X_of (fun r h => pj_R_to (G4, 56, [(6, .int y3), (0, .ref 27), (1, .ref 2), (2, .int lv), (3, .int dp), (4, .int v4), (5, .int v5)], [.int (Int32.ofInt (-1)), .int y3], 0, 0) 56 4 (fun _ => rfl) h) ?_
      cases b5 : pj_c1 .ne y3 (Int32.ofInt (-1)) with
      | true =>
        have ub5 := pj_u_neT b5
        refine pj_X_of (fun r h => pj_R_icT 60 rfl rfl b5 h) ?_
        refine pj_X_of (fun r h => pj_R_to (G4, 65, [(6, .int y3), (0, .ref 27), (1, .ref 2), (2, .int lv), (3, .int dp), (4, .int v4), (5, .int v5)], [.int (lv + (Int32.ofInt 1)), .ref 2, .ref 27], 0, 0) 65 6 (fun _ => rfl) h) ?_
        obtain ⟨z6, hz6⟩ : ∃ z : Int32, z = lv + (Int32.ofInt 1) := ⟨_, rfl⟩
        rw [← hz6]
        have fz6_0 : z6.toInt = lv.toInt + (Int32.ofInt 1).toInt := by rw [hz6]; exact pj_addI (by have := pj_i32 lv; have := pj_i32 (Int32.ofInt 1); omega) (by have := pj_i32 lv; have := pj_i32 (Int32.ofInt 1); omega)
        refine pj_X_of (fun r h => pj_R_to (G4, 66, [(6, .int y3), (0, .ref 27), (1, .ref 2), (2, .int lv), (3, .int dp), (4, .int v4), (5, .int v5)], [.int dp, .int z6, .ref 2, .ref 27], 0, 0) 66 2 (fun _ => rfl) h) ?_
        refine pj_X_ca (vs := [.ref 27, .ref 2, .int z6, .int dp]) rfl (fun _ => rfl) ⟨Nat.le_of_ble_eq_true rfl, Nat.le_of_ble_eq_true rfl, pj_T_rcv iG4 rfl⟩ ⟨rfl, rfl⟩ (pj_Y_up (by decide) (ct_62_1_2 G4 iG4 z6 dp ⟨by omega, by omega⟩ ⟨by omega, by omega⟩)) ?_
        rintro _ G8 ⟨rfl, iG8, jG8⟩
        have kG8 : pj_kpt kc_62_0_2 G0 G8 := pj_kpt_t kG4 (pj_kpt_s jG8 rfl)
        show pj_X _ _ G8 69 [(6, .int y3), (0, .ref 27), (1, .ref 2), (2, .int lv), (3, .int dp), (4, .int v4), (5, .int v5)] [] _
        refine pj_X_of (fun r h => pj_R_to (G8, 76, [(6, .int y3), (0, .ref 27), (1, .ref 2), (2, .int lv), (3, .int dp), (4, .int v4), (5, .int v5)], [.int (((Int16.ofInt 3000).toInt32) + y3), .ref 27], 0, 0) 76 5 (fun _ => rfl) h) ?_
        obtain ⟨z9, hz9⟩ : ∃ z : Int32, z = ((Int16.ofInt 3000).toInt32) + y3 := ⟨_, rfl⟩
        rw [← hz9]
        have fz9_0 : z9.toInt = ((Int16.ofInt 3000).toInt32).toInt + y3.toInt := by rw [hz9]; exact pj_addI (by have := pj_i32 ((Int16.ofInt 3000).toInt32); have := pj_i32 y3; omega) (by have := pj_i32 ((Int16.ofInt 3000).toInt32); have := pj_i32 y3; omega)
        refine pj_X_ca (vs := [.ref 27, .int z9]) rfl (fun _ => rfl) ⟨Nat.le_of_ble_eq_true rfl, Nat.le_of_ble_eq_true rfl, pj_T_rcv iG8 rfl⟩ ⟨rfl, rfl⟩ (pj_Y_up (by decide) (ct_60 G8 iG8 z9 (by omega))) ?_
        rintro _ G11 ⟨rfl, iG11, jG11⟩
        have kG11 : pj_kpt kc_62_0_2 G0 G11 := pj_kpt_t kG8 (pj_kpt_s jG11 rfl)
        show pj_X _ _ G11 79 [(6, .int y3), (0, .ref 27), (1, .ref 2), (2, .int lv), (3, .int dp), (4, .int v4), (5, .int v5)] [] _
        refine pj_X_of (fun r h => pj_R_to (G11, 82, [(5, .int (v5 + Int32.ofInt 1)), (6, .int y3), (0, .ref 27), (1, .ref 2), (2, .int lv), (3, .int dp), (4, .int v4)], [], 0, 0) 82 2 (fun _ => rfl) h) ?_
        obtain ⟨z12, hz12⟩ : ∃ z : Int32, z = v5 + Int32.ofInt 1 := ⟨_, rfl⟩
        rw [← hz12]
        have fz12_0 : z12.toInt = v5.toInt + (Int32.ofInt 1).toInt := by rw [hz12]; exact pj_addI (by have := pj_i32 v5; have := pj_i32 (Int32.ofInt 1); omega) (by have := pj_i32 v5; have := pj_i32 (Int32.ofInt 1); omega)
        refine pj_X_of (fun r h => pj_R_to (G11, 36, [(5, .int z12), (6, .int y3), (0, .ref 27), (1, .ref 2), (2, .int lv), (3, .int dp), (4, .int v4)], [], 0, 0) 36 2 (fun _ => rfl) h) ?_
        exact pj_X_sub [(0, .ref 27), (1, .ref 2), (2, .int lv), (3, .int dp), (4, .int v4), (5, .int z12)] (show List.Nodup [0, 1, 2, 3, 4, 5] by decide) ⟨rfl, rfl, rfl, rfl, rfl, rfl, trivial⟩ (ih G11 iG11 kG11 v4 z12 ⟨by omega, by omega⟩ ⟨by omega, by omega⟩ (by omega))
      | false =>
        have ub5 := pj_u_neF b5
        refine pj_X_of (fun r h => pj_R_icF rfl b5 h) ?_
        exact pj_X_rt rfl rfl ⟨rfl, iG4, kG4⟩
theorem ct_62_0_2 (G0 : pj_G) (hI : pj_Inv G0) (lv : Int32) (dp : Int32) (rlv : (0 : Int) ≤ lv.toInt ∧ lv.toInt ≤ 0) (rdp : (2 : Int) ≤ dp.toInt ∧ dp.toInt ≤ 2) : pj_Y 34 62 [.ref 27, .ref 2, .int lv, .int dp] G0 (fun v G' => v = none ∧ pj_Inv G' ∧ pj_kpt kc_62_0_2 G0 G') := by
  have c0_ : ((Int16.ofInt 3000).toInt32).toInt = 3000 := by decide
  have c1_ : (Int32.ofInt (-1)).toInt = -1 := by decide
  have c2_ : (Int32.ofInt 0).toInt = 0 := by decide
  have c3_ : (Int32.ofInt 1).toInt = 1 := by decide
  have c4_ : (Int32.ofInt 2).toInt = 2 := by decide
  refine pj_Y_X (M := pj_m62) rfl rfl (Nat.le_of_ble_eq_true rfl) ?_
  have hK : pj_kpt kc_62_0_2 G0 G0 := pj_kpt_r _ _
  show pj_X _ _ G0 0 [(0, .ref 27), (1, .ref 2), (2, .int lv), (3, .int dp)] [] _
  refine pj_X_of (fun r h => pj_R_to (G0, 2, [(0, .ref 27), (1, .ref 2), (2, .int lv), (3, .int dp)], [.int (Int32.ofInt 2), .int lv], 0, 0) 2 3 (fun _ => rfl) h) ?_
  refine pj_X_of (fun r h => pj_R_icT 12 rfl rfl (pj_b_leT (by omega)) h) ?_
  refine pj_X_of (fun r h => pj_R_to (G0, 17, [(0, .ref 27), (1, .ref 2), (2, .int lv), (3, .int dp)], [.int (lv + (Int32.ofInt 1)), .ref 2, .ref 27], 0, 0) 17 6 (fun _ => rfl) h) ?_
  obtain ⟨z13, hz13⟩ : ∃ z : Int32, z = lv + (Int32.ofInt 1) := ⟨_, rfl⟩
  rw [← hz13]
  have fz13_0 : z13.toInt = lv.toInt + (Int32.ofInt 1).toInt := by rw [hz13]; exact pj_addI (by have := pj_i32 lv; have := pj_i32 (Int32.ofInt 1); omega) (by have := pj_i32 lv; have := pj_i32 (Int32.ofInt 1); omega)
  refine pj_X_of (fun r h => pj_R_to (G0, 18, [(0, .ref 27), (1, .ref 2), (2, .int lv), (3, .int dp)], [.int dp, .int z13, .ref 2, .ref 27], 0, 0) 18 2 (fun _ => rfl) h) ?_
  refine pj_X_ca (vs := [.ref 27, .ref 2, .int z13, .int dp]) rfl (fun _ => rfl) ⟨Nat.le_of_ble_eq_true rfl, Nat.le_of_ble_eq_true rfl, pj_T_rcv hI rfl⟩ ⟨rfl, rfl⟩ (pj_Y_up (by decide) (ct_62_1_2 G0 hI z13 dp ⟨by omega, by omega⟩ ⟨by omega, by omega⟩)) ?_
  rintro _ G15 ⟨rfl, iG15, jG15⟩
  have kG15 : pj_kpt kc_62_0_2 G0 G15 := pj_kpt_t hK (pj_kpt_s jG15 rfl)
  show pj_X _ _ G15 21 [(0, .ref 27), (1, .ref 2), (2, .int lv), (3, .int dp)] [] _
  refine pj_X_of (fun r h => pj_R_to (G15, 22, [(0, .ref 27), (1, .ref 2), (2, .int lv), (3, .int dp)], [.int lv], 0, 0) 22 2 (fun _ => rfl) h) ?_
  refine pj_X_of (fun r h => pj_R_ifF rfl (pj_b0_neF (by omega)) h) ?_
  refine pj_X_of (fun r h => pj_R_to (G15, 36, [(5, .int (Int32.ofInt 0)), (4, .int (Int32.ofInt 1)), (0, .ref 27), (1, .ref 2), (2, .int lv), (3, .int dp)], [], 0, 0) 36 6 (fun _ => rfl) h) ?_
  exact pj_X_sub [(0, .ref 27), (1, .ref 2), (2, .int lv), (3, .int dp), (4, .int (Int32.ofInt 1)), (5, .int (Int32.ofInt 0))] (show List.Nodup [0, 1, 2, 3, 4, 5] by decide) ⟨rfl, rfl, rfl, rfl, rfl, rfl, trivial⟩ ((lp_ct_62_0_2 G0 hI lv dp rlv rdp 41) G15 iG15 kG15 (Int32.ofInt 1) (Int32.ofInt 0) ⟨by omega, by omega⟩ ⟨by omega, by omega⟩ (by omega))
def kc_64_1 : pj_KT := ([(2, 3), (2, 4), (27, 3)], [2, 27, 28, 29], [28, 29])
theorem ct_64_1 (G0 : pj_G) (hI : pj_Inv G0) (dp : Int32) (rdp : (1 : Int) ≤ dp.toInt ∧ dp.toInt ≤ 1) : pj_Y 35 64 [.ref 27, .ref 2, .int dp] G0 (fun v G' => v = none ∧ pj_Inv G' ∧ pj_kpt kc_64_1 G0 G') := by
  have c0_ : ((Int16.ofInt 1000).toInt32).toInt = 1000 := by decide
  have c1_ : ((Int8.ofInt 40).toInt32).toInt = 40 := by decide
  have c2_ : ((Int8.ofInt 41).toInt32).toInt = 41 := by decide
  have c3_ : (Int32.ofInt (-1)).toInt = -1 := by decide
  have c4_ : (Int32.ofInt 0).toInt = 0 := by decide
  have c5_ : (Int32.ofInt 1).toInt = 1 := by decide
  have c6_ : (Int32.ofInt 3).toInt = 3 := by decide
  have c7_ : (Int32.ofInt 4).toInt = 4 := by decide
  refine pj_Y_X (M := pj_m64) rfl rfl (Nat.le_of_ble_eq_true rfl) ?_
  have hK : pj_kpt kc_64_1 G0 G0 := pj_kpt_r _ _
  show pj_X _ _ G0 0 [(0, .ref 27), (1, .ref 2), (2, .int dp)] [] _
  refine pj_X_of (fun r h => pj_R_to (G0, 1, [(0, .ref 27), (1, .ref 2), (2, .int dp)], [.ref 2], 0, 0) 1 2 (fun _ => rfl) h) ?_
  refine pj_X_ca (vs := [.ref 2]) rfl (fun _ => rfl) ⟨Nat.le_of_ble_eq_true rfl, Nat.le_of_ble_eq_true rfl, pj_T_rcv hI rfl⟩ ⟨rfl, rfl⟩ (pj_Y_up (by decide) (ct_85 G0 hI)) ?_
  rintro _ _ ⟨y1, rfl, rfl, ry1⟩
  show pj_X _ _ G0 4 [(0, .ref 27), (1, .ref 2), (2, .int dp)] [.int y1] _
  cases b2 : pj_c1 .eq y1 0 with
  | true =>
    have ub2 := pj_u0_eqT b2
    refine pj_X_of (fun r h => pj_R_ifT 19 rfl rfl b2 h) ?_
    refine pj_X_of (fun r h => pj_R_to (G0, 21, [(0, .ref 27), (1, .ref 2), (2, .int dp)], [.int (Int32.ofInt 4), .int dp], 0, 0) 21 3 (fun _ => rfl) h) ?_
    refine pj_X_of (fun r h => pj_R_icF rfl (pj_b_geF (by omega)) h) ?_
    refine pj_X_of (fun r h => pj_R_to (G0, 27, [(0, .ref 27), (1, .ref 2), (2, .int dp)], [.int ((Int8.ofInt 40).toInt32), .ref 2], 0, 0) 27 3 (fun _ => rfl) h) ?_
    refine pj_X_ca (vs := [.ref 2, .int ((Int8.ofInt 40).toInt32)]) rfl (fun _ => rfl) ⟨Nat.le_of_ble_eq_true rfl, Nat.le_of_ble_eq_true rfl, pj_T_rcv hI rfl⟩ ⟨rfl, rfl⟩ (pj_Y_up (by decide) (ct_82 G0 hI ((Int8.ofInt 40).toInt32) ⟨by omega, by omega⟩)) ?_
    rintro _ G4 ⟨y3, rfl, iG4, jG4, ry3⟩
    have kG4 : pj_kpt kc_64_1 G0 G4 := pj_kpt_t hK (pj_kpt_s jG4 rfl)
    show pj_X _ _ G4 30 [(0, .ref 27), (1, .ref 2), (2, .int dp)] [.int y3] _
    cases b5 : pj_c1 .eq y3 0 with
    | true =>
      have ub5 := pj_u0_eqT b5
      refine pj_X_of (fun r h => pj_R_ifT 54 rfl rfl b5 h) ?_
      refine pj_X_of (fun r h => pj_R_to (G4, 57, [(0, .ref 27), (1, .ref 2), (2, .int dp)], [.retAddr 8, .ref 2], 0, 0) 57 3 (fun _ => rfl) h) ?_
      refine pj_X_ca (vs := [.ref 2, .retAddr 8]) rfl (fun _ => rfl) ⟨Nat.le_of_ble_eq_true rfl, Nat.le_of_ble_eq_true rfl, pj_T_rcv iG4 rfl⟩ ⟨rfl, rfl⟩ (pj_Y_up (by decide) (ct_84_s8 G4 iG4)) ?_
      rintro _ G7 ⟨y6, rfl, iG7, jG7, ry6⟩
      have kG7 : pj_kpt kc_64_1 G0 G7 := pj_kpt_t kG4 (pj_kpt_s jG7 rfl)
      show pj_X _ _ G7 60 [(0, .ref 27), (1, .ref 2), (2, .int dp)] [.int y6] _
      refine pj_X_of (fun r h => pj_R_to (G7, 63, [(3, .int y6), (0, .ref 27), (1, .ref 2), (2, .int dp)], [.int (Int32.ofInt (-1)), .int y6], 0, 0) 63 4 (fun _ => rfl) h) ?_
      cases b8 : pj_c1 .ne y6 (Int32.ofInt (-1)) with
      | true =>
        have ub8 := pj_u_neT b8
        refine pj_X_of (fun r h => pj_R_icT 73 rfl rfl b8 h) ?_
        refine pj_X_of (fun r h => pj_R_to (G7, 81, [(3, .int y6), (0, .ref 27), (1, .ref 2), (2, .int dp)], [.int ((y6.toUInt32 % 65536).toInt32), .retAddr 8, .int ((Int16.ofInt 1000).toInt32), .ref 27], 0, 0) 81 6 (fun _ => rfl) h) ?_
        obtain ⟨z9, hz9⟩ : ∃ z : Int32, z = (y6.toUInt32 % 65536).toInt32 := ⟨_, rfl⟩
        rw [← hz9]
        have fz9_0 : z9.toInt = y6.toInt := by rw [hz9]; exact pj_i2cI (by omega) (by omega)
        refine pj_X_ca (vs := [.retAddr 8, .int z9]) rfl (fun _ => rfl) ⟨Nat.le_of_ble_eq_true rfl, Nat.le_of_ble_eq_true rfl, rfl⟩ ⟨rfl, rfl⟩ (pj_Y_up (by decide) (ct_290_s8 G7 iG7 z9 ⟨by omega, by omega⟩)) ?_
        rintro _ _ ⟨y10, rfl, rfl, ry10⟩
        show pj_X _ _ G7 84 [(3, .int y6), (0, .ref 27), (1, .ref 2), (2, .int dp)] [.int y10, .int ((Int16.ofInt 1000).toInt32), .ref 27] _
        refine pj_X_of (fun r h => pj_R_to (G7, 85, [(3, .int y6), (0, .ref 27), (1, .ref 2), (2, .int dp)], [.int (((Int16.ofInt 1000).toInt32) + y10), .ref 27], 0, 0) 85 2 (fun _ => rfl) h) ?_
        obtain ⟨z11, hz11⟩ : ∃ z : Int32, z = ((Int16.ofInt 1000).toInt32) + y10 := ⟨_, rfl⟩
        rw [← hz11]
        have fz11_0 : z11.toInt = ((Int16.ofInt 1000).toInt32).toInt + y10.toInt := by rw [hz11]; exact pj_addI (by have := pj_i32 ((Int16.ofInt 1000).toInt32); have := pj_i32 y10; omega) (by have := pj_i32 ((Int16.ofInt 1000).toInt32); have := pj_i32 y10; omega)
        refine pj_X_ca (vs := [.ref 27, .int z11]) rfl (fun _ => rfl) ⟨Nat.le_of_ble_eq_true rfl, Nat.le_of_ble_eq_true rfl, pj_T_rcv iG7 rfl⟩ ⟨rfl, rfl⟩ (pj_Y_up (by decide) (ct_60 G7 iG7 z11 (by omega))) ?_
        rintro _ G13 ⟨rfl, iG13, jG13⟩
        have kG13 : pj_kpt kc_64_1 G0 G13 := pj_kpt_t kG7 (pj_kpt_s jG13 rfl)
        show pj_X _ _ G13 88 [(3, .int y6), (0, .ref 27), (1, .ref 2), (2, .int dp)] [] _
        exact pj_X_rt rfl rfl ⟨rfl, iG13, kG13⟩
      | false =>
        have ub8 := pj_u_neF b8
        refine pj_X_of (fun r h => pj_R_icF rfl b8 h) ?_
        refine pj_X_of (fun r h => pj_R_to (G7, 67, [(3, .int y6), (0, .ref 27), (1, .ref 2), (2, .int dp)], [.ref 2], 0, 0) 67 2 (fun _ => rfl) h) ?_
        refine pj_X_ca (vs := [.ref 2]) rfl (fun _ => rfl) ⟨Nat.le_of_ble_eq_true rfl, Nat.le_of_ble_eq_true rfl, pj_T_rcv iG7 rfl⟩ ⟨rfl, rfl⟩ (pj_Y_up (by decide) (ct_81 G7 iG7)) ?_
        rintro _ G15 ⟨rfl, iG15, jG15, eG15⟩
        have kG15 : pj_kpt kc_64_1 G0 G15 := pj_kpt_t kG7 (pj_kpt_s jG15 rfl)
        show pj_X _ _ G15 70 [(3, .int y6), (0, .ref 27), (1, .ref 2), (2, .int dp)] [] _
        refine pj_X_of (fun r h => pj_R_to (G15, 88, [(3, .int y6), (0, .ref 27), (1, .ref 2), (2, .int dp)], [], 0, 0) 88 2 (fun _ => rfl) h) ?_
        exact pj_X_rt rfl rfl ⟨rfl, iG15, kG15⟩
    | false =>
      have ub5 := pj_u0_eqF b5
      refine pj_X_of (fun r h => pj_R_ifF rfl b5 h) ?_
      refine pj_X_of (fun r h => pj_R_to (G4, 39, [(0, .ref 27), (1, .ref 2), (2, .int dp)], [.int (dp + (Int32.ofInt 1)), .int (Int32.ofInt 0), .ref 2, .ref 27], 0, 0) 39 7 (fun _ => rfl) h) ?_
      obtain ⟨z16, hz16⟩ : ∃ z : Int32, z = dp + (Int32.ofInt 1) := ⟨_, rfl⟩
      rw [← hz16]
      have fz16_0 : z16.toInt = dp.toInt + (Int32.ofInt 1).toInt := by rw [hz16]; exact pj_addI (by have := pj_i32 dp; have := pj_i32 (Int32.ofInt 1); omega) (by have := pj_i32 dp; have := pj_i32 (Int32.ofInt 1); omega)
      refine pj_X_ca (vs := [.ref 27, .ref 2, .int (Int32.ofInt 0), .int z16]) rfl (fun _ => rfl) ⟨Nat.le_of_ble_eq_true rfl, Nat.le_of_ble_eq_true rfl, pj_T_rcv iG4 rfl⟩ ⟨rfl, rfl⟩ (pj_Y_up (by decide) (ct_62_0_2 G4 iG4 (Int32.ofInt 0) z16 ⟨by omega, by omega⟩ ⟨by omega, by omega⟩)) ?_
      rintro _ G18 ⟨rfl, iG18, jG18⟩
      have kG18 : pj_kpt kc_64_1 G0 G18 := pj_kpt_t kG4 (pj_kpt_s jG18 rfl)
      show pj_X _ _ G18 42 [(0, .ref 27), (1, .ref 2), (2, .int dp)] [] _
      refine pj_X_of (fun r h => pj_R_to (G18, 47, [(0, .ref 27), (1, .ref 2), (2, .int dp)], [.int ((Int8.ofInt 41).toInt32), .int ((Int8.ofInt 41).toInt32), .ref 2], 0, 0) 47 4 (fun _ => rfl) h) ?_
      refine pj_X_ca (vs := [.ref 2, .int ((Int8.ofInt 41).toInt32), .int ((Int8.ofInt 41).toInt32)]) rfl (fun _ => rfl) ⟨Nat.le_of_ble_eq_true rfl, Nat.le_of_ble_eq_true rfl, pj_T_rcv iG18 rfl⟩ ⟨rfl, rfl⟩ (pj_Y_up (by decide) (ct_83 G18 iG18 ((Int8.ofInt 41).toInt32) ((Int8.ofInt 41).toInt32) ⟨by omega, by omega⟩ ⟨by omega, by omega⟩)) ?_
      rintro _ G20 ⟨y19, rfl, iG20, jG20, ry19, ey19⟩
      have kG20 : pj_kpt kc_64_1 G0 G20 := pj_kpt_t kG18 (pj_kpt_s jG20 rfl)
      show pj_X _ _ G20 50 [(0, .ref 27), (1, .ref 2), (2, .int dp)] [.int y19] _
      refine pj_X_of (fun r h => pj_R_to (G20, 88, [(0, .ref 27), (1, .ref 2), (2, .int dp)], [], 0, 0) 88 3 (fun _ => rfl) h) ?_
      exact pj_X_rt rfl rfl ⟨rfl, iG20, kG20⟩
  | false =>
    have ub2 := pj_u0_eqF b2
    refine pj_X_of (fun r h => pj_R_ifF rfl b2 h) ?_
    refine pj_X_of (fun r h => pj_R_to (G0, 10, [(0, .ref 27), (1, .ref 2), (2, .int dp)], [.int (Int32.ofInt 3), .ref 2, .ref 27], 0, 0) 10 4 (fun _ => rfl) h) ?_
    refine pj_X_ca (vs := [.ref 2, .int (Int32.ofInt 3)]) rfl (fun _ => rfl) ⟨Nat.le_of_ble_eq_true rfl, Nat.le_of_ble_eq_true rfl, pj_T_rcv hI rfl⟩ ⟨rfl, rfl⟩ (pj_Y_up (by decide) (ct_86 G0 hI (Int32.ofInt 3) ⟨by omega, by omega⟩)) ?_
    rintro _ G22 ⟨y21, rfl, iG22, jG22, ry21⟩
    have kG22 : pj_kpt kc_64_1 G0 G22 := pj_kpt_t hK (pj_kpt_s jG22 rfl)
    show pj_X _ _ G22 13 [(0, .ref 27), (1, .ref 2), (2, .int dp)] [.int y21, .ref 27] _
    refine pj_X_ca (vs := [.ref 27, .int y21]) rfl (fun _ => rfl) ⟨Nat.le_of_ble_eq_true rfl, Nat.le_of_ble_eq_true rfl, pj_T_rcv iG22 rfl⟩ ⟨rfl, rfl⟩ (pj_Y_up (by decide) (ct_60 G22 iG22 y21 (by omega))) ?_
    rintro _ G24 ⟨rfl, iG24, jG24⟩
    have kG24 : pj_kpt kc_64_1 G0 G24 := pj_kpt_t kG22 (pj_kpt_s jG24 rfl)
    show pj_X _ _ G24 16 [(0, .ref 27), (1, .ref 2), (2, .int dp)] [] _
    refine pj_X_of (fun r h => pj_R_to (G24, 88, [(0, .ref 27), (1, .ref 2), (2, .int dp)], [], 0, 0) 88 2 (fun _ => rfl) h) ?_
    exact pj_X_rt rfl rfl ⟨rfl, iG24, kG24⟩
def kc_63_1 : pj_KT := ([(2, 3), (2, 4), (27, 3)], [2, 27, 28, 29], [28, 29])
theorem lp_ct_63_1 (G0 : pj_G) (hI0 : pj_Inv G0) (dp : Int32) (rdp : (1 : Int) ≤ dp.toInt ∧ dp.toInt ≤ 1) : ∀ mn : Nat, (∀ (G : pj_G) (hI : pj_Inv G) (hK : pj_kpt kc_63_1 G0 G) (v3 : Int32) (v4 : Int32), ((0 : Int) ≤ v3.toInt ∧ v3.toInt ≤ 1) → ((0 : Int) ≤ v4.toInt ∧ v4.toInt ≤ 40) → 40 - v4.toInt < (mn : Int) → pj_X 35 pj_m63 G 5 [(0, .ref 27), (1, .ref 2), (2, .int dp), (3, .int v3), (4, .int v4)] [] (fun v G' => v = none ∧ pj_Inv G' ∧ pj_kpt kc_63_1 G0 G')) := by
  have c0_ : ((Int16.ofInt 2000).toInt32).toInt = 2000 := by decide
  have c1_ : ((Int8.ofInt 40).toInt32).toInt = 40 := by decide
  have c2_ : ((Int8.ofInt 45).toInt32).toInt = 45 := by decide
  have c3_ : (Int32.ofInt 0).toInt = 0 := by decide
  have c4_ : (Int32.ofInt 1).toInt = 1 := by decide
  intro mn
  induction mn with
  | zero =>
    intro G hI hK v3 v4 rv3 rv4 hm
    exfalso
    omega
  | succ mn ih =>
    intro G hI hK v3 v4 rv3 rv4 hm
    refine pj_X_of (fun r h => pj_R_to (G, 9, [(0, .ref 27), (1, .ref 2), (2, .int dp), (3, .int v3), (4, .int v4)], [.int ((Int8.ofInt 40).toInt32), .int v4], 0, 0) 9 3 (fun _ => rfl) h) ?_
    cases b1 : pj_c1 .ge v4 ((Int8.ofInt 40).toInt32) with
    | true =>
      have ub1 := pj_u_geT b1
      refine pj_X_of (fun r h => pj_R_icT 37 rfl rfl b1 h) ?_
      refine pj_X_of (fun r h => pj_R_to (G, 40, [(0, .ref 27), (1, .ref 2), (2, .int dp), (3, .int v3), (4, .int v4)], [.int dp, .ref 2, .ref 27], 0, 0) 40 4 (fun _ => rfl) h) ?_
      refine pj_X_ca (vs := [.ref 27, .ref 2, .int dp]) rfl (fun _ => rfl) ⟨Nat.le_of_ble_eq_true rfl, Nat.le_of_ble_eq_true rfl, pj_T_rcv hI rfl⟩ ⟨rfl, rfl⟩ (pj_Y_up (by decide) (ct_64_1 G hI dp ⟨by omega, by omega⟩)) ?_
      rintro _ G3 ⟨rfl, iG3, jG3⟩
      have kG3 : pj_kpt kc_63_1 G0 G3 := pj_kpt_t hK (pj_kpt_s jG3 rfl)
      show pj_X _ _ G3 43 [(0, .ref 27), (1, .ref 2), (2, .int dp), (3, .int v3), (4, .int v4)] [] _
      refine pj_X_of (fun r h => pj_R_to (G3, 44, [(0, .ref 27), (1, .ref 2), (2, .int dp), (3, .int v3), (4, .int v4)], [.int v3], 0, 0) 44 2 (fun _ => rfl) h) ?_
      cases b4 : pj_c1 .eq v3 0 with
      | true =>
        have ub4 := pj_u0_eqT b4
        refine pj_X_of (fun r h => pj_R_ifT 54 rfl rfl b4 h) ?_
        exact pj_X_rt rfl rfl ⟨rfl, iG3, kG3⟩
      | false =>
        have ub4 := pj_u0_eqF b4
        refine pj_X_of (fun r h => pj_R_ifF rfl b4 h) ?_
        refine pj_X_of (fun r h => pj_R_to (G3, 51, [(0, .ref 27), (1, .ref 2), (2, .int dp), (3, .int v3), (4, .int v4)], [.int ((Int16.ofInt 2000).toInt32), .ref 27], 0, 0) 51 3 (fun _ => rfl) h) ?_
        refine pj_X_ca (vs := [.ref 27, .int ((Int16.ofInt 2000).toInt32)]) rfl (fun _ => rfl) ⟨Nat.le_of_ble_eq_true rfl, Nat.le_of_ble_eq_true rfl, pj_T_rcv iG3 rfl⟩ ⟨rfl, rfl⟩ (pj_Y_up (by decide) (ct_60 G3 iG3 ((Int16.ofInt 2000).toInt32) (by omega))) ?_
        rintro _ G6 ⟨rfl, iG6, jG6⟩
        have kG6 : pj_kpt kc_63_1 G0 G6 := pj_kpt_t kG3 (pj_kpt_s jG6 rfl)
        show pj_X _ _ G6 54 [(0, .ref 27), (1, .ref 2), (2, .int dp), (3, .int v3), (4, .int v4)] [] _
        exact pj_X_rt rfl rfl ⟨rfl, iG6, kG6⟩
    | false =>
      have ub1 := pj_u_geF b1
      refine pj_X_of (fun r h => pj_R_icF rfl b1 h) ?_
      refine pj_X_of (fun r h => pj_R_to (G, 15, [(0, .ref 27), (1, .ref 2), (2, .int dp), (3, .int v3), (4, .int v4)], [.int ((Int8.ofInt 45).toInt32), .ref 2], 0, 0) 15 3 (fun _ => rfl) h) ?_
      refine pj_X_ca (vs := [.ref 2, .int ((Int8.ofInt 45).toInt32)]) rfl (fun _ => rfl) ⟨Nat.le_of_ble_eq_true rfl, Nat.le_of_ble_eq_true rfl, pj_T_rcv hI rfl⟩ ⟨rfl, rfl⟩ (pj_Y_up (by decide) (ct_82 G hI ((Int8.ofInt 45).toInt32) ⟨by omega, by omega⟩)) ?_
      rintro _ G8 ⟨y7, rfl, iG8, jG8, ry7⟩
      have kG8 : pj_kpt kc_63_1 G0 G8 := pj_kpt_t hK (pj_kpt_s jG8 rfl)
      show pj_X _ _ G8 18 [(0, .ref 27), (1, .ref 2), (2, .int dp), (3, .int v3), (4, .int v4)] [.int y7] _
      cases b9 : pj_c1 .eq y7 0 with
      | true =>
        have ub9 := pj_u0_eqT b9
        refine pj_X_of (fun r h => pj_R_ifT 37 rfl rfl b9 h) ?_
        refine pj_X_of (fun r h => pj_R_to (G8, 40, [(0, .ref 27), (1, .ref 2), (2, .int dp), (3, .int v3), (4, .int v4)], [.int dp, .ref 2, .ref 27], 0, 0) 40 4 (fun _ => rfl) h) ?_
        refine pj_X_ca (vs := [.ref 27, .ref 2, .int dp]) rfl (fun _ => rfl) ⟨Nat.le_of_ble_eq_true rfl, Nat.le_of_ble_eq_true rfl, pj_T_rcv iG8 rfl⟩ ⟨rfl, rfl⟩ (pj_Y_up (by decide) (ct_64_1 G8 iG8 dp ⟨by omega, by omega⟩)) ?_
        rintro _ G11 ⟨rfl, iG11, jG11⟩
        have kG11 : pj_kpt kc_63_1 G0 G11 := pj_kpt_t kG8 (pj_kpt_s jG11 rfl)
        show pj_X _ _ G11 43 [(0, .ref 27), (1, .ref 2), (2, .int dp), (3, .int v3), (4, .int v4)] [] _
        refine pj_X_of (fun r h => pj_R_to (G11, 44, [(0, .ref 27), (1, .ref 2), (2, .int dp), (3, .int v3), (4, .int v4)], [.int v3], 0, 0) 44 2 (fun _ => rfl) h) ?_
        cases b12 : pj_c1 .eq v3 0 with
        | true =>
          have ub12 := pj_u0_eqT b12
          refine pj_X_of (fun r h => pj_R_ifT 54 rfl rfl b12 h) ?_
          exact pj_X_rt rfl rfl ⟨rfl, iG11, kG11⟩
        | false =>
          have ub12 := pj_u0_eqF b12
          refine pj_X_of (fun r h => pj_R_ifF rfl b12 h) ?_
          refine pj_X_of (fun r h => pj_R_to (G11, 51, [(0, .ref 27), (1, .ref 2), (2, .int dp), (3, .int v3), (4, .int v4)], [.int ((Int16.ofInt 2000).toInt32), .ref 27], 0, 0) 51 3 (fun _ => rfl) h) ?_
          refine pj_X_ca (vs := [.ref 27, .int ((Int16.ofInt 2000).toInt32)]) rfl (fun _ => rfl) ⟨Nat.le_of_ble_eq_true rfl, Nat.le_of_ble_eq_true rfl, pj_T_rcv iG11 rfl⟩ ⟨rfl, rfl⟩ (pj_Y_up (by decide) (ct_60 G11 iG11 ((Int16.ofInt 2000).toInt32) (by omega))) ?_
          rintro _ G14 ⟨rfl, iG14, jG14⟩
          have kG14 : pj_kpt kc_63_1 G0 G14 := pj_kpt_t kG11 (pj_kpt_s jG14 rfl)
          show pj_X _ _ G14 54 [(0, .ref 27), (1, .ref 2), (2, .int dp), (3, .int v3), (4, .int v4)] [] _
          exact pj_X_rt rfl rfl ⟨rfl, iG14, kG14⟩
      | false =>
        have ub9 := pj_u0_eqF b9
        refine pj_X_of (fun r h => pj_R_ifF rfl b9 h) ?_
        refine pj_X_of (fun r h => pj_R_to (G8, 22, [(0, .ref 27), (1, .ref 2), (2, .int dp), (3, .int v3), (4, .int v4)], [.int v3], 0, 0) 22 2 (fun _ => rfl) h) ?_
        cases b15 : pj_c1 .ne v3 0 with
        | true =>
          have ub15 := pj_u0_neT b15
          refine pj_X_of (fun r h => pj_R_ifT 29 rfl rfl b15 h) ?_
          refine pj_X_of (fun r h => pj_R_to (G8, 34, [(4, .int (v4 + Int32.ofInt 1)), (3, .int (Int32.ofInt 0)), (0, .ref 27), (1, .ref 2), (2, .int dp)], [], 0, 0) 34 4 (fun _ => rfl) h) ?_
          obtain ⟨z16, hz16⟩ : ∃ z : Int32, z = v4 + Int32.ofInt 1 := ⟨_, rfl⟩
          rw [← hz16]
          have fz16_0 : z16.toInt = v4.toInt + (Int32.ofInt 1).toInt := by rw [hz16]; exact pj_addI (by have := pj_i32 v4; have := pj_i32 (Int32.ofInt 1); omega) (by have := pj_i32 v4; have := pj_i32 (Int32.ofInt 1); omega)
          refine pj_X_of (fun r h => pj_R_to (G8, 5, [(4, .int z16), (3, .int (Int32.ofInt 0)), (0, .ref 27), (1, .ref 2), (2, .int dp)], [], 0, 0) 5 2 (fun _ => rfl) h) ?_
          exact pj_X_sub [(0, .ref 27), (1, .ref 2), (2, .int dp), (3, .int (Int32.ofInt 0)), (4, .int z16)] (show List.Nodup [0, 1, 2, 3, 4] by decide) ⟨rfl, rfl, rfl, rfl, rfl, trivial⟩ (ih G8 iG8 kG8 (Int32.ofInt 0) z16 ⟨by omega, by omega⟩ ⟨by omega, by omega⟩ (by omega))
        | false =>
          have ub15 := pj_u0_neF b15
          refine pj_X_of (fun r h => pj_R_ifF rfl b15 h) ?_
          refine pj_X_of (fun r h => pj_R_to (G8, 34, [(4, .int (v4 + Int32.ofInt 1)), (3, .int (Int32.ofInt 1)), (0, .ref 27), (1, .ref 2), (2, .int dp)], [], 0, 0) 34 5 (fun _ => rfl) h) ?_
          obtain ⟨z17, hz17⟩ : ∃ z : Int32, z = v4 + Int32.ofInt 1 := ⟨_, rfl⟩
          rw [← hz17]
          have fz17_0 : z17.toInt = v4.toInt + (Int32.ofInt 1).toInt := by rw [hz17]; exact pj_addI (by have := pj_i32 v4; have := pj_i32 (Int32.ofInt 1); omega) (by have := pj_i32 v4; have := pj_i32 (Int32.ofInt 1); omega)
          refine pj_X_of (fun r h => pj_R_to (G8, 5, [(4, .int z17), (3, .int (Int32.ofInt 1)), (0, .ref 27), (1, .ref 2), (2, .int dp)], [], 0, 0) 5 2 (fun _ => rfl) h) ?_
          exact pj_X_sub [(0, .ref 27), (1, .ref 2), (2, .int dp), (3, .int (Int32.ofInt 1)), (4, .int z17)] (show List.Nodup [0, 1, 2, 3, 4] by decide) ⟨rfl, rfl, rfl, rfl, rfl, trivial⟩ (ih G8 iG8 kG8 (Int32.ofInt 1) z17 ⟨by omega, by omega⟩ ⟨by omega, by omega⟩ (by omega))
theorem ct_63_1 (G0 : pj_G) (hI : pj_Inv G0) (dp : Int32) (rdp : (1 : Int) ≤ dp.toInt ∧ dp.toInt ≤ 1) : pj_Y 36 63 [.ref 27, .ref 2, .int dp] G0 (fun v G' => v = none ∧ pj_Inv G' ∧ pj_kpt kc_63_1 G0 G') := by
  have c0_ : ((Int16.ofInt 2000).toInt32).toInt = 2000 := by decide
  have c1_ : ((Int8.ofInt 40).toInt32).toInt = 40 := by decide
  have c2_ : ((Int8.ofInt 45).toInt32).toInt = 45 := by decide
  have c3_ : (Int32.ofInt 0).toInt = 0 := by decide
  have c4_ : (Int32.ofInt 1).toInt = 1 := by decide
  refine pj_Y_X (M := pj_m63) rfl rfl (Nat.le_of_ble_eq_true rfl) ?_
  have hK : pj_kpt kc_63_1 G0 G0 := pj_kpt_r _ _
  show pj_X _ _ G0 0 [(0, .ref 27), (1, .ref 2), (2, .int dp)] [] _
  refine pj_X_of (fun r h => pj_R_to (G0, 5, [(4, .int (Int32.ofInt 0)), (3, .int (Int32.ofInt 0)), (0, .ref 27), (1, .ref 2), (2, .int dp)], [], 0, 0) 5 5 (fun _ => rfl) h) ?_
  exact pj_X_sub [(0, .ref 27), (1, .ref 2), (2, .int dp), (3, .int (Int32.ofInt 0)), (4, .int (Int32.ofInt 0))] (show List.Nodup [0, 1, 2, 3, 4] by decide) ⟨rfl, rfl, rfl, rfl, rfl, trivial⟩ ((lp_ct_63_1 G0 hI dp rdp 41) G0 hI hK (Int32.ofInt 0) (Int32.ofInt 0) ⟨by omega, by omega⟩ ⟨by omega, by omega⟩ (by omega))
def kc_62_3_1 : pj_KT := ([(2, 3), (2, 4), (27, 3)], [2, 27, 28, 29], [28, 29])
theorem ct_62_3_1 (G0 : pj_G) (hI : pj_Inv G0) (lv : Int32) (dp : Int32) (rlv : (3 : Int) ≤ lv.toInt ∧ lv.toInt ≤ 3) (rdp : (1 : Int) ≤ dp.toInt ∧ dp.toInt ≤ 1) : pj_Y 37 62 [.ref 27, .ref 2, .int lv, .int dp] G0 (fun v G' => v = none ∧ pj_Inv G' ∧ pj_kpt kc_62_3_1 G0 G') := by
  have c0_ : (Int32.ofInt 2).toInt = 2 := by decide
  refine pj_Y_X (M := pj_m62) rfl rfl (Nat.le_of_ble_eq_true rfl) ?_
  have hK : pj_kpt kc_62_3_1 G0 G0 := pj_kpt_r _ _
  show pj_X _ _ G0 0 [(0, .ref 27), (1, .ref 2), (2, .int lv), (3, .int dp)] [] _
  refine pj_X_of (fun r h => pj_R_to (G0, 2, [(0, .ref 27), (1, .ref 2), (2, .int lv), (3, .int dp)], [.int (Int32.ofInt 2), .int lv], 0, 0) 2 3 (fun _ => rfl) h) ?_
  refine pj_X_of (fun r h => pj_R_icF rfl (pj_b_leF (by omega)) h) ?_
  refine pj_X_of (fun r h => pj_R_to (G0, 8, [(0, .ref 27), (1, .ref 2), (2, .int lv), (3, .int dp)], [.int dp, .ref 2, .ref 27], 0, 0) 8 4 (fun _ => rfl) h) ?_
  refine pj_X_ca (vs := [.ref 27, .ref 2, .int dp]) rfl (fun _ => rfl) ⟨Nat.le_of_ble_eq_true rfl, Nat.le_of_ble_eq_true rfl, pj_T_rcv hI rfl⟩ ⟨rfl, rfl⟩ (pj_Y_up (by decide) (ct_63_1 G0 hI dp ⟨by omega, by omega⟩)) ?_
  rintro _ G2 ⟨rfl, iG2, jG2⟩
  have kG2 : pj_kpt kc_62_3_1 G0 G2 := pj_kpt_t hK (pj_kpt_s jG2 rfl)
  show pj_X _ _ G2 11 [(0, .ref 27), (1, .ref 2), (2, .int lv), (3, .int dp)] [] _
  exact pj_X_rt rfl rfl ⟨rfl, iG2, kG2⟩
def kc_62_2_1 : pj_KT := ([(2, 3), (2, 4), (27, 3)], [2, 27, 28, 29], [28, 29])
theorem lp_ct_62_2_1 (G0 : pj_G) (hI0 : pj_Inv G0) (lv : Int32) (dp : Int32) (rlv : (2 : Int) ≤ lv.toInt ∧ lv.toInt ≤ 2) (rdp : (1 : Int) ≤ dp.toInt ∧ dp.toInt ≤ 1) : ∀ mn : Nat, (∀ (G : pj_G) (hI : pj_Inv G) (hK : pj_kpt kc_62_2_1 G0 G) (v4 : Int32) (v5 : Int32), ((1 : Int) ≤ v4.toInt ∧ v4.toInt ≤ 40) → ((0 : Int) ≤ v5.toInt ∧ v5.toInt ≤ 40) → 40 - v5.toInt < (mn : Int) → pj_X 37 pj_m62 G 36 [(0, .ref 27), (1, .ref 2), (2, .int lv), (3, .int dp), (4, .int v4), (5, .int v5)] [] (fun v G' => v = none ∧ pj_Inv G' ∧ pj_kpt kc_62_2_1 G0 G')) := by
  have c0_ : ((Int16.ofInt 3000).toInt32).toInt = 3000 := by decide
  have c1_ : ((Int8.ofInt 40).toInt32).toInt = 40 := by decide
  have c2_ : (Int32.ofInt (-1)).toInt = -1 := by decide
  have c3_ : (Int32.ofInt 0).toInt = 0 := by decide
  have c4_ : (Int32.ofInt 1).toInt = 1 := by decide
  have c5_ : (Int32.ofInt 2).toInt = 2 := by decide
  intro mn
  induction mn with
  | zero =>
    intro G hI hK v4 v5 rv4 rv5 hm
    exfalso
    omega
  | succ mn ih =>
    intro G hI hK v4 v5 rv4 rv5 hm
    refine pj_X_of (fun r h => pj_R_to (G, 40, [(0, .ref 27), (1, .ref 2), (2, .int lv), (3, .int dp), (4, .int v4), (5, .int v5)], [.int v4, .int v5], 0, 0) 40 3 (fun _ => rfl) h) ?_
    cases b1 : pj_c1 .ge v5 v4 with
    | true =>
      have ub1 := pj_u_geT b1
      refine pj_X_of (fun r h => pj_R_icT 85 rfl rfl b1 h) ?_
      exact pj_X_rt rfl rfl ⟨rfl, hI, hK⟩
    | false =>
      have ub1 := pj_u_geF b1
      refine pj_X_of (fun r h => pj_R_icF rfl b1 h) ?_
      refine pj_X_of (fun r h => pj_R_to (G, 45, [(0, .ref 27), (1, .ref 2), (2, .int lv), (3, .int dp), (4, .int v4), (5, .int v5)], [.int lv, .ref 2], 0, 0) 45 3 (fun _ => rfl) h) ?_
      refine pj_X_ca (vs := [.int lv]) rfl (fun _ => rfl) ⟨Nat.le_of_ble_eq_true rfl, Nat.le_of_ble_eq_true rfl, rfl⟩ ⟨rfl, rfl⟩ (pj_Y_up (by decide) (ct_61_2 G hI lv ⟨by omega, by omega⟩)) ?_
      rintro _ _ ⟨rfl, rfl⟩
      show pj_X _ _ G 48 [(0, .ref 27), (1, .ref 2), (2, .int lv), (3, .int dp), (4, .int v4), (5, .int v5)] [.retAddr 7, .ref 2] _
      refine pj_X_ca (vs := [.ref 2, .retAddr 7]) rfl (fun _ => rfl) ⟨Nat.le_of_ble_eq_true rfl, Nat.le_of_ble_eq_true rfl, pj_T_rcv hI rfl⟩ ⟨rfl, rfl⟩ (pj_Y_up (by decide) (ct_84_s7 G hI)) ?_
      rintro _ G4 ⟨y3, rfl, iG4, jG4, ry3⟩
      have kG4 : pj_kpt kc_62_2_1 G0 G4 := pj_kpt_t hK (pj_kpt_s jG4 rfl)
      show pj_X _ _ G4 51 [(0, .ref 27), (1, .ref 2), (2, .int lv), (3, .int dp), (4, .int v4), (5, .int v5)] [.int y3] _
      refine pj_X_of (fun r h => pj_R_to (G4, 56, [(6, .int y3), (0, .ref 27), (1, .ref 2), (2, .int lv), (3, .int dp), (4, .int v4), (5, .int v5)], [.int (Int32.ofInt (-1)), .int y3], 0, 0) 56 4 (fun _ => rfl) h) ?_
      cases b5 : pj_c1 .ne y3 (Int32.ofInt (-1)) with
      | true =>
        have ub5 := pj_u_neT b5
        refine pj_X_of (fun r h => pj_R_icT 60 rfl rfl b5 h) ?_
        refine pj_X_of (fun r h => pj_R_to (G4, 65, [(6, .int y3), (0, .ref 27), (1, .ref 2), (2, .int lv), (3, .int dp), (4, .int v4), (5, .int v5)], [.int (lv + (Int32.ofInt 1)), .ref 2, .ref 27], 0, 0) 65 6 (fun _ => rfl) h) ?_
        obtain ⟨z6, hz6⟩ : ∃ z : Int32, z = lv + (Int32.ofInt 1) := ⟨_, rfl⟩
        rw [← hz6]
        have fz6_0 : z6.toInt = lv.toInt + (Int32.ofInt 1).toInt := by rw [hz6]; exact pj_addI (by have := pj_i32 lv; have := pj_i32 (Int32.ofInt 1); omega) (by have := pj_i32 lv; have := pj_i32 (Int32.ofInt 1); omega)
        refine pj_X_of (fun r h => pj_R_to (G4, 66, [(6, .int y3), (0, .ref 27), (1, .ref 2), (2, .int lv), (3, .int dp), (4, .int v4), (5, .int v5)], [.int dp, .int z6, .ref 2, .ref 27], 0, 0) 66 2 (fun _ => rfl) h) ?_
        refine pj_X_ca (vs := [.ref 27, .ref 2, .int z6, .int dp]) rfl (fun _ => rfl) ⟨Nat.le_of_ble_eq_true rfl, Nat.le_of_ble_eq_true rfl, pj_T_rcv iG4 rfl⟩ ⟨rfl, rfl⟩ (pj_Y_up (by decide) (ct_62_3_1 G4 iG4 z6 dp ⟨by omega, by omega⟩ ⟨by omega, by omega⟩)) ?_
        rintro _ G8 ⟨rfl, iG8, jG8⟩
        have kG8 : pj_kpt kc_62_2_1 G0 G8 := pj_kpt_t kG4 (pj_kpt_s jG8 rfl)
        show pj_X _ _ G8 69 [(6, .int y3), (0, .ref 27), (1, .ref 2), (2, .int lv), (3, .int dp), (4, .int v4), (5, .int v5)] [] _
        refine pj_X_of (fun r h => pj_R_to (G8, 76, [(6, .int y3), (0, .ref 27), (1, .ref 2), (2, .int lv), (3, .int dp), (4, .int v4), (5, .int v5)], [.int (((Int16.ofInt 3000).toInt32) + y3), .ref 27], 0, 0) 76 5 (fun _ => rfl) h) ?_
        obtain ⟨z9, hz9⟩ : ∃ z : Int32, z = ((Int16.ofInt 3000).toInt32) + y3 := ⟨_, rfl⟩
        rw [← hz9]
        have fz9_0 : z9.toInt = ((Int16.ofInt 3000).toInt32).toInt + y3.toInt := by rw [hz9]; exact pj_addI (by have := pj_i32 ((Int16.ofInt 3000).toInt32); have := pj_i32 y3; omega) (by have := pj_i32 ((Int16.ofInt 3000).toInt32); have := pj_i32 y3; omega)
        refine pj_X_ca (vs := [.ref 27, .int z9]) rfl (fun _ => rfl) ⟨Nat.le_of_ble_eq_true rfl, Nat.le_of_ble_eq_true rfl, pj_T_rcv iG8 rfl⟩ ⟨rfl, rfl⟩ (pj_Y_up (by decide) (ct_60 G8 iG8 z9 (by omega))) ?_
        rintro _ G11 ⟨rfl, iG11, jG11⟩
        have kG11 : pj_kpt kc_62_2_1 G0 G11 := pj_kpt_t kG8 (pj_kpt_s jG11 rfl)
        show pj_X _ _ G11 79 [(6, .int y3), (0, .ref 27), (1, .ref 2), (2, .int lv), (3, .int dp), (4, .int v4), (5, .int v5)] [] _
        refine pj_X_of (fun r h => pj_R_to (G11, 82, [(5, .int (v5 + Int32.ofInt 1)), (6, .int y3), (0, .ref 27), (1, .ref 2), (2, .int lv), (3, .int dp), (4, .int v4)], [], 0, 0) 82 2 (fun _ => rfl) h) ?_
        obtain ⟨z12, hz12⟩ : ∃ z : Int32, z = v5 + Int32.ofInt 1 := ⟨_, rfl⟩
        rw [← hz12]
        have fz12_0 : z12.toInt = v5.toInt + (Int32.ofInt 1).toInt := by rw [hz12]; exact pj_addI (by have := pj_i32 v5; have := pj_i32 (Int32.ofInt 1); omega) (by have := pj_i32 v5; have := pj_i32 (Int32.ofInt 1); omega)
        refine pj_X_of (fun r h => pj_R_to (G11, 36, [(5, .int z12), (6, .int y3), (0, .ref 27), (1, .ref 2), (2, .int lv), (3, .int dp), (4, .int v4)], [], 0, 0) 36 2 (fun _ => rfl) h) ?_
        exact pj_X_sub [(0, .ref 27), (1, .ref 2), (2, .int lv), (3, .int dp), (4, .int v4), (5, .int z12)] (show List.Nodup [0, 1, 2, 3, 4, 5] by decide) ⟨rfl, rfl, rfl, rfl, rfl, rfl, trivial⟩ (ih G11 iG11 kG11 v4 z12 ⟨by omega, by omega⟩ ⟨by omega, by omega⟩ (by omega))
      | false =>
        have ub5 := pj_u_neF b5
        refine pj_X_of (fun r h => pj_R_icF rfl b5 h) ?_
        exact pj_X_rt rfl rfl ⟨rfl, iG4, kG4⟩
theorem ct_62_2_1 (G0 : pj_G) (hI : pj_Inv G0) (lv : Int32) (dp : Int32) (rlv : (2 : Int) ≤ lv.toInt ∧ lv.toInt ≤ 2) (rdp : (1 : Int) ≤ dp.toInt ∧ dp.toInt ≤ 1) : pj_Y 38 62 [.ref 27, .ref 2, .int lv, .int dp] G0 (fun v G' => v = none ∧ pj_Inv G' ∧ pj_kpt kc_62_2_1 G0 G') := by
  have c0_ : ((Int16.ofInt 3000).toInt32).toInt = 3000 := by decide
  have c1_ : ((Int8.ofInt 40).toInt32).toInt = 40 := by decide
  have c2_ : (Int32.ofInt (-1)).toInt = -1 := by decide
  have c3_ : (Int32.ofInt 0).toInt = 0 := by decide
  have c4_ : (Int32.ofInt 1).toInt = 1 := by decide
  have c5_ : (Int32.ofInt 2).toInt = 2 := by decide
  refine pj_Y_X (M := pj_m62) rfl rfl (Nat.le_of_ble_eq_true rfl) ?_
  have hK : pj_kpt kc_62_2_1 G0 G0 := pj_kpt_r _ _
  show pj_X _ _ G0 0 [(0, .ref 27), (1, .ref 2), (2, .int lv), (3, .int dp)] [] _
  refine pj_X_of (fun r h => pj_R_to (G0, 2, [(0, .ref 27), (1, .ref 2), (2, .int lv), (3, .int dp)], [.int (Int32.ofInt 2), .int lv], 0, 0) 2 3 (fun _ => rfl) h) ?_
  refine pj_X_of (fun r h => pj_R_icT 12 rfl rfl (pj_b_leT (by omega)) h) ?_
  refine pj_X_of (fun r h => pj_R_to (G0, 17, [(0, .ref 27), (1, .ref 2), (2, .int lv), (3, .int dp)], [.int (lv + (Int32.ofInt 1)), .ref 2, .ref 27], 0, 0) 17 6 (fun _ => rfl) h) ?_
  obtain ⟨z13, hz13⟩ : ∃ z : Int32, z = lv + (Int32.ofInt 1) := ⟨_, rfl⟩
  rw [← hz13]
  have fz13_0 : z13.toInt = lv.toInt + (Int32.ofInt 1).toInt := by rw [hz13]; exact pj_addI (by have := pj_i32 lv; have := pj_i32 (Int32.ofInt 1); omega) (by have := pj_i32 lv; have := pj_i32 (Int32.ofInt 1); omega)
  refine pj_X_of (fun r h => pj_R_to (G0, 18, [(0, .ref 27), (1, .ref 2), (2, .int lv), (3, .int dp)], [.int dp, .int z13, .ref 2, .ref 27], 0, 0) 18 2 (fun _ => rfl) h) ?_
  refine pj_X_ca (vs := [.ref 27, .ref 2, .int z13, .int dp]) rfl (fun _ => rfl) ⟨Nat.le_of_ble_eq_true rfl, Nat.le_of_ble_eq_true rfl, pj_T_rcv hI rfl⟩ ⟨rfl, rfl⟩ (pj_Y_up (by decide) (ct_62_3_1 G0 hI z13 dp ⟨by omega, by omega⟩ ⟨by omega, by omega⟩)) ?_
  rintro _ G15 ⟨rfl, iG15, jG15⟩
  have kG15 : pj_kpt kc_62_2_1 G0 G15 := pj_kpt_t hK (pj_kpt_s jG15 rfl)
  show pj_X _ _ G15 21 [(0, .ref 27), (1, .ref 2), (2, .int lv), (3, .int dp)] [] _
  refine pj_X_of (fun r h => pj_R_to (G15, 22, [(0, .ref 27), (1, .ref 2), (2, .int lv), (3, .int dp)], [.int lv], 0, 0) 22 2 (fun _ => rfl) h) ?_
  refine pj_X_of (fun r h => pj_R_ifT 29 rfl rfl (pj_b0_neT (by omega)) h) ?_
  refine pj_X_of (fun r h => pj_R_to (G15, 36, [(5, .int (Int32.ofInt 0)), (4, .int ((Int8.ofInt 40).toInt32)), (0, .ref 27), (1, .ref 2), (2, .int lv), (3, .int dp)], [], 0, 0) 36 5 (fun _ => rfl) h) ?_
  exact pj_X_sub [(0, .ref 27), (1, .ref 2), (2, .int lv), (3, .int dp), (4, .int ((Int8.ofInt 40).toInt32)), (5, .int (Int32.ofInt 0))] (show List.Nodup [0, 1, 2, 3, 4, 5] by decide) ⟨rfl, rfl, rfl, rfl, rfl, rfl, trivial⟩ ((lp_ct_62_2_1 G0 hI lv dp rlv rdp 41) G15 iG15 kG15 ((Int8.ofInt 40).toInt32) (Int32.ofInt 0) ⟨by omega, by omega⟩ ⟨by omega, by omega⟩ (by omega))
def kc_62_1_1 : pj_KT := ([(2, 3), (2, 4), (27, 3)], [2, 27, 28, 29], [28, 29])
theorem lp_ct_62_1_1 (G0 : pj_G) (hI0 : pj_Inv G0) (lv : Int32) (dp : Int32) (rlv : (1 : Int) ≤ lv.toInt ∧ lv.toInt ≤ 1) (rdp : (1 : Int) ≤ dp.toInt ∧ dp.toInt ≤ 1) : ∀ mn : Nat, (∀ (G : pj_G) (hI : pj_Inv G) (hK : pj_kpt kc_62_1_1 G0 G) (v4 : Int32) (v5 : Int32), ((1 : Int) ≤ v4.toInt ∧ v4.toInt ≤ 40) → ((0 : Int) ≤ v5.toInt ∧ v5.toInt ≤ 40) → 40 - v5.toInt < (mn : Int) → pj_X 38 pj_m62 G 36 [(0, .ref 27), (1, .ref 2), (2, .int lv), (3, .int dp), (4, .int v4), (5, .int v5)] [] (fun v G' => v = none ∧ pj_Inv G' ∧ pj_kpt kc_62_1_1 G0 G')) := by
  have c0_ : ((Int16.ofInt 3000).toInt32).toInt = 3000 := by decide
  have c1_ : ((Int8.ofInt 40).toInt32).toInt = 40 := by decide
  have c2_ : (Int32.ofInt (-1)).toInt = -1 := by decide
  have c3_ : (Int32.ofInt 0).toInt = 0 := by decide
  have c4_ : (Int32.ofInt 1).toInt = 1 := by decide
  have c5_ : (Int32.ofInt 2).toInt = 2 := by decide
  intro mn
  induction mn with
  | zero =>
    intro G hI hK v4 v5 rv4 rv5 hm
    exfalso
    omega
  | succ mn ih =>
    intro G hI hK v4 v5 rv4 rv5 hm
    refine pj_X_of (fun r h => pj_R_to (G, 40, [(0, .ref 27), (1, .ref 2), (2, .int lv), (3, .int dp), (4, .int v4), (5, .int v5)], [.int v4, .int v5], 0, 0) 40 3 (fun _ => rfl) h) ?_
    cases b1 : pj_c1 .ge v5 v4 with
    | true =>
      have ub1 := pj_u_geT b1
      refine pj_X_of (fun r h => pj_R_icT 85 rfl rfl b1 h) ?_
      exact pj_X_rt rfl rfl ⟨rfl, hI, hK⟩
    | false =>
      have ub1 := pj_u_geF b1
      refine pj_X_of (fun r h => pj_R_icF rfl b1 h) ?_
      refine pj_X_of (fun r h => pj_R_to (G, 45, [(0, .ref 27), (1, .ref 2), (2, .int lv), (3, .int dp), (4, .int v4), (5, .int v5)], [.int lv, .ref 2], 0, 0) 45 3 (fun _ => rfl) h) ?_
      refine pj_X_ca (vs := [.int lv]) rfl (fun _ => rfl) ⟨Nat.le_of_ble_eq_true rfl, Nat.le_of_ble_eq_true rfl, rfl⟩ ⟨rfl, rfl⟩ (pj_Y_up (by decide) (ct_61_1 G hI lv ⟨by omega, by omega⟩)) ?_
      rintro _ _ ⟨rfl, rfl⟩
      show pj_X _ _ G 48 [(0, .ref 27), (1, .ref 2), (2, .int lv), (3, .int dp), (4, .int v4), (5, .int v5)] [.retAddr 6, .ref 2] _
      refine pj_X_ca (vs := [.ref 2, .retAddr 6]) rfl (fun _ => rfl) ⟨Nat.le_of_ble_eq_true rfl, Nat.le_of_ble_eq_true rfl, pj_T_rcv hI rfl⟩ ⟨rfl, rfl⟩ (pj_Y_up (by decide) (ct_84_s6 G hI)) ?_
      rintro _ G4 ⟨y3, rfl, iG4, jG4, ry3⟩
      have kG4 : pj_kpt kc_62_1_1 G0 G4 := pj_kpt_t hK (pj_kpt_s jG4 rfl)
      show pj_X _ _ G4 51 [(0, .ref 27), (1, .ref 2), (2, .int lv), (3, .int dp), (4, .int v4), (5, .int v5)] [.int y3] _
      refine pj_X_of (fun r h => pj_R_to (G4, 56, [(6, .int y3), (0, .ref 27), (1, .ref 2), (2, .int lv), (3, .int dp), (4, .int v4), (5, .int v5)], [.int (Int32.ofInt (-1)), .int y3], 0, 0) 56 4 (fun _ => rfl) h) ?_
      cases b5 : pj_c1 .ne y3 (Int32.ofInt (-1)) with
      | true =>
        have ub5 := pj_u_neT b5
        refine pj_X_of (fun r h => pj_R_icT 60 rfl rfl b5 h) ?_
        refine pj_X_of (fun r h => pj_R_to (G4, 65, [(6, .int y3), (0, .ref 27), (1, .ref 2), (2, .int lv), (3, .int dp), (4, .int v4), (5, .int v5)], [.int (lv + (Int32.ofInt 1)), .ref 2, .ref 27], 0, 0) 65 6 (fun _ => rfl) h) ?_
        obtain ⟨z6, hz6⟩ : ∃ z : Int32, z = lv + (Int32.ofInt 1) := ⟨_, rfl⟩
        rw [← hz6]
        have fz6_0 : z6.toInt = lv.toInt + (Int32.ofInt 1).toInt := by rw [hz6]; exact pj_addI (by have := pj_i32 lv; have := pj_i32 (Int32.ofInt 1); omega) (by have := pj_i32 lv; have := pj_i32 (Int32.ofInt 1); omega)
        refine pj_X_of (fun r h => pj_R_to (G4, 66, [(6, .int y3), (0, .ref 27), (1, .ref 2), (2, .int lv), (3, .int dp), (4, .int v4), (5, .int v5)], [.int dp, .int z6, .ref 2, .ref 27], 0, 0) 66 2 (fun _ => rfl) h) ?_
        refine pj_X_ca (vs := [.ref 27, .ref 2, .int z6, .int dp]) rfl (fun _ => rfl) ⟨Nat.le_of_ble_eq_true rfl, Nat.le_of_ble_eq_true rfl, pj_T_rcv iG4 rfl⟩ ⟨rfl, rfl⟩ (pj_Y_up (by decide) (ct_62_2_1 G4 iG4 z6 dp ⟨by omega, by omega⟩ ⟨by omega, by omega⟩)) ?_
        rintro _ G8 ⟨rfl, iG8, jG8⟩
        have kG8 : pj_kpt kc_62_1_1 G0 G8 := pj_kpt_t kG4 (pj_kpt_s jG8 rfl)
        show pj_X _ _ G8 69 [(6, .int y3), (0, .ref 27), (1, .ref 2), (2, .int lv), (3, .int dp), (4, .int v4), (5, .int v5)] [] _
        refine pj_X_of (fun r h => pj_R_to (G8, 76, [(6, .int y3), (0, .ref 27), (1, .ref 2), (2, .int lv), (3, .int dp), (4, .int v4), (5, .int v5)], [.int (((Int16.ofInt 3000).toInt32) + y3), .ref 27], 0, 0) 76 5 (fun _ => rfl) h) ?_
        obtain ⟨z9, hz9⟩ : ∃ z : Int32, z = ((Int16.ofInt 3000).toInt32) + y3 := ⟨_, rfl⟩
        rw [← hz9]
        have fz9_0 : z9.toInt = ((Int16.ofInt 3000).toInt32).toInt + y3.toInt := by rw [hz9]; exact pj_addI (by have := pj_i32 ((Int16.ofInt 3000).toInt32); have := pj_i32 y3; omega) (by have := pj_i32 ((Int16.ofInt 3000).toInt32); have := pj_i32 y3; omega)
        refine pj_X_ca (vs := [.ref 27, .int z9]) rfl (fun _ => rfl) ⟨Nat.le_of_ble_eq_true rfl, Nat.le_of_ble_eq_true rfl, pj_T_rcv iG8 rfl⟩ ⟨rfl, rfl⟩ (pj_Y_up (by decide) (ct_60 G8 iG8 z9 (by omega))) ?_
        rintro _ G11 ⟨rfl, iG11, jG11⟩
        have kG11 : pj_kpt kc_62_1_1 G0 G11 := pj_kpt_t kG8 (pj_kpt_s jG11 rfl)
        show pj_X _ _ G11 79 [(6, .int y3), (0, .ref 27), (1, .ref 2), (2, .int lv), (3, .int dp), (4, .int v4), (5, .int v5)] [] _
        refine pj_X_of (fun r h => pj_R_to (G11, 82, [(5, .int (v5 + Int32.ofInt 1)), (6, .int y3), (0, .ref 27), (1, .ref 2), (2, .int lv), (3, .int dp), (4, .int v4)], [], 0, 0) 82 2 (fun _ => rfl) h) ?_
        obtain ⟨z12, hz12⟩ : ∃ z : Int32, z = v5 + Int32.ofInt 1 := ⟨_, rfl⟩
        rw [← hz12]
        have fz12_0 : z12.toInt = v5.toInt + (Int32.ofInt 1).toInt := by rw [hz12]; exact pj_addI (by have := pj_i32 v5; have := pj_i32 (Int32.ofInt 1); omega) (by have := pj_i32 v5; have := pj_i32 (Int32.ofInt 1); omega)
        refine pj_X_of (fun r h => pj_R_to (G11, 36, [(5, .int z12), (6, .int y3), (0, .ref 27), (1, .ref 2), (2, .int lv), (3, .int dp), (4, .int v4)], [], 0, 0) 36 2 (fun _ => rfl) h) ?_
        exact pj_X_sub [(0, .ref 27), (1, .ref 2), (2, .int lv), (3, .int dp), (4, .int v4), (5, .int z12)] (show List.Nodup [0, 1, 2, 3, 4, 5] by decide) ⟨rfl, rfl, rfl, rfl, rfl, rfl, trivial⟩ (ih G11 iG11 kG11 v4 z12 ⟨by omega, by omega⟩ ⟨by omega, by omega⟩ (by omega))
      | false =>
        have ub5 := pj_u_neF b5
        refine pj_X_of (fun r h => pj_R_icF rfl b5 h) ?_
        exact pj_X_rt rfl rfl ⟨rfl, iG4, kG4⟩
theorem ct_62_1_1 (G0 : pj_G) (hI : pj_Inv G0) (lv : Int32) (dp : Int32) (rlv : (1 : Int) ≤ lv.toInt ∧ lv.toInt ≤ 1) (rdp : (1 : Int) ≤ dp.toInt ∧ dp.toInt ≤ 1) : pj_Y 39 62 [.ref 27, .ref 2, .int lv, .int dp] G0 (fun v G' => v = none ∧ pj_Inv G' ∧ pj_kpt kc_62_1_1 G0 G') := by
  have c0_ : ((Int16.ofInt 3000).toInt32).toInt = 3000 := by decide
  have c1_ : ((Int8.ofInt 40).toInt32).toInt = 40 := by decide
  have c2_ : (Int32.ofInt (-1)).toInt = -1 := by decide
  have c3_ : (Int32.ofInt 0).toInt = 0 := by decide
  have c4_ : (Int32.ofInt 1).toInt = 1 := by decide
  have c5_ : (Int32.ofInt 2).toInt = 2 := by decide
  refine pj_Y_X (M := pj_m62) rfl rfl (Nat.le_of_ble_eq_true rfl) ?_
  have hK : pj_kpt kc_62_1_1 G0 G0 := pj_kpt_r _ _
  show pj_X _ _ G0 0 [(0, .ref 27), (1, .ref 2), (2, .int lv), (3, .int dp)] [] _
  refine pj_X_of (fun r h => pj_R_to (G0, 2, [(0, .ref 27), (1, .ref 2), (2, .int lv), (3, .int dp)], [.int (Int32.ofInt 2), .int lv], 0, 0) 2 3 (fun _ => rfl) h) ?_
  refine pj_X_of (fun r h => pj_R_icT 12 rfl rfl (pj_b_leT (by omega)) h) ?_
  refine pj_X_of (fun r h => pj_R_to (G0, 17, [(0, .ref 27), (1, .ref 2), (2, .int lv), (3, .int dp)], [.int (lv + (Int32.ofInt 1)), .ref 2, .ref 27], 0, 0) 17 6 (fun _ => rfl) h) ?_
  obtain ⟨z13, hz13⟩ : ∃ z : Int32, z = lv + (Int32.ofInt 1) := ⟨_, rfl⟩
  rw [← hz13]
  have fz13_0 : z13.toInt = lv.toInt + (Int32.ofInt 1).toInt := by rw [hz13]; exact pj_addI (by have := pj_i32 lv; have := pj_i32 (Int32.ofInt 1); omega) (by have := pj_i32 lv; have := pj_i32 (Int32.ofInt 1); omega)
  refine pj_X_of (fun r h => pj_R_to (G0, 18, [(0, .ref 27), (1, .ref 2), (2, .int lv), (3, .int dp)], [.int dp, .int z13, .ref 2, .ref 27], 0, 0) 18 2 (fun _ => rfl) h) ?_
  refine pj_X_ca (vs := [.ref 27, .ref 2, .int z13, .int dp]) rfl (fun _ => rfl) ⟨Nat.le_of_ble_eq_true rfl, Nat.le_of_ble_eq_true rfl, pj_T_rcv hI rfl⟩ ⟨rfl, rfl⟩ (pj_Y_up (by decide) (ct_62_2_1 G0 hI z13 dp ⟨by omega, by omega⟩ ⟨by omega, by omega⟩)) ?_
  rintro _ G15 ⟨rfl, iG15, jG15⟩
  have kG15 : pj_kpt kc_62_1_1 G0 G15 := pj_kpt_t hK (pj_kpt_s jG15 rfl)
  show pj_X _ _ G15 21 [(0, .ref 27), (1, .ref 2), (2, .int lv), (3, .int dp)] [] _
  refine pj_X_of (fun r h => pj_R_to (G15, 22, [(0, .ref 27), (1, .ref 2), (2, .int lv), (3, .int dp)], [.int lv], 0, 0) 22 2 (fun _ => rfl) h) ?_
  refine pj_X_of (fun r h => pj_R_ifT 29 rfl rfl (pj_b0_neT (by omega)) h) ?_
  refine pj_X_of (fun r h => pj_R_to (G15, 36, [(5, .int (Int32.ofInt 0)), (4, .int ((Int8.ofInt 40).toInt32)), (0, .ref 27), (1, .ref 2), (2, .int lv), (3, .int dp)], [], 0, 0) 36 5 (fun _ => rfl) h) ?_
  exact pj_X_sub [(0, .ref 27), (1, .ref 2), (2, .int lv), (3, .int dp), (4, .int ((Int8.ofInt 40).toInt32)), (5, .int (Int32.ofInt 0))] (show List.Nodup [0, 1, 2, 3, 4, 5] by decide) ⟨rfl, rfl, rfl, rfl, rfl, rfl, trivial⟩ ((lp_ct_62_1_1 G0 hI lv dp rlv rdp 41) G15 iG15 kG15 ((Int8.ofInt 40).toInt32) (Int32.ofInt 0) ⟨by omega, by omega⟩ ⟨by omega, by omega⟩ (by omega))
def kc_62_0_1 : pj_KT := ([(2, 3), (2, 4), (27, 3)], [2, 27, 28, 29], [28, 29])
theorem lp_ct_62_0_1 (G0 : pj_G) (hI0 : pj_Inv G0) (lv : Int32) (dp : Int32) (rlv : (0 : Int) ≤ lv.toInt ∧ lv.toInt ≤ 0) (rdp : (1 : Int) ≤ dp.toInt ∧ dp.toInt ≤ 1) : ∀ mn : Nat, (∀ (G : pj_G) (hI : pj_Inv G) (hK : pj_kpt kc_62_0_1 G0 G) (v4 : Int32) (v5 : Int32), ((1 : Int) ≤ v4.toInt ∧ v4.toInt ≤ 40) → ((0 : Int) ≤ v5.toInt ∧ v5.toInt ≤ 40) → 40 - v5.toInt < (mn : Int) → pj_X 39 pj_m62 G 36 [(0, .ref 27), (1, .ref 2), (2, .int lv), (3, .int dp), (4, .int v4), (5, .int v5)] [] (fun v G' => v = none ∧ pj_Inv G' ∧ pj_kpt kc_62_0_1 G0 G')) := by
  have c0_ : ((Int16.ofInt 3000).toInt32).toInt = 3000 := by decide
  have c1_ : (Int32.ofInt (-1)).toInt = -1 := by decide
  have c2_ : (Int32.ofInt 0).toInt = 0 := by decide
  have c3_ : (Int32.ofInt 1).toInt = 1 := by decide
  have c4_ : (Int32.ofInt 2).toInt = 2 := by decide
  intro mn
  induction mn with
  | zero =>
    intro G hI hK v4 v5 rv4 rv5 hm
    exfalso
    omega
  | succ mn ih =>
    intro G hI hK v4 v5 rv4 rv5 hm
    refine pj_X_of (fun r h => pj_R_to (G, 40, [(0, .ref 27), (1, .ref 2), (2, .int lv), (3, .int dp), (4, .int v4), (5, .int v5)], [.int v4, .int v5], 0, 0) 40 3 (fun _ => rfl) h) ?_
    cases b1 : pj_c1 .ge v5 v4 with
    | true =>
      have ub1 := pj_u_geT b1
      refine pj_X_of (fun r h => pj_R_icT 85 rfl rfl b1 h) ?_
      exact pj_X_rt rfl rfl ⟨rfl, hI, hK⟩
    | false =>
      have ub1 := pj_u_geF b1
      refine pj_X_of (fun r h => pj_R_icF rfl b1 h) ?_
      refine pj_X_of (fun r h => pj_R_to (G, 45, [(0, .ref 27), (1, .ref 2), (2, .int lv), (3, .int dp), (4, .int v4), (5, .int v5)], [.int lv, .ref 2], 0, 0) 45 3 (fun _ => rfl) h) ?_
      refine pj_X_ca (vs := [.int lv]) rfl (fun _ => rfl) ⟨Nat.le_of_ble_eq_true rfl, Nat.le_of_ble_eq_true rfl, rfl⟩ ⟨rfl, rfl⟩ (pj_Y_up (by decide) (ct_61_0 G hI lv ⟨by omega, by omega⟩)) ?_
      rintro _ _ ⟨rfl, rfl⟩
      show pj_X _ _ G 48 [(0, .ref 27), (1, .ref 2), (2, .int lv), (3, .int dp), (4, .int v4), (5, .int v5)] [.retAddr 5, .ref 2] _
      refine pj_X_ca (vs := [.ref 2, .retAddr 5]) rfl (fun _ => rfl) ⟨Nat.le_of_ble_eq_true rfl, Nat.le_of_ble_eq_true rfl, pj_T_rcv hI rfl⟩ ⟨rfl, rfl⟩ (pj_Y_up (by decide) (ct_84_s5 G hI)) ?_
      rintro _ G4 ⟨y3, rfl, iG4, jG4, ry3⟩
      have kG4 : pj_kpt kc_62_0_1 G0 G4 := pj_kpt_t hK (pj_kpt_s jG4 rfl)
      show pj_X _ _ G4 51 [(0, .ref 27), (1, .ref 2), (2, .int lv), (3, .int dp), (4, .int v4), (5, .int v5)] [.int y3] _
      refine pj_X_of (fun r h => pj_R_to (G4, 56, [(6, .int y3), (0, .ref 27), (1, .ref 2), (2, .int lv), (3, .int dp), (4, .int v4), (5, .int v5)], [.int (Int32.ofInt (-1)), .int y3], 0, 0) 56 4 (fun _ => rfl) h) ?_
      cases b5 : pj_c1 .ne y3 (Int32.ofInt (-1)) with
      | true =>
        have ub5 := pj_u_neT b5
        refine pj_X_of (fun r h => pj_R_icT 60 rfl rfl b5 h) ?_
        refine pj_X_of (fun r h => pj_R_to (G4, 65, [(6, .int y3), (0, .ref 27), (1, .ref 2), (2, .int lv), (3, .int dp), (4, .int v4), (5, .int v5)], [.int (lv + (Int32.ofInt 1)), .ref 2, .ref 27], 0, 0) 65 6 (fun _ => rfl) h) ?_
        obtain ⟨z6, hz6⟩ : ∃ z : Int32, z = lv + (Int32.ofInt 1) := ⟨_, rfl⟩
        rw [← hz6]
        have fz6_0 : z6.toInt = lv.toInt + (Int32.ofInt 1).toInt := by rw [hz6]; exact pj_addI (by have := pj_i32 lv; have := pj_i32 (Int32.ofInt 1); omega) (by have := pj_i32 lv; have := pj_i32 (Int32.ofInt 1); omega)
        refine pj_X_of (fun r h => pj_R_to (G4, 66, [(6, .int y3), (0, .ref 27), (1, .ref 2), (2, .int lv), (3, .int dp), (4, .int v4), (5, .int v5)], [.int dp, .int z6, .ref 2, .ref 27], 0, 0) 66 2 (fun _ => rfl) h) ?_
        refine pj_X_ca (vs := [.ref 27, .ref 2, .int z6, .int dp]) rfl (fun _ => rfl) ⟨Nat.le_of_ble_eq_true rfl, Nat.le_of_ble_eq_true rfl, pj_T_rcv iG4 rfl⟩ ⟨rfl, rfl⟩ (pj_Y_up (by decide) (ct_62_1_1 G4 iG4 z6 dp ⟨by omega, by omega⟩ ⟨by omega, by omega⟩)) ?_
        rintro _ G8 ⟨rfl, iG8, jG8⟩
        have kG8 : pj_kpt kc_62_0_1 G0 G8 := pj_kpt_t kG4 (pj_kpt_s jG8 rfl)
        show pj_X _ _ G8 69 [(6, .int y3), (0, .ref 27), (1, .ref 2), (2, .int lv), (3, .int dp), (4, .int v4), (5, .int v5)] [] _
        refine pj_X_of (fun r h => pj_R_to (G8, 76, [(6, .int y3), (0, .ref 27), (1, .ref 2), (2, .int lv), (3, .int dp), (4, .int v4), (5, .int v5)], [.int (((Int16.ofInt 3000).toInt32) + y3), .ref 27], 0, 0) 76 5 (fun _ => rfl) h) ?_
        obtain ⟨z9, hz9⟩ : ∃ z : Int32, z = ((Int16.ofInt 3000).toInt32) + y3 := ⟨_, rfl⟩
        rw [← hz9]
        have fz9_0 : z9.toInt = ((Int16.ofInt 3000).toInt32).toInt + y3.toInt := by rw [hz9]; exact pj_addI (by have := pj_i32 ((Int16.ofInt 3000).toInt32); have := pj_i32 y3; omega) (by have := pj_i32 ((Int16.ofInt 3000).toInt32); have := pj_i32 y3; omega)
        refine pj_X_ca (vs := [.ref 27, .int z9]) rfl (fun _ => rfl) ⟨Nat.le_of_ble_eq_true rfl, Nat.le_of_ble_eq_true rfl, pj_T_rcv iG8 rfl⟩ ⟨rfl, rfl⟩ (pj_Y_up (by decide) (ct_60 G8 iG8 z9 (by omega))) ?_
        rintro _ G11 ⟨rfl, iG11, jG11⟩
        have kG11 : pj_kpt kc_62_0_1 G0 G11 := pj_kpt_t kG8 (pj_kpt_s jG11 rfl)
        show pj_X _ _ G11 79 [(6, .int y3), (0, .ref 27), (1, .ref 2), (2, .int lv), (3, .int dp), (4, .int v4), (5, .int v5)] [] _
        refine pj_X_of (fun r h => pj_R_to (G11, 82, [(5, .int (v5 + Int32.ofInt 1)), (6, .int y3), (0, .ref 27), (1, .ref 2), (2, .int lv), (3, .int dp), (4, .int v4)], [], 0, 0) 82 2 (fun _ => rfl) h) ?_
        obtain ⟨z12, hz12⟩ : ∃ z : Int32, z = v5 + Int32.ofInt 1 := ⟨_, rfl⟩
        rw [← hz12]
        have fz12_0 : z12.toInt = v5.toInt + (Int32.ofInt 1).toInt := by rw [hz12]; exact pj_addI (by have := pj_i32 v5; have := pj_i32 (Int32.ofInt 1); omega) (by have := pj_i32 v5; have := pj_i32 (Int32.ofInt 1); omega)
        refine pj_X_of (fun r h => pj_R_to (G11, 36, [(5, .int z12), (6, .int y3), (0, .ref 27), (1, .ref 2), (2, .int lv), (3, .int dp), (4, .int v4)], [], 0, 0) 36 2 (fun _ => rfl) h) ?_
        exact pj_X_sub [(0, .ref 27), (1, .ref 2), (2, .int lv), (3, .int dp), (4, .int v4), (5, .int z12)] (show List.Nodup [0, 1, 2, 3, 4, 5] by decide) ⟨rfl, rfl, rfl, rfl, rfl, rfl, trivial⟩ (ih G11 iG11 kG11 v4 z12 ⟨by omega, by omega⟩ ⟨by omega, by omega⟩ (by omega))
      | false =>
        have ub5 := pj_u_neF b5
        refine pj_X_of (fun r h => pj_R_icF rfl b5 h) ?_
        exact pj_X_rt rfl rfl ⟨rfl, iG4, kG4⟩
theorem ct_62_0_1 (G0 : pj_G) (hI : pj_Inv G0) (lv : Int32) (dp : Int32) (rlv : (0 : Int) ≤ lv.toInt ∧ lv.toInt ≤ 0) (rdp : (1 : Int) ≤ dp.toInt ∧ dp.toInt ≤ 1) : pj_Y 40 62 [.ref 27, .ref 2, .int lv, .int dp] G0 (fun v G' => v = none ∧ pj_Inv G' ∧ pj_kpt kc_62_0_1 G0 G') := by
  have c0_ : ((Int16.ofInt 3000).toInt32).toInt = 3000 := by decide
  have c1_ : (Int32.ofInt (-1)).toInt = -1 := by decide
  have c2_ : (Int32.ofInt 0).toInt = 0 := by decide
  have c3_ : (Int32.ofInt 1).toInt = 1 := by decide
  have c4_ : (Int32.ofInt 2).toInt = 2 := by decide
  refine pj_Y_X (M := pj_m62) rfl rfl (Nat.le_of_ble_eq_true rfl) ?_
  have hK : pj_kpt kc_62_0_1 G0 G0 := pj_kpt_r _ _
  show pj_X _ _ G0 0 [(0, .ref 27), (1, .ref 2), (2, .int lv), (3, .int dp)] [] _
  refine pj_X_of (fun r h => pj_R_to (G0, 2, [(0, .ref 27), (1, .ref 2), (2, .int lv), (3, .int dp)], [.int (Int32.ofInt 2), .int lv], 0, 0) 2 3 (fun _ => rfl) h) ?_
  refine pj_X_of (fun r h => pj_R_icT 12 rfl rfl (pj_b_leT (by omega)) h) ?_
  refine pj_X_of (fun r h => pj_R_to (G0, 17, [(0, .ref 27), (1, .ref 2), (2, .int lv), (3, .int dp)], [.int (lv + (Int32.ofInt 1)), .ref 2, .ref 27], 0, 0) 17 6 (fun _ => rfl) h) ?_
  obtain ⟨z13, hz13⟩ : ∃ z : Int32, z = lv + (Int32.ofInt 1) := ⟨_, rfl⟩
  rw [← hz13]
  have fz13_0 : z13.toInt = lv.toInt + (Int32.ofInt 1).toInt := by rw [hz13]; exact pj_addI (by have := pj_i32 lv; have := pj_i32 (Int32.ofInt 1); omega) (by have := pj_i32 lv; have := pj_i32 (Int32.ofInt 1); omega)
  refine pj_X_of (fun r h => pj_R_to (G0, 18, [(0, .ref 27), (1, .ref 2), (2, .int lv), (3, .int dp)], [.int dp, .int z13, .ref 2, .ref 27], 0, 0) 18 2 (fun _ => rfl) h) ?_
  refine pj_X_ca (vs := [.ref 27, .ref 2, .int z13, .int dp]) rfl (fun _ => rfl) ⟨Nat.le_of_ble_eq_true rfl, Nat.le_of_ble_eq_true rfl, pj_T_rcv hI rfl⟩ ⟨rfl, rfl⟩ (pj_Y_up (by decide) (ct_62_1_1 G0 hI z13 dp ⟨by omega, by omega⟩ ⟨by omega, by omega⟩)) ?_
  rintro _ G15 ⟨rfl, iG15, jG15⟩
  have kG15 : pj_kpt kc_62_0_1 G0 G15 := pj_kpt_t hK (pj_kpt_s jG15 rfl)
  show pj_X _ _ G15 21 [(0, .ref 27), (1, .ref 2), (2, .int lv), (3, .int dp)] [] _
  refine pj_X_of (fun r h => pj_R_to (G15, 22, [(0, .ref 27), (1, .ref 2), (2, .int lv), (3, .int dp)], [.int lv], 0, 0) 22 2 (fun _ => rfl) h) ?_
  refine pj_X_of (fun r h => pj_R_ifF rfl (pj_b0_neF (by omega)) h) ?_
  refine pj_X_of (fun r h => pj_R_to (G15, 36, [(5, .int (Int32.ofInt 0)), (4, .int (Int32.ofInt 1)), (0, .ref 27), (1, .ref 2), (2, .int lv), (3, .int dp)], [], 0, 0) 36 6 (fun _ => rfl) h) ?_
  exact pj_X_sub [(0, .ref 27), (1, .ref 2), (2, .int lv), (3, .int dp), (4, .int (Int32.ofInt 1)), (5, .int (Int32.ofInt 0))] (show List.Nodup [0, 1, 2, 3, 4, 5] by decide) ⟨rfl, rfl, rfl, rfl, rfl, rfl, trivial⟩ ((lp_ct_62_0_1 G0 hI lv dp rlv rdp 41) G15 iG15 kG15 (Int32.ofInt 1) (Int32.ofInt 0) ⟨by omega, by omega⟩ ⟨by omega, by omega⟩ (by omega))
def kc_64_0 : pj_KT := ([(2, 3), (2, 4), (27, 3)], [2, 27, 28, 29], [28, 29])
theorem ct_64_0 (G0 : pj_G) (hI : pj_Inv G0) (dp : Int32) (rdp : (0 : Int) ≤ dp.toInt ∧ dp.toInt ≤ 0) : pj_Y 41 64 [.ref 27, .ref 2, .int dp] G0 (fun v G' => v = none ∧ pj_Inv G' ∧ pj_kpt kc_64_0 G0 G') := by
  have c0_ : ((Int16.ofInt 1000).toInt32).toInt = 1000 := by decide
  have c1_ : ((Int8.ofInt 40).toInt32).toInt = 40 := by decide
  have c2_ : ((Int8.ofInt 41).toInt32).toInt = 41 := by decide
  have c3_ : (Int32.ofInt (-1)).toInt = -1 := by decide
  have c4_ : (Int32.ofInt 0).toInt = 0 := by decide
  have c5_ : (Int32.ofInt 1).toInt = 1 := by decide
  have c6_ : (Int32.ofInt 3).toInt = 3 := by decide
  have c7_ : (Int32.ofInt 4).toInt = 4 := by decide
  refine pj_Y_X (M := pj_m64) rfl rfl (Nat.le_of_ble_eq_true rfl) ?_
  have hK : pj_kpt kc_64_0 G0 G0 := pj_kpt_r _ _
  show pj_X _ _ G0 0 [(0, .ref 27), (1, .ref 2), (2, .int dp)] [] _
  refine pj_X_of (fun r h => pj_R_to (G0, 1, [(0, .ref 27), (1, .ref 2), (2, .int dp)], [.ref 2], 0, 0) 1 2 (fun _ => rfl) h) ?_
  refine pj_X_ca (vs := [.ref 2]) rfl (fun _ => rfl) ⟨Nat.le_of_ble_eq_true rfl, Nat.le_of_ble_eq_true rfl, pj_T_rcv hI rfl⟩ ⟨rfl, rfl⟩ (pj_Y_up (by decide) (ct_85 G0 hI)) ?_
  rintro _ _ ⟨y1, rfl, rfl, ry1⟩
  show pj_X _ _ G0 4 [(0, .ref 27), (1, .ref 2), (2, .int dp)] [.int y1] _
  cases b2 : pj_c1 .eq y1 0 with
  | true =>
    have ub2 := pj_u0_eqT b2
    refine pj_X_of (fun r h => pj_R_ifT 19 rfl rfl b2 h) ?_
    refine pj_X_of (fun r h => pj_R_to (G0, 21, [(0, .ref 27), (1, .ref 2), (2, .int dp)], [.int (Int32.ofInt 4), .int dp], 0, 0) 21 3 (fun _ => rfl) h) ?_
    refine pj_X_of (fun r h => pj_R_icF rfl (pj_b_geF (by omega)) h) ?_
    refine pj_X_of (fun r h => pj_R_to (G0, 27, [(0, .ref 27), (1, .ref 2), (2, .int dp)], [.int ((Int8.ofInt 40).toInt32), .ref 2], 0, 0) 27 3 (fun _ => rfl) h) ?_
    refine pj_X_ca (vs := [.ref 2, .int ((Int8.ofInt 40).toInt32)]) rfl (fun _ => rfl) ⟨Nat.le_of_ble_eq_true rfl, Nat.le_of_ble_eq_true rfl, pj_T_rcv hI rfl⟩ ⟨rfl, rfl⟩ (pj_Y_up (by decide) (ct_82 G0 hI ((Int8.ofInt 40).toInt32) ⟨by omega, by omega⟩)) ?_
    rintro _ G4 ⟨y3, rfl, iG4, jG4, ry3⟩
    have kG4 : pj_kpt kc_64_0 G0 G4 := pj_kpt_t hK (pj_kpt_s jG4 rfl)
    show pj_X _ _ G4 30 [(0, .ref 27), (1, .ref 2), (2, .int dp)] [.int y3] _
    cases b5 : pj_c1 .eq y3 0 with
    | true =>
      have ub5 := pj_u0_eqT b5
      refine pj_X_of (fun r h => pj_R_ifT 54 rfl rfl b5 h) ?_
      refine pj_X_of (fun r h => pj_R_to (G4, 57, [(0, .ref 27), (1, .ref 2), (2, .int dp)], [.retAddr 8, .ref 2], 0, 0) 57 3 (fun _ => rfl) h) ?_
      refine pj_X_ca (vs := [.ref 2, .retAddr 8]) rfl (fun _ => rfl) ⟨Nat.le_of_ble_eq_true rfl, Nat.le_of_ble_eq_true rfl, pj_T_rcv iG4 rfl⟩ ⟨rfl, rfl⟩ (pj_Y_up (by decide) (ct_84_s8 G4 iG4)) ?_
      rintro _ G7 ⟨y6, rfl, iG7, jG7, ry6⟩
      have kG7 : pj_kpt kc_64_0 G0 G7 := pj_kpt_t kG4 (pj_kpt_s jG7 rfl)
      show pj_X _ _ G7 60 [(0, .ref 27), (1, .ref 2), (2, .int dp)] [.int y6] _
      refine pj_X_of (fun r h => pj_R_to (G7, 63, [(3, .int y6), (0, .ref 27), (1, .ref 2), (2, .int dp)], [.int (Int32.ofInt (-1)), .int y6], 0, 0) 63 4 (fun _ => rfl) h) ?_
      cases b8 : pj_c1 .ne y6 (Int32.ofInt (-1)) with
      | true =>
        have ub8 := pj_u_neT b8
        refine pj_X_of (fun r h => pj_R_icT 73 rfl rfl b8 h) ?_
        refine pj_X_of (fun r h => pj_R_to (G7, 81, [(3, .int y6), (0, .ref 27), (1, .ref 2), (2, .int dp)], [.int ((y6.toUInt32 % 65536).toInt32), .retAddr 8, .int ((Int16.ofInt 1000).toInt32), .ref 27], 0, 0) 81 6 (fun _ => rfl) h) ?_
        obtain ⟨z9, hz9⟩ : ∃ z : Int32, z = (y6.toUInt32 % 65536).toInt32 := ⟨_, rfl⟩
        rw [← hz9]
        have fz9_0 : z9.toInt = y6.toInt := by rw [hz9]; exact pj_i2cI (by omega) (by omega)
        refine pj_X_ca (vs := [.retAddr 8, .int z9]) rfl (fun _ => rfl) ⟨Nat.le_of_ble_eq_true rfl, Nat.le_of_ble_eq_true rfl, rfl⟩ ⟨rfl, rfl⟩ (pj_Y_up (by decide) (ct_290_s8 G7 iG7 z9 ⟨by omega, by omega⟩)) ?_
        rintro _ _ ⟨y10, rfl, rfl, ry10⟩
        show pj_X _ _ G7 84 [(3, .int y6), (0, .ref 27), (1, .ref 2), (2, .int dp)] [.int y10, .int ((Int16.ofInt 1000).toInt32), .ref 27] _
        refine pj_X_of (fun r h => pj_R_to (G7, 85, [(3, .int y6), (0, .ref 27), (1, .ref 2), (2, .int dp)], [.int (((Int16.ofInt 1000).toInt32) + y10), .ref 27], 0, 0) 85 2 (fun _ => rfl) h) ?_
        obtain ⟨z11, hz11⟩ : ∃ z : Int32, z = ((Int16.ofInt 1000).toInt32) + y10 := ⟨_, rfl⟩
        rw [← hz11]
        have fz11_0 : z11.toInt = ((Int16.ofInt 1000).toInt32).toInt + y10.toInt := by rw [hz11]; exact pj_addI (by have := pj_i32 ((Int16.ofInt 1000).toInt32); have := pj_i32 y10; omega) (by have := pj_i32 ((Int16.ofInt 1000).toInt32); have := pj_i32 y10; omega)
        refine pj_X_ca (vs := [.ref 27, .int z11]) rfl (fun _ => rfl) ⟨Nat.le_of_ble_eq_true rfl, Nat.le_of_ble_eq_true rfl, pj_T_rcv iG7 rfl⟩ ⟨rfl, rfl⟩ (pj_Y_up (by decide) (ct_60 G7 iG7 z11 (by omega))) ?_
        rintro _ G13 ⟨rfl, iG13, jG13⟩
        have kG13 : pj_kpt kc_64_0 G0 G13 := pj_kpt_t kG7 (pj_kpt_s jG13 rfl)
        show pj_X _ _ G13 88 [(3, .int y6), (0, .ref 27), (1, .ref 2), (2, .int dp)] [] _
        exact pj_X_rt rfl rfl ⟨rfl, iG13, kG13⟩
      | false =>
        have ub8 := pj_u_neF b8
        refine pj_X_of (fun r h => pj_R_icF rfl b8 h) ?_
        refine pj_X_of (fun r h => pj_R_to (G7, 67, [(3, .int y6), (0, .ref 27), (1, .ref 2), (2, .int dp)], [.ref 2], 0, 0) 67 2 (fun _ => rfl) h) ?_
        refine pj_X_ca (vs := [.ref 2]) rfl (fun _ => rfl) ⟨Nat.le_of_ble_eq_true rfl, Nat.le_of_ble_eq_true rfl, pj_T_rcv iG7 rfl⟩ ⟨rfl, rfl⟩ (pj_Y_up (by decide) (ct_81 G7 iG7)) ?_
        rintro _ G15 ⟨rfl, iG15, jG15, eG15⟩
        have kG15 : pj_kpt kc_64_0 G0 G15 := pj_kpt_t kG7 (pj_kpt_s jG15 rfl)
        show pj_X _ _ G15 70 [(3, .int y6), (0, .ref 27), (1, .ref 2), (2, .int dp)] [] _
        refine pj_X_of (fun r h => pj_R_to (G15, 88, [(3, .int y6), (0, .ref 27), (1, .ref 2), (2, .int dp)], [], 0, 0) 88 2 (fun _ => rfl) h) ?_
        exact pj_X_rt rfl rfl ⟨rfl, iG15, kG15⟩
    | false =>
      have ub5 := pj_u0_eqF b5
      refine pj_X_of (fun r h => pj_R_ifF rfl b5 h) ?_
      refine pj_X_of (fun r h => pj_R_to (G4, 39, [(0, .ref 27), (1, .ref 2), (2, .int dp)], [.int (dp + (Int32.ofInt 1)), .int (Int32.ofInt 0), .ref 2, .ref 27], 0, 0) 39 7 (fun _ => rfl) h) ?_
      obtain ⟨z16, hz16⟩ : ∃ z : Int32, z = dp + (Int32.ofInt 1) := ⟨_, rfl⟩
      rw [← hz16]
      have fz16_0 : z16.toInt = dp.toInt + (Int32.ofInt 1).toInt := by rw [hz16]; exact pj_addI (by have := pj_i32 dp; have := pj_i32 (Int32.ofInt 1); omega) (by have := pj_i32 dp; have := pj_i32 (Int32.ofInt 1); omega)
      refine pj_X_ca (vs := [.ref 27, .ref 2, .int (Int32.ofInt 0), .int z16]) rfl (fun _ => rfl) ⟨Nat.le_of_ble_eq_true rfl, Nat.le_of_ble_eq_true rfl, pj_T_rcv iG4 rfl⟩ ⟨rfl, rfl⟩ (pj_Y_up (by decide) (ct_62_0_1 G4 iG4 (Int32.ofInt 0) z16 ⟨by omega, by omega⟩ ⟨by omega, by omega⟩)) ?_
      rintro _ G18 ⟨rfl, iG18, jG18⟩
      have kG18 : pj_kpt kc_64_0 G0 G18 := pj_kpt_t kG4 (pj_kpt_s jG18 rfl)
      show pj_X _ _ G18 42 [(0, .ref 27), (1, .ref 2), (2, .int dp)] [] _
      refine pj_X_of (fun r h => pj_R_to (G18, 47, [(0, .ref 27), (1, .ref 2), (2, .int dp)], [.int ((Int8.ofInt 41).toInt32), .int ((Int8.ofInt 41).toInt32), .ref 2], 0, 0) 47 4 (fun _ => rfl) h) ?_
      refine pj_X_ca (vs := [.ref 2, .int ((Int8.ofInt 41).toInt32), .int ((Int8.ofInt 41).toInt32)]) rfl (fun _ => rfl) ⟨Nat.le_of_ble_eq_true rfl, Nat.le_of_ble_eq_true rfl, pj_T_rcv iG18 rfl⟩ ⟨rfl, rfl⟩ (pj_Y_up (by decide) (ct_83 G18 iG18 ((Int8.ofInt 41).toInt32) ((Int8.ofInt 41).toInt32) ⟨by omega, by omega⟩ ⟨by omega, by omega⟩)) ?_
      rintro _ G20 ⟨y19, rfl, iG20, jG20, ry19, ey19⟩
      have kG20 : pj_kpt kc_64_0 G0 G20 := pj_kpt_t kG18 (pj_kpt_s jG20 rfl)
      show pj_X _ _ G20 50 [(0, .ref 27), (1, .ref 2), (2, .int dp)] [.int y19] _
      refine pj_X_of (fun r h => pj_R_to (G20, 88, [(0, .ref 27), (1, .ref 2), (2, .int dp)], [], 0, 0) 88 3 (fun _ => rfl) h) ?_
      exact pj_X_rt rfl rfl ⟨rfl, iG20, kG20⟩
  | false =>
    have ub2 := pj_u0_eqF b2
    refine pj_X_of (fun r h => pj_R_ifF rfl b2 h) ?_
    refine pj_X_of (fun r h => pj_R_to (G0, 10, [(0, .ref 27), (1, .ref 2), (2, .int dp)], [.int (Int32.ofInt 3), .ref 2, .ref 27], 0, 0) 10 4 (fun _ => rfl) h) ?_
    refine pj_X_ca (vs := [.ref 2, .int (Int32.ofInt 3)]) rfl (fun _ => rfl) ⟨Nat.le_of_ble_eq_true rfl, Nat.le_of_ble_eq_true rfl, pj_T_rcv hI rfl⟩ ⟨rfl, rfl⟩ (pj_Y_up (by decide) (ct_86 G0 hI (Int32.ofInt 3) ⟨by omega, by omega⟩)) ?_
    rintro _ G22 ⟨y21, rfl, iG22, jG22, ry21⟩
    have kG22 : pj_kpt kc_64_0 G0 G22 := pj_kpt_t hK (pj_kpt_s jG22 rfl)
    show pj_X _ _ G22 13 [(0, .ref 27), (1, .ref 2), (2, .int dp)] [.int y21, .ref 27] _
    refine pj_X_ca (vs := [.ref 27, .int y21]) rfl (fun _ => rfl) ⟨Nat.le_of_ble_eq_true rfl, Nat.le_of_ble_eq_true rfl, pj_T_rcv iG22 rfl⟩ ⟨rfl, rfl⟩ (pj_Y_up (by decide) (ct_60 G22 iG22 y21 (by omega))) ?_
    rintro _ G24 ⟨rfl, iG24, jG24⟩
    have kG24 : pj_kpt kc_64_0 G0 G24 := pj_kpt_t kG22 (pj_kpt_s jG24 rfl)
    show pj_X _ _ G24 16 [(0, .ref 27), (1, .ref 2), (2, .int dp)] [] _
    refine pj_X_of (fun r h => pj_R_to (G24, 88, [(0, .ref 27), (1, .ref 2), (2, .int dp)], [], 0, 0) 88 2 (fun _ => rfl) h) ?_
    exact pj_X_rt rfl rfl ⟨rfl, iG24, kG24⟩
def kc_63_0 : pj_KT := ([(2, 3), (2, 4), (27, 3)], [2, 27, 28, 29], [28, 29])
theorem lp_ct_63_0 (G0 : pj_G) (hI0 : pj_Inv G0) (dp : Int32) (rdp : (0 : Int) ≤ dp.toInt ∧ dp.toInt ≤ 0) : ∀ mn : Nat, (∀ (G : pj_G) (hI : pj_Inv G) (hK : pj_kpt kc_63_0 G0 G) (v3 : Int32) (v4 : Int32), ((0 : Int) ≤ v3.toInt ∧ v3.toInt ≤ 1) → ((0 : Int) ≤ v4.toInt ∧ v4.toInt ≤ 40) → 40 - v4.toInt < (mn : Int) → pj_X 41 pj_m63 G 5 [(0, .ref 27), (1, .ref 2), (2, .int dp), (3, .int v3), (4, .int v4)] [] (fun v G' => v = none ∧ pj_Inv G' ∧ pj_kpt kc_63_0 G0 G')) := by
  have c0_ : ((Int16.ofInt 2000).toInt32).toInt = 2000 := by decide
  have c1_ : ((Int8.ofInt 40).toInt32).toInt = 40 := by decide
  have c2_ : ((Int8.ofInt 45).toInt32).toInt = 45 := by decide
  have c3_ : (Int32.ofInt 0).toInt = 0 := by decide
  have c4_ : (Int32.ofInt 1).toInt = 1 := by decide
  intro mn
  induction mn with
  | zero =>
    intro G hI hK v3 v4 rv3 rv4 hm
    exfalso
    omega
  | succ mn ih =>
    intro G hI hK v3 v4 rv3 rv4 hm
    refine pj_X_of (fun r h => pj_R_to (G, 9, [(0, .ref 27), (1, .ref 2), (2, .int dp), (3, .int v3), (4, .int v4)], [.int ((Int8.ofInt 40).toInt32), .int v4], 0, 0) 9 3 (fun _ => rfl) h) ?_
    cases b1 : pj_c1 .ge v4 ((Int8.ofInt 40).toInt32) with
    | true =>
      have ub1 := pj_u_geT b1
      refine pj_X_of (fun r h => pj_R_icT 37 rfl rfl b1 h) ?_
      refine pj_X_of (fun r h => pj_R_to (G, 40, [(0, .ref 27), (1, .ref 2), (2, .int dp), (3, .int v3), (4, .int v4)], [.int dp, .ref 2, .ref 27], 0, 0) 40 4 (fun _ => rfl) h) ?_
      refine pj_X_ca (vs := [.ref 27, .ref 2, .int dp]) rfl (fun _ => rfl) ⟨Nat.le_of_ble_eq_true rfl, Nat.le_of_ble_eq_true rfl, pj_T_rcv hI rfl⟩ ⟨rfl, rfl⟩ (pj_Y_up (by decide) (ct_64_0 G hI dp ⟨by omega, by omega⟩)) ?_
      rintro _ G3 ⟨rfl, iG3, jG3⟩
      have kG3 : pj_kpt kc_63_0 G0 G3 := pj_kpt_t hK (pj_kpt_s jG3 rfl)
      show pj_X _ _ G3 43 [(0, .ref 27), (1, .ref 2), (2, .int dp), (3, .int v3), (4, .int v4)] [] _
      refine pj_X_of (fun r h => pj_R_to (G3, 44, [(0, .ref 27), (1, .ref 2), (2, .int dp), (3, .int v3), (4, .int v4)], [.int v3], 0, 0) 44 2 (fun _ => rfl) h) ?_
      cases b4 : pj_c1 .eq v3 0 with
      | true =>
        have ub4 := pj_u0_eqT b4
        refine pj_X_of (fun r h => pj_R_ifT 54 rfl rfl b4 h) ?_
        exact pj_X_rt rfl rfl ⟨rfl, iG3, kG3⟩
      | false =>
        have ub4 := pj_u0_eqF b4
        refine pj_X_of (fun r h => pj_R_ifF rfl b4 h) ?_
        refine pj_X_of (fun r h => pj_R_to (G3, 51, [(0, .ref 27), (1, .ref 2), (2, .int dp), (3, .int v3), (4, .int v4)], [.int ((Int16.ofInt 2000).toInt32), .ref 27], 0, 0) 51 3 (fun _ => rfl) h) ?_
        refine pj_X_ca (vs := [.ref 27, .int ((Int16.ofInt 2000).toInt32)]) rfl (fun _ => rfl) ⟨Nat.le_of_ble_eq_true rfl, Nat.le_of_ble_eq_true rfl, pj_T_rcv iG3 rfl⟩ ⟨rfl, rfl⟩ (pj_Y_up (by decide) (ct_60 G3 iG3 ((Int16.ofInt 2000).toInt32) (by omega))) ?_
        rintro _ G6 ⟨rfl, iG6, jG6⟩
        have kG6 : pj_kpt kc_63_0 G0 G6 := pj_kpt_t kG3 (pj_kpt_s jG6 rfl)
        show pj_X _ _ G6 54 [(0, .ref 27), (1, .ref 2), (2, .int dp), (3, .int v3), (4, .int v4)] [] _
        exact pj_X_rt rfl rfl ⟨rfl, iG6, kG6⟩
    | false =>
      have ub1 := pj_u_geF b1
      refine pj_X_of (fun r h => pj_R_icF rfl b1 h) ?_
      refine pj_X_of (fun r h => pj_R_to (G, 15, [(0, .ref 27), (1, .ref 2), (2, .int dp), (3, .int v3), (4, .int v4)], [.int ((Int8.ofInt 45).toInt32), .ref 2], 0, 0) 15 3 (fun _ => rfl) h) ?_
      refine pj_X_ca (vs := [.ref 2, .int ((Int8.ofInt 45).toInt32)]) rfl (fun _ => rfl) ⟨Nat.le_of_ble_eq_true rfl, Nat.le_of_ble_eq_true rfl, pj_T_rcv hI rfl⟩ ⟨rfl, rfl⟩ (pj_Y_up (by decide) (ct_82 G hI ((Int8.ofInt 45).toInt32) ⟨by omega, by omega⟩)) ?_
      rintro _ G8 ⟨y7, rfl, iG8, jG8, ry7⟩
      have kG8 : pj_kpt kc_63_0 G0 G8 := pj_kpt_t hK (pj_kpt_s jG8 rfl)
      show pj_X _ _ G8 18 [(0, .ref 27), (1, .ref 2), (2, .int dp), (3, .int v3), (4, .int v4)] [.int y7] _
      cases b9 : pj_c1 .eq y7 0 with
      | true =>
        have ub9 := pj_u0_eqT b9
        refine pj_X_of (fun r h => pj_R_ifT 37 rfl rfl b9 h) ?_
        refine pj_X_of (fun r h => pj_R_to (G8, 40, [(0, .ref 27), (1, .ref 2), (2, .int dp), (3, .int v3), (4, .int v4)], [.int dp, .ref 2, .ref 27], 0, 0) 40 4 (fun _ => rfl) h) ?_
        refine pj_X_ca (vs := [.ref 27, .ref 2, .int dp]) rfl (fun _ => rfl) ⟨Nat.le_of_ble_eq_true rfl, Nat.le_of_ble_eq_true rfl, pj_T_rcv iG8 rfl⟩ ⟨rfl, rfl⟩ (pj_Y_up (by decide) (ct_64_0 G8 iG8 dp ⟨by omega, by omega⟩)) ?_
        rintro _ G11 ⟨rfl, iG11, jG11⟩
        have kG11 : pj_kpt kc_63_0 G0 G11 := pj_kpt_t kG8 (pj_kpt_s jG11 rfl)
        show pj_X _ _ G11 43 [(0, .ref 27), (1, .ref 2), (2, .int dp), (3, .int v3), (4, .int v4)] [] _
        refine pj_X_of (fun r h => pj_R_to (G11, 44, [(0, .ref 27), (1, .ref 2), (2, .int dp), (3, .int v3), (4, .int v4)], [.int v3], 0, 0) 44 2 (fun _ => rfl) h) ?_
        cases b12 : pj_c1 .eq v3 0 with
        | true =>
          have ub12 := pj_u0_eqT b12
          refine pj_X_of (fun r h => pj_R_ifT 54 rfl rfl b12 h) ?_
          exact pj_X_rt rfl rfl ⟨rfl, iG11, kG11⟩
        | false =>
          have ub12 := pj_u0_eqF b12
          refine pj_X_of (fun r h => pj_R_ifF rfl b12 h) ?_
          refine pj_X_of (fun r h => pj_R_to (G11, 51, [(0, .ref 27), (1, .ref 2), (2, .int dp), (3, .int v3), (4, .int v4)], [.int ((Int16.ofInt 2000).toInt32), .ref 27], 0, 0) 51 3 (fun _ => rfl) h) ?_
          refine pj_X_ca (vs := [.ref 27, .int ((Int16.ofInt 2000).toInt32)]) rfl (fun _ => rfl) ⟨Nat.le_of_ble_eq_true rfl, Nat.le_of_ble_eq_true rfl, pj_T_rcv iG11 rfl⟩ ⟨rfl, rfl⟩ (pj_Y_up (by decide) (ct_60 G11 iG11 ((Int16.ofInt 2000).toInt32) (by omega))) ?_
          rintro _ G14 ⟨rfl, iG14, jG14⟩
          have kG14 : pj_kpt kc_63_0 G0 G14 := pj_kpt_t kG11 (pj_kpt_s jG14 rfl)
          show pj_X _ _ G14 54 [(0, .ref 27), (1, .ref 2), (2, .int dp), (3, .int v3), (4, .int v4)] [] _
          exact pj_X_rt rfl rfl ⟨rfl, iG14, kG14⟩
      | false =>
        have ub9 := pj_u0_eqF b9
        refine pj_X_of (fun r h => pj_R_ifF rfl b9 h) ?_
        refine pj_X_of (fun r h => pj_R_to (G8, 22, [(0, .ref 27), (1, .ref 2), (2, .int dp), (3, .int v3), (4, .int v4)], [.int v3], 0, 0) 22 2 (fun _ => rfl) h) ?_
        cases b15 : pj_c1 .ne v3 0 with
        | true =>
          have ub15 := pj_u0_neT b15
          refine pj_X_of (fun r h => pj_R_ifT 29 rfl rfl b15 h) ?_
          refine pj_X_of (fun r h => pj_R_to (G8, 34, [(4, .int (v4 + Int32.ofInt 1)), (3, .int (Int32.ofInt 0)), (0, .ref 27), (1, .ref 2), (2, .int dp)], [], 0, 0) 34 4 (fun _ => rfl) h) ?_
          obtain ⟨z16, hz16⟩ : ∃ z : Int32, z = v4 + Int32.ofInt 1 := ⟨_, rfl⟩
          rw [← hz16]
          have fz16_0 : z16.toInt = v4.toInt + (Int32.ofInt 1).toInt := by rw [hz16]; exact pj_addI (by have := pj_i32 v4; have := pj_i32 (Int32.ofInt 1); omega) (by have := pj_i32 v4; have := pj_i32 (Int32.ofInt 1); omega)
          refine pj_X_of (fun r h => pj_R_to (G8, 5, [(4, .int z16), (3, .int (Int32.ofInt 0)), (0, .ref 27), (1, .ref 2), (2, .int dp)], [], 0, 0) 5 2 (fun _ => rfl) h) ?_
          exact pj_X_sub [(0, .ref 27), (1, .ref 2), (2, .int dp), (3, .int (Int32.ofInt 0)), (4, .int z16)] (show List.Nodup [0, 1, 2, 3, 4] by decide) ⟨rfl, rfl, rfl, rfl, rfl, trivial⟩ (ih G8 iG8 kG8 (Int32.ofInt 0) z16 ⟨by omega, by omega⟩ ⟨by omega, by omega⟩ (by omega))
        | false =>
          have ub15 := pj_u0_neF b15
          refine pj_X_of (fun r h => pj_R_ifF rfl b15 h) ?_
          refine pj_X_of (fun r h => pj_R_to (G8, 34, [(4, .int (v4 + Int32.ofInt 1)), (3, .int (Int32.ofInt 1)), (0, .ref 27), (1, .ref 2), (2, .int dp)], [], 0, 0) 34 5 (fun _ => rfl) h) ?_
          obtain ⟨z17, hz17⟩ : ∃ z : Int32, z = v4 + Int32.ofInt 1 := ⟨_, rfl⟩
          rw [← hz17]
          have fz17_0 : z17.toInt = v4.toInt + (Int32.ofInt 1).toInt := by rw [hz17]; exact pj_addI (by have := pj_i32 v4; have := pj_i32 (Int32.ofInt 1); omega) (by have := pj_i32 v4; have := pj_i32 (Int32.ofInt 1); omega)
          refine pj_X_of (fun r h => pj_R_to (G8, 5, [(4, .int z17), (3, .int (Int32.ofInt 1)), (0, .ref 27), (1, .ref 2), (2, .int dp)], [], 0, 0) 5 2 (fun _ => rfl) h) ?_
          exact pj_X_sub [(0, .ref 27), (1, .ref 2), (2, .int dp), (3, .int (Int32.ofInt 1)), (4, .int z17)] (show List.Nodup [0, 1, 2, 3, 4] by decide) ⟨rfl, rfl, rfl, rfl, rfl, trivial⟩ (ih G8 iG8 kG8 (Int32.ofInt 1) z17 ⟨by omega, by omega⟩ ⟨by omega, by omega⟩ (by omega))
theorem ct_63_0 (G0 : pj_G) (hI : pj_Inv G0) (dp : Int32) (rdp : (0 : Int) ≤ dp.toInt ∧ dp.toInt ≤ 0) : pj_Y 42 63 [.ref 27, .ref 2, .int dp] G0 (fun v G' => v = none ∧ pj_Inv G' ∧ pj_kpt kc_63_0 G0 G') := by
  have c0_ : ((Int16.ofInt 2000).toInt32).toInt = 2000 := by decide
  have c1_ : ((Int8.ofInt 40).toInt32).toInt = 40 := by decide
  have c2_ : ((Int8.ofInt 45).toInt32).toInt = 45 := by decide
  have c3_ : (Int32.ofInt 0).toInt = 0 := by decide
  have c4_ : (Int32.ofInt 1).toInt = 1 := by decide
  refine pj_Y_X (M := pj_m63) rfl rfl (Nat.le_of_ble_eq_true rfl) ?_
  have hK : pj_kpt kc_63_0 G0 G0 := pj_kpt_r _ _
  show pj_X _ _ G0 0 [(0, .ref 27), (1, .ref 2), (2, .int dp)] [] _
  refine pj_X_of (fun r h => pj_R_to (G0, 5, [(4, .int (Int32.ofInt 0)), (3, .int (Int32.ofInt 0)), (0, .ref 27), (1, .ref 2), (2, .int dp)], [], 0, 0) 5 5 (fun _ => rfl) h) ?_
  exact pj_X_sub [(0, .ref 27), (1, .ref 2), (2, .int dp), (3, .int (Int32.ofInt 0)), (4, .int (Int32.ofInt 0))] (show List.Nodup [0, 1, 2, 3, 4] by decide) ⟨rfl, rfl, rfl, rfl, rfl, trivial⟩ ((lp_ct_63_0 G0 hI dp rdp 41) G0 hI hK (Int32.ofInt 0) (Int32.ofInt 0) ⟨by omega, by omega⟩ ⟨by omega, by omega⟩ (by omega))
def kc_62_3_0 : pj_KT := ([(2, 3), (2, 4), (27, 3)], [2, 27, 28, 29], [28, 29])
theorem ct_62_3_0 (G0 : pj_G) (hI : pj_Inv G0) (lv : Int32) (dp : Int32) (rlv : (3 : Int) ≤ lv.toInt ∧ lv.toInt ≤ 3) (rdp : (0 : Int) ≤ dp.toInt ∧ dp.toInt ≤ 0) : pj_Y 43 62 [.ref 27, .ref 2, .int lv, .int dp] G0 (fun v G' => v = none ∧ pj_Inv G' ∧ pj_kpt kc_62_3_0 G0 G') := by
  have c0_ : (Int32.ofInt 2).toInt = 2 := by decide
  refine pj_Y_X (M := pj_m62) rfl rfl (Nat.le_of_ble_eq_true rfl) ?_
  have hK : pj_kpt kc_62_3_0 G0 G0 := pj_kpt_r _ _
  show pj_X _ _ G0 0 [(0, .ref 27), (1, .ref 2), (2, .int lv), (3, .int dp)] [] _
  refine pj_X_of (fun r h => pj_R_to (G0, 2, [(0, .ref 27), (1, .ref 2), (2, .int lv), (3, .int dp)], [.int (Int32.ofInt 2), .int lv], 0, 0) 2 3 (fun _ => rfl) h) ?_
  refine pj_X_of (fun r h => pj_R_icF rfl (pj_b_leF (by omega)) h) ?_
  refine pj_X_of (fun r h => pj_R_to (G0, 8, [(0, .ref 27), (1, .ref 2), (2, .int lv), (3, .int dp)], [.int dp, .ref 2, .ref 27], 0, 0) 8 4 (fun _ => rfl) h) ?_
  refine pj_X_ca (vs := [.ref 27, .ref 2, .int dp]) rfl (fun _ => rfl) ⟨Nat.le_of_ble_eq_true rfl, Nat.le_of_ble_eq_true rfl, pj_T_rcv hI rfl⟩ ⟨rfl, rfl⟩ (pj_Y_up (by decide) (ct_63_0 G0 hI dp ⟨by omega, by omega⟩)) ?_
  rintro _ G2 ⟨rfl, iG2, jG2⟩
  have kG2 : pj_kpt kc_62_3_0 G0 G2 := pj_kpt_t hK (pj_kpt_s jG2 rfl)
  show pj_X _ _ G2 11 [(0, .ref 27), (1, .ref 2), (2, .int lv), (3, .int dp)] [] _
  exact pj_X_rt rfl rfl ⟨rfl, iG2, kG2⟩
def kc_62_2_0 : pj_KT := ([(2, 3), (2, 4), (27, 3)], [2, 27, 28, 29], [28, 29])
theorem lp_ct_62_2_0 (G0 : pj_G) (hI0 : pj_Inv G0) (lv : Int32) (dp : Int32) (rlv : (2 : Int) ≤ lv.toInt ∧ lv.toInt ≤ 2) (rdp : (0 : Int) ≤ dp.toInt ∧ dp.toInt ≤ 0) : ∀ mn : Nat, (∀ (G : pj_G) (hI : pj_Inv G) (hK : pj_kpt kc_62_2_0 G0 G) (v4 : Int32) (v5 : Int32), ((1 : Int) ≤ v4.toInt ∧ v4.toInt ≤ 40) → ((0 : Int) ≤ v5.toInt ∧ v5.toInt ≤ 40) → 40 - v5.toInt < (mn : Int) → pj_X 43 pj_m62 G 36 [(0, .ref 27), (1, .ref 2), (2, .int lv), (3, .int dp), (4, .int v4), (5, .int v5)] [] (fun v G' => v = none ∧ pj_Inv G' ∧ pj_kpt kc_62_2_0 G0 G')) := by
  have c0_ : ((Int16.ofInt 3000).toInt32).toInt = 3000 := by decide
  have c1_ : ((Int8.ofInt 40).toInt32).toInt = 40 := by decide
  have c2_ : (Int32.ofInt (-1)).toInt = -1 := by decide
  have c3_ : (Int32.ofInt 0).toInt = 0 := by decide
  have c4_ : (Int32.ofInt 1).toInt = 1 := by decide
  have c5_ : (Int32.ofInt 2).toInt = 2 := by decide
  intro mn
  induction mn with
  | zero =>
    intro G hI hK v4 v5 rv4 rv5 hm
    exfalso
    omega
  | succ mn ih =>
    intro G hI hK v4 v5 rv4 rv5 hm
    refine pj_X_of (fun r h => pj_R_to (G, 40, [(0, .ref 27), (1, .ref 2), (2, .int lv), (3, .int dp), (4, .int v4), (5, .int v5)], [.int v4, .int v5], 0, 0) 40 3 (fun _ => rfl) h) ?_
    cases b1 : pj_c1 .ge v5 v4 with
    | true =>
      have ub1 := pj_u_geT b1
      refine pj_X_of (fun r h => pj_R_icT 85 rfl rfl b1 h) ?_
      exact pj_X_rt rfl rfl ⟨rfl, hI, hK⟩
    | false =>
      have ub1 := pj_u_geF b1
      refine pj_X_of (fun r h => pj_R_icF rfl b1 h) ?_
      refine pj_X_of (fun r h => pj_R_to (G, 45, [(0, .ref 27), (1, .ref 2), (2, .int lv), (3, .int dp), (4, .int v4), (5, .int v5)], [.int lv, .ref 2], 0, 0) 45 3 (fun _ => rfl) h) ?_
      refine pj_X_ca (vs := [.int lv]) rfl (fun _ => rfl) ⟨Nat.le_of_ble_eq_true rfl, Nat.le_of_ble_eq_true rfl, rfl⟩ ⟨rfl, rfl⟩ (pj_Y_up (by decide) (ct_61_2 G hI lv ⟨by omega, by omega⟩)) ?_
      rintro _ _ ⟨rfl, rfl⟩
      show pj_X _ _ G 48 [(0, .ref 27), (1, .ref 2), (2, .int lv), (3, .int dp), (4, .int v4), (5, .int v5)] [.retAddr 7, .ref 2] _
      refine pj_X_ca (vs := [.ref 2, .retAddr 7]) rfl (fun _ => rfl) ⟨Nat.le_of_ble_eq_true rfl, Nat.le_of_ble_eq_true rfl, pj_T_rcv hI rfl⟩ ⟨rfl, rfl⟩ (pj_Y_up (by decide) (ct_84_s7 G hI)) ?_
      rintro _ G4 ⟨y3, rfl, iG4, jG4, ry3⟩
      have kG4 : pj_kpt kc_62_2_0 G0 G4 := pj_kpt_t hK (pj_kpt_s jG4 rfl)
      show pj_X _ _ G4 51 [(0, .ref 27), (1, .ref 2), (2, .int lv), (3, .int dp), (4, .int v4), (5, .int v5)] [.int y3] _
      refine pj_X_of (fun r h => pj_R_to (G4, 56, [(6, .int y3), (0, .ref 27), (1, .ref 2), (2, .int lv), (3, .int dp), (4, .int v4), (5, .int v5)], [.int (Int32.ofInt (-1)), .int y3], 0, 0) 56 4 (fun _ => rfl) h) ?_
      cases b5 : pj_c1 .ne y3 (Int32.ofInt (-1)) with
      | true =>
        have ub5 := pj_u_neT b5
        refine pj_X_of (fun r h => pj_R_icT 60 rfl rfl b5 h) ?_
        refine pj_X_of (fun r h => pj_R_to (G4, 65, [(6, .int y3), (0, .ref 27), (1, .ref 2), (2, .int lv), (3, .int dp), (4, .int v4), (5, .int v5)], [.int (lv + (Int32.ofInt 1)), .ref 2, .ref 27], 0, 0) 65 6 (fun _ => rfl) h) ?_
        obtain ⟨z6, hz6⟩ : ∃ z : Int32, z = lv + (Int32.ofInt 1) := ⟨_, rfl⟩
        rw [← hz6]
        have fz6_0 : z6.toInt = lv.toInt + (Int32.ofInt 1).toInt := by rw [hz6]; exact pj_addI (by have := pj_i32 lv; have := pj_i32 (Int32.ofInt 1); omega) (by have := pj_i32 lv; have := pj_i32 (Int32.ofInt 1); omega)
        refine pj_X_of (fun r h => pj_R_to (G4, 66, [(6, .int y3), (0, .ref 27), (1, .ref 2), (2, .int lv), (3, .int dp), (4, .int v4), (5, .int v5)], [.int dp, .int z6, .ref 2, .ref 27], 0, 0) 66 2 (fun _ => rfl) h) ?_
        refine pj_X_ca (vs := [.ref 27, .ref 2, .int z6, .int dp]) rfl (fun _ => rfl) ⟨Nat.le_of_ble_eq_true rfl, Nat.le_of_ble_eq_true rfl, pj_T_rcv iG4 rfl⟩ ⟨rfl, rfl⟩ (pj_Y_up (by decide) (ct_62_3_0 G4 iG4 z6 dp ⟨by omega, by omega⟩ ⟨by omega, by omega⟩)) ?_
        rintro _ G8 ⟨rfl, iG8, jG8⟩
        have kG8 : pj_kpt kc_62_2_0 G0 G8 := pj_kpt_t kG4 (pj_kpt_s jG8 rfl)
        show pj_X _ _ G8 69 [(6, .int y3), (0, .ref 27), (1, .ref 2), (2, .int lv), (3, .int dp), (4, .int v4), (5, .int v5)] [] _
        refine pj_X_of (fun r h => pj_R_to (G8, 76, [(6, .int y3), (0, .ref 27), (1, .ref 2), (2, .int lv), (3, .int dp), (4, .int v4), (5, .int v5)], [.int (((Int16.ofInt 3000).toInt32) + y3), .ref 27], 0, 0) 76 5 (fun _ => rfl) h) ?_
        obtain ⟨z9, hz9⟩ : ∃ z : Int32, z = ((Int16.ofInt 3000).toInt32) + y3 := ⟨_, rfl⟩
        rw [← hz9]
        have fz9_0 : z9.toInt = ((Int16.ofInt 3000).toInt32).toInt + y3.toInt := by rw [hz9]; exact pj_addI (by have := pj_i32 ((Int16.ofInt 3000).toInt32); have := pj_i32 y3; omega) (by have := pj_i32 ((Int16.ofInt 3000).toInt32); have := pj_i32 y3; omega)
        refine pj_X_ca (vs := [.ref 27, .int z9]) rfl (fun _ => rfl) ⟨Nat.le_of_ble_eq_true rfl, Nat.le_of_ble_eq_true rfl, pj_T_rcv iG8 rfl⟩ ⟨rfl, rfl⟩ (pj_Y_up (by decide) (ct_60 G8 iG8 z9 (by omega))) ?_
        rintro _ G11 ⟨rfl, iG11, jG11⟩
        have kG11 : pj_kpt kc_62_2_0 G0 G11 := pj_kpt_t kG8 (pj_kpt_s jG11 rfl)
        show pj_X _ _ G11 79 [(6, .int y3), (0, .ref 27), (1, .ref 2), (2, .int lv), (3, .int dp), (4, .int v4), (5, .int v5)] [] _
        refine pj_X_of (fun r h => pj_R_to (G11, 82, [(5, .int (v5 + Int32.ofInt 1)), (6, .int y3), (0, .ref 27), (1, .ref 2), (2, .int lv), (3, .int dp), (4, .int v4)], [], 0, 0) 82 2 (fun _ => rfl) h) ?_
        obtain ⟨z12, hz12⟩ : ∃ z : Int32, z = v5 + Int32.ofInt 1 := ⟨_, rfl⟩
        rw [← hz12]
        have fz12_0 : z12.toInt = v5.toInt + (Int32.ofInt 1).toInt := by rw [hz12]; exact pj_addI (by have := pj_i32 v5; have := pj_i32 (Int32.ofInt 1); omega) (by have := pj_i32 v5; have := pj_i32 (Int32.ofInt 1); omega)
        refine pj_X_of (fun r h => pj_R_to (G11, 36, [(5, .int z12), (6, .int y3), (0, .ref 27), (1, .ref 2), (2, .int lv), (3, .int dp), (4, .int v4)], [], 0, 0) 36 2 (fun _ => rfl) h) ?_
        exact pj_X_sub [(0, .ref 27), (1, .ref 2), (2, .int lv), (3, .int dp), (4, .int v4), (5, .int z12)] (show List.Nodup [0, 1, 2, 3, 4, 5] by decide) ⟨rfl, rfl, rfl, rfl, rfl, rfl, trivial⟩ (ih G11 iG11 kG11 v4 z12 ⟨by omega, by omega⟩ ⟨by omega, by omega⟩ (by omega))
      | false =>
        have ub5 := pj_u_neF b5
        refine pj_X_of (fun r h => pj_R_icF rfl b5 h) ?_
        exact pj_X_rt rfl rfl ⟨rfl, iG4, kG4⟩
theorem ct_62_2_0 (G0 : pj_G) (hI : pj_Inv G0) (lv : Int32) (dp : Int32) (rlv : (2 : Int) ≤ lv.toInt ∧ lv.toInt ≤ 2) (rdp : (0 : Int) ≤ dp.toInt ∧ dp.toInt ≤ 0) : pj_Y 44 62 [.ref 27, .ref 2, .int lv, .int dp] G0 (fun v G' => v = none ∧ pj_Inv G' ∧ pj_kpt kc_62_2_0 G0 G') := by
  have c0_ : ((Int16.ofInt 3000).toInt32).toInt = 3000 := by decide
  have c1_ : ((Int8.ofInt 40).toInt32).toInt = 40 := by decide
  have c2_ : (Int32.ofInt (-1)).toInt = -1 := by decide
  have c3_ : (Int32.ofInt 0).toInt = 0 := by decide
  have c4_ : (Int32.ofInt 1).toInt = 1 := by decide
  have c5_ : (Int32.ofInt 2).toInt = 2 := by decide
  refine pj_Y_X (M := pj_m62) rfl rfl (Nat.le_of_ble_eq_true rfl) ?_
  have hK : pj_kpt kc_62_2_0 G0 G0 := pj_kpt_r _ _
  show pj_X _ _ G0 0 [(0, .ref 27), (1, .ref 2), (2, .int lv), (3, .int dp)] [] _
  refine pj_X_of (fun r h => pj_R_to (G0, 2, [(0, .ref 27), (1, .ref 2), (2, .int lv), (3, .int dp)], [.int (Int32.ofInt 2), .int lv], 0, 0) 2 3 (fun _ => rfl) h) ?_
  refine pj_X_of (fun r h => pj_R_icT 12 rfl rfl (pj_b_leT (by omega)) h) ?_
  refine pj_X_of (fun r h => pj_R_to (G0, 17, [(0, .ref 27), (1, .ref 2), (2, .int lv), (3, .int dp)], [.int (lv + (Int32.ofInt 1)), .ref 2, .ref 27], 0, 0) 17 6 (fun _ => rfl) h) ?_
  obtain ⟨z13, hz13⟩ : ∃ z : Int32, z = lv + (Int32.ofInt 1) := ⟨_, rfl⟩
  rw [← hz13]
  have fz13_0 : z13.toInt = lv.toInt + (Int32.ofInt 1).toInt := by rw [hz13]; exact pj_addI (by have := pj_i32 lv; have := pj_i32 (Int32.ofInt 1); omega) (by have := pj_i32 lv; have := pj_i32 (Int32.ofInt 1); omega)
  refine pj_X_of (fun r h => pj_R_to (G0, 18, [(0, .ref 27), (1, .ref 2), (2, .int lv), (3, .int dp)], [.int dp, .int z13, .ref 2, .ref 27], 0, 0) 18 2 (fun _ => rfl) h) ?_
  refine pj_X_ca (vs := [.ref 27, .ref 2, .int z13, .int dp]) rfl (fun _ => rfl) ⟨Nat.le_of_ble_eq_true rfl, Nat.le_of_ble_eq_true rfl, pj_T_rcv hI rfl⟩ ⟨rfl, rfl⟩ (pj_Y_up (by decide) (ct_62_3_0 G0 hI z13 dp ⟨by omega, by omega⟩ ⟨by omega, by omega⟩)) ?_
  rintro _ G15 ⟨rfl, iG15, jG15⟩
  have kG15 : pj_kpt kc_62_2_0 G0 G15 := pj_kpt_t hK (pj_kpt_s jG15 rfl)
  show pj_X _ _ G15 21 [(0, .ref 27), (1, .ref 2), (2, .int lv), (3, .int dp)] [] _
  refine pj_X_of (fun r h => pj_R_to (G15, 22, [(0, .ref 27), (1, .ref 2), (2, .int lv), (3, .int dp)], [.int lv], 0, 0) 22 2 (fun _ => rfl) h) ?_
  refine pj_X_of (fun r h => pj_R_ifT 29 rfl rfl (pj_b0_neT (by omega)) h) ?_
  refine pj_X_of (fun r h => pj_R_to (G15, 36, [(5, .int (Int32.ofInt 0)), (4, .int ((Int8.ofInt 40).toInt32)), (0, .ref 27), (1, .ref 2), (2, .int lv), (3, .int dp)], [], 0, 0) 36 5 (fun _ => rfl) h) ?_
  exact pj_X_sub [(0, .ref 27), (1, .ref 2), (2, .int lv), (3, .int dp), (4, .int ((Int8.ofInt 40).toInt32)), (5, .int (Int32.ofInt 0))] (show List.Nodup [0, 1, 2, 3, 4, 5] by decide) ⟨rfl, rfl, rfl, rfl, rfl, rfl, trivial⟩ ((lp_ct_62_2_0 G0 hI lv dp rlv rdp 41) G15 iG15 kG15 ((Int8.ofInt 40).toInt32) (Int32.ofInt 0) ⟨by omega, by omega⟩ ⟨by omega, by omega⟩ (by omega))
def kc_62_1_0 : pj_KT := ([(2, 3), (2, 4), (27, 3)], [2, 27, 28, 29], [28, 29])
theorem lp_ct_62_1_0 (G0 : pj_G) (hI0 : pj_Inv G0) (lv : Int32) (dp : Int32) (rlv : (1 : Int) ≤ lv.toInt ∧ lv.toInt ≤ 1) (rdp : (0 : Int) ≤ dp.toInt ∧ dp.toInt ≤ 0) : ∀ mn : Nat, (∀ (G : pj_G) (hI : pj_Inv G) (hK : pj_kpt kc_62_1_0 G0 G) (v4 : Int32) (v5 : Int32), ((1 : Int) ≤ v4.toInt ∧ v4.toInt ≤ 40) → ((0 : Int) ≤ v5.toInt ∧ v5.toInt ≤ 40) → 40 - v5.toInt < (mn : Int) → pj_X 44 pj_m62 G 36 [(0, .ref 27), (1, .ref 2), (2, .int lv), (3, .int dp), (4, .int v4), (5, .int v5)] [] (fun v G' => v = none ∧ pj_Inv G' ∧ pj_kpt kc_62_1_0 G0 G')) := by
  have c0_ : ((Int16.ofInt 3000).toInt32).toInt = 3000 := by decide
  have c1_ : ((Int8.ofInt 40).toInt32).toInt = 40 := by decide
  have c2_ : (Int32.ofInt (-1)).toInt = -1 := by decide
  have c3_ : (Int32.ofInt 0).toInt = 0 := by decide
  have c4_ : (Int32.ofInt 1).toInt = 1 := by decide
  have c5_ : (Int32.ofInt 2).toInt = 2 := by decide
  intro mn
  induction mn with
  | zero =>
    intro G hI hK v4 v5 rv4 rv5 hm
    exfalso
    omega
  | succ mn ih =>
    intro G hI hK v4 v5 rv4 rv5 hm
    refine pj_X_of (fun r h => pj_R_to (G, 40, [(0, .ref 27), (1, .ref 2), (2, .int lv), (3, .int dp), (4, .int v4), (5, .int v5)], [.int v4, .int v5], 0, 0) 40 3 (fun _ => rfl) h) ?_
    cases b1 : pj_c1 .ge v5 v4 with
    | true =>
      have ub1 := pj_u_geT b1
      refine pj_X_of (fun r h => pj_R_icT 85 rfl rfl b1 h) ?_
      exact pj_X_rt rfl rfl ⟨rfl, hI, hK⟩
    | false =>
      have ub1 := pj_u_geF b1
      refine pj_X_of (fun r h => pj_R_icF rfl b1 h) ?_
      refine pj_X_of (fun r h => pj_R_to (G, 45, [(0, .ref 27), (1, .ref 2), (2, .int lv), (3, .int dp), (4, .int v4), (5, .int v5)], [.int lv, .ref 2], 0, 0) 45 3 (fun _ => rfl) h) ?_
      refine pj_X_ca (vs := [.int lv]) rfl (fun _ => rfl) ⟨Nat.le_of_ble_eq_true rfl, Nat.le_of_ble_eq_true rfl, rfl⟩ ⟨rfl, rfl⟩ (pj_Y_up (by decide) (ct_61_1 G hI lv ⟨by omega, by omega⟩)) ?_
      rintro _ _ ⟨rfl, rfl⟩
      show pj_X _ _ G 48 [(0, .ref 27), (1, .ref 2), (2, .int lv), (3, .int dp), (4, .int v4), (5, .int v5)] [.retAddr 6, .ref 2] _
      refine pj_X_ca (vs := [.ref 2, .retAddr 6]) rfl (fun _ => rfl) ⟨Nat.le_of_ble_eq_true rfl, Nat.le_of_ble_eq_true rfl, pj_T_rcv hI rfl⟩ ⟨rfl, rfl⟩ (pj_Y_up (by decide) (ct_84_s6 G hI)) ?_
      rintro _ G4 ⟨y3, rfl, iG4, jG4, ry3⟩
      have kG4 : pj_kpt kc_62_1_0 G0 G4 := pj_kpt_t hK (pj_kpt_s jG4 rfl)
      show pj_X _ _ G4 51 [(0, .ref 27), (1, .ref 2), (2, .int lv), (3, .int dp), (4, .int v4), (5, .int v5)] [.int y3] _
      refine pj_X_of (fun r h => pj_R_to (G4, 56, [(6, .int y3), (0, .ref 27), (1, .ref 2), (2, .int lv), (3, .int dp), (4, .int v4), (5, .int v5)], [.int (Int32.ofInt (-1)), .int y3], 0, 0) 56 4 (fun _ => rfl) h) ?_
      cases b5 : pj_c1 .ne y3 (Int32.ofInt (-1)) with
      | true =>
        have ub5 := pj_u_neT b5
        refine pj_X_of (fun r h => pj_R_icT 60 rfl rfl b5 h) ?_
        refine pj_X_of (fun r h => pj_R_to (G4, 65, [(6, .int y3), (0, .ref 27), (1, .ref 2), (2, .int lv), (3, .int dp), (4, .int v4), (5, .int v5)], [.int (lv + (Int32.ofInt 1)), .ref 2, .ref 27], 0, 0) 65 6 (fun _ => rfl) h) ?_
        obtain ⟨z6, hz6⟩ : ∃ z : Int32, z = lv + (Int32.ofInt 1) := ⟨_, rfl⟩
        rw [← hz6]
        have fz6_0 : z6.toInt = lv.toInt + (Int32.ofInt 1).toInt := by rw [hz6]; exact pj_addI (by have := pj_i32 lv; have := pj_i32 (Int32.ofInt 1); omega) (by have := pj_i32 lv; have := pj_i32 (Int32.ofInt 1); omega)
        refine pj_X_of (fun r h => pj_R_to (G4, 66, [(6, .int y3), (0, .ref 27), (1, .ref 2), (2, .int lv), (3, .int dp), (4, .int v4), (5, .int v5)], [.int dp, .int z6, .ref 2, .ref 27], 0, 0) 66 2 (fun _ => rfl) h) ?_
        refine pj_X_ca (vs := [.ref 27, .ref 2, .int z6, .int dp]) rfl (fun _ => rfl) ⟨Nat.le_of_ble_eq_true rfl, Nat.le_of_ble_eq_true rfl, pj_T_rcv iG4 rfl⟩ ⟨rfl, rfl⟩ (pj_Y_up (by decide) (ct_62_2_0 G4 iG4 z6 dp ⟨by omega, by omega⟩ ⟨by omega, by omega⟩)) ?_
        rintro _ G8 ⟨rfl, iG8, jG8⟩
        have kG8 : pj_kpt kc_62_1_0 G0 G8 := pj_kpt_t kG4 (pj_kpt_s jG8 rfl)
        show pj_X _ _ G8 69 [(6, .int y3), (0, .ref 27), (1, .ref 2), (2, .int lv), (3, .int dp), (4, .int v4), (5, .int v5)] [] _
        refine pj_X_of (fun r h => pj_R_to (G8, 76, [(6, .int y3), (0, .ref 27), (1, .ref 2), (2, .int lv), (3, .int dp), (4, .int v4), (5, .int v5)], [.int (((Int16.ofInt 3000).toInt32) + y3), .ref 27], 0, 0) 76 5 (fun _ => rfl) h) ?_
        obtain ⟨z9, hz9⟩ : ∃ z : Int32, z = ((Int16.ofInt 3000).toInt32) + y3 := ⟨_, rfl⟩
        rw [← hz9]
        have fz9_0 : z9.toInt = ((Int16.ofInt 3000).toInt32).toInt + y3.toInt := by rw [hz9]; exact pj_addI (by have := pj_i32 ((Int16.ofInt 3000).toInt32); have := pj_i32 y3; omega) (by have := pj_i32 ((Int16.ofInt 3000).toInt32); have := pj_i32 y3; omega)
        refine pj_X_ca (vs := [.ref 27, .int z9]) rfl (fun _ => rfl) ⟨Nat.le_of_ble_eq_true rfl, Nat.le_of_ble_eq_true rfl, pj_T_rcv iG8 rfl⟩ ⟨rfl, rfl⟩ (pj_Y_up (by decide) (ct_60 G8 iG8 z9 (by omega))) ?_
        rintro _ G11 ⟨rfl, iG11, jG11⟩
        have kG11 : pj_kpt kc_62_1_0 G0 G11 := pj_kpt_t kG8 (pj_kpt_s jG11 rfl)
        show pj_X _ _ G11 79 [(6, .int y3), (0, .ref 27), (1, .ref 2), (2, .int lv), (3, .int dp), (4, .int v4), (5, .int v5)] [] _
        refine pj_X_of (fun r h => pj_R_to (G11, 82, [(5, .int (v5 + Int32.ofInt 1)), (6, .int y3), (0, .ref 27), (1, .ref 2), (2, .int lv), (3, .int dp), (4, .int v4)], [], 0, 0) 82 2 (fun _ => rfl) h) ?_
        obtain ⟨z12, hz12⟩ : ∃ z : Int32, z = v5 + Int32.ofInt 1 := ⟨_, rfl⟩
        rw [← hz12]
        have fz12_0 : z12.toInt = v5.toInt + (Int32.ofInt 1).toInt := by rw [hz12]; exact pj_addI (by have := pj_i32 v5; have := pj_i32 (Int32.ofInt 1); omega) (by have := pj_i32 v5; have := pj_i32 (Int32.ofInt 1); omega)
        refine pj_X_of (fun r h => pj_R_to (G11, 36, [(5, .int z12), (6, .int y3), (0, .ref 27), (1, .ref 2), (2, .int lv), (3, .int dp), (4, .int v4)], [], 0, 0) 36 2 (fun _ => rfl) h) ?_
        exact pj_X_sub [(0, .ref 27), (1, .ref 2), (2, .int lv), (3, .int dp), (4, .int v4), (5, .int z12)] (show List.Nodup [0, 1, 2, 3, 4, 5] by decide) ⟨rfl, rfl, rfl, rfl, rfl, rfl, trivial⟩ (ih G11 iG11 kG11 v4 z12 ⟨by omega, by omega⟩ ⟨by omega, by omega⟩ (by omega))
      | false =>
        have ub5 := pj_u_neF b5
        refine pj_X_of (fun r h => pj_R_icF rfl b5 h) ?_
        exact pj_X_rt rfl rfl ⟨rfl, iG4, kG4⟩
theorem ct_62_1_0 (G0 : pj_G) (hI : pj_Inv G0) (lv : Int32) (dp : Int32) (rlv : (1 : Int) ≤ lv.toInt ∧ lv.toInt ≤ 1) (rdp : (0 : Int) ≤ dp.toInt ∧ dp.toInt ≤ 0) : pj_Y 45 62 [.ref 27, .ref 2, .int lv, .int dp] G0 (fun v G' => v = none ∧ pj_Inv G' ∧ pj_kpt kc_62_1_0 G0 G') := by
  have c0_ : ((Int16.ofInt 3000).toInt32).toInt = 3000 := by decide
  have c1_ : ((Int8.ofInt 40).toInt32).toInt = 40 := by decide
  have c2_ : (Int32.ofInt (-1)).toInt = -1 := by decide
  have c3_ : (Int32.ofInt 0).toInt = 0 := by decide
  have c4_ : (Int32.ofInt 1).toInt = 1 := by decide
  have c5_ : (Int32.ofInt 2).toInt = 2 := by decide
  refine pj_Y_X (M := pj_m62) rfl rfl (Nat.le_of_ble_eq_true rfl) ?_
  have hK : pj_kpt kc_62_1_0 G0 G0 := pj_kpt_r _ _
  show pj_X _ _ G0 0 [(0, .ref 27), (1, .ref 2), (2, .int lv), (3, .int dp)] [] _
  refine pj_X_of (fun r h => pj_R_to (G0, 2, [(0, .ref 27), (1, .ref 2), (2, .int lv), (3, .int dp)], [.int (Int32.ofInt 2), .int lv], 0, 0) 2 3 (fun _ => rfl) h) ?_
  refine pj_X_of (fun r h => pj_R_icT 12 rfl rfl (pj_b_leT (by omega)) h) ?_
  refine pj_X_of (fun r h => pj_R_to (G0, 17, [(0, .ref 27), (1, .ref 2), (2, .int lv), (3, .int dp)], [.int (lv + (Int32.ofInt 1)), .ref 2, .ref 27], 0, 0) 17 6 (fun _ => rfl) h) ?_
  obtain ⟨z13, hz13⟩ : ∃ z : Int32, z = lv + (Int32.ofInt 1) := ⟨_, rfl⟩
  rw [← hz13]
  have fz13_0 : z13.toInt = lv.toInt + (Int32.ofInt 1).toInt := by rw [hz13]; exact pj_addI (by have := pj_i32 lv; have := pj_i32 (Int32.ofInt 1); omega) (by have := pj_i32 lv; have := pj_i32 (Int32.ofInt 1); omega)
  refine pj_X_of (fun r h => pj_R_to (G0, 18, [(0, .ref 27), (1, .ref 2), (2, .int lv), (3, .int dp)], [.int dp, .int z13, .ref 2, .ref 27], 0, 0) 18 2 (fun _ => rfl) h) ?_
  refine pj_X_ca (vs := [.ref 27, .ref 2, .int z13, .int dp]) rfl (fun _ => rfl) ⟨Nat.le_of_ble_eq_true rfl, Nat.le_of_ble_eq_true rfl, pj_T_rcv hI rfl⟩ ⟨rfl, rfl⟩ (pj_Y_up (by decide) (ct_62_2_0 G0 hI z13 dp ⟨by omega, by omega⟩ ⟨by omega, by omega⟩)) ?_
  rintro _ G15 ⟨rfl, iG15, jG15⟩
  have kG15 : pj_kpt kc_62_1_0 G0 G15 := pj_kpt_t hK (pj_kpt_s jG15 rfl)
  show pj_X _ _ G15 21 [(0, .ref 27), (1, .ref 2), (2, .int lv), (3, .int dp)] [] _
  refine pj_X_of (fun r h => pj_R_to (G15, 22, [(0, .ref 27), (1, .ref 2), (2, .int lv), (3, .int dp)], [.int lv], 0, 0) 22 2 (fun _ => rfl) h) ?_
  refine pj_X_of (fun r h => pj_R_ifT 29 rfl rfl (pj_b0_neT (by omega)) h) ?_
  refine pj_X_of (fun r h => pj_R_to (G15, 36, [(5, .int (Int32.ofInt 0)), (4, .int ((Int8.ofInt 40).toInt32)), (0, .ref 27), (1, .ref 2), (2, .int lv), (3, .int dp)], [], 0, 0) 36 5 (fun _ => rfl) h) ?_
  exact pj_X_sub [(0, .ref 27), (1, .ref 2), (2, .int lv), (3, .int dp), (4, .int ((Int8.ofInt 40).toInt32)), (5, .int (Int32.ofInt 0))] (show List.Nodup [0, 1, 2, 3, 4, 5] by decide) ⟨rfl, rfl, rfl, rfl, rfl, rfl, trivial⟩ ((lp_ct_62_1_0 G0 hI lv dp rlv rdp 41) G15 iG15 kG15 ((Int8.ofInt 40).toInt32) (Int32.ofInt 0) ⟨by omega, by omega⟩ ⟨by omega, by omega⟩ (by omega))
def kc_62_0_0 : pj_KT := ([(2, 3), (2, 4), (27, 3)], [2, 27, 28, 29], [28, 29])
theorem lp_ct_62_0_0 (G0 : pj_G) (hI0 : pj_Inv G0) (lv : Int32) (dp : Int32) (rlv : (0 : Int) ≤ lv.toInt ∧ lv.toInt ≤ 0) (rdp : (0 : Int) ≤ dp.toInt ∧ dp.toInt ≤ 0) : ∀ mn : Nat, (∀ (G : pj_G) (hI : pj_Inv G) (hK : pj_kpt kc_62_0_0 G0 G) (v4 : Int32) (v5 : Int32), ((1 : Int) ≤ v4.toInt ∧ v4.toInt ≤ 40) → ((0 : Int) ≤ v5.toInt ∧ v5.toInt ≤ 40) → 40 - v5.toInt < (mn : Int) → pj_X 45 pj_m62 G 36 [(0, .ref 27), (1, .ref 2), (2, .int lv), (3, .int dp), (4, .int v4), (5, .int v5)] [] (fun v G' => v = none ∧ pj_Inv G' ∧ pj_kpt kc_62_0_0 G0 G')) := by
  have c0_ : ((Int16.ofInt 3000).toInt32).toInt = 3000 := by decide
  have c1_ : (Int32.ofInt (-1)).toInt = -1 := by decide
  have c2_ : (Int32.ofInt 0).toInt = 0 := by decide
  have c3_ : (Int32.ofInt 1).toInt = 1 := by decide
  have c4_ : (Int32.ofInt 2).toInt = 2 := by decide
  intro mn
  induction mn with
  | zero =>
    intro G hI hK v4 v5 rv4 rv5 hm
    exfalso
    omega
  | succ mn ih =>
    intro G hI hK v4 v5 rv4 rv5 hm
    refine pj_X_of (fun r h => pj_R_to (G, 40, [(0, .ref 27), (1, .ref 2), (2, .int lv), (3, .int dp), (4, .int v4), (5, .int v5)], [.int v4, .int v5], 0, 0) 40 3 (fun _ => rfl) h) ?_
    cases b1 : pj_c1 .ge v5 v4 with
    | true =>
      have ub1 := pj_u_geT b1
      refine pj_X_of (fun r h => pj_R_icT 85 rfl rfl b1 h) ?_
      exact pj_X_rt rfl rfl ⟨rfl, hI, hK⟩
    | false =>
      have ub1 := pj_u_geF b1
      refine pj_X_of (fun r h => pj_R_icF rfl b1 h) ?_
      refine pj_X_of (fun r h => pj_R_to (G, 45, [(0, .ref 27), (1, .ref 2), (2, .int lv), (3, .int dp), (4, .int v4), (5, .int v5)], [.int lv, .ref 2], 0, 0) 45 3 (fun _ => rfl) h) ?_
      refine pj_X_ca (vs := [.int lv]) rfl (fun _ => rfl) ⟨Nat.le_of_ble_eq_true rfl, Nat.le_of_ble_eq_true rfl, rfl⟩ ⟨rfl, rfl⟩ (pj_Y_up (by decide) (ct_61_0 G hI lv ⟨by omega, by omega⟩)) ?_
      rintro _ _ ⟨rfl, rfl⟩
      show pj_X _ _ G 48 [(0, .ref 27), (1, .ref 2), (2, .int lv), (3, .int dp), (4, .int v4), (5, .int v5)] [.retAddr 5, .ref 2] _
      refine pj_X_ca (vs := [.ref 2, .retAddr 5]) rfl (fun _ => rfl) ⟨Nat.le_of_ble_eq_true rfl, Nat.le_of_ble_eq_true rfl, pj_T_rcv hI rfl⟩ ⟨rfl, rfl⟩ (pj_Y_up (by decide) (ct_84_s5 G hI)) ?_
      rintro _ G4 ⟨y3, rfl, iG4, jG4, ry3⟩
      have kG4 : pj_kpt kc_62_0_0 G0 G4 := pj_kpt_t hK (pj_kpt_s jG4 rfl)
      show pj_X _ _ G4 51 [(0, .ref 27), (1, .ref 2), (2, .int lv), (3, .int dp), (4, .int v4), (5, .int v5)] [.int y3] _
      refine pj_X_of (fun r h => pj_R_to (G4, 56, [(6, .int y3), (0, .ref 27), (1, .ref 2), (2, .int lv), (3, .int dp), (4, .int v4), (5, .int v5)], [.int (Int32.ofInt (-1)), .int y3], 0, 0) 56 4 (fun _ => rfl) h) ?_
      cases b5 : pj_c1 .ne y3 (Int32.ofInt (-1)) with
      | true =>
        have ub5 := pj_u_neT b5
        refine pj_X_of (fun r h => pj_R_icT 60 rfl rfl b5 h) ?_
        refine pj_X_of (fun r h => pj_R_to (G4, 65, [(6, .int y3), (0, .ref 27), (1, .ref 2), (2, .int lv), (3, .int dp), (4, .int v4), (5, .int v5)], [.int (lv + (Int32.ofInt 1)), .ref 2, .ref 27], 0, 0) 65 6 (fun _ => rfl) h) ?_
        obtain ⟨z6, hz6⟩ : ∃ z : Int32, z = lv + (Int32.ofInt 1) := ⟨_, rfl⟩
        rw [← hz6]
        have fz6_0 : z6.toInt = lv.toInt + (Int32.ofInt 1).toInt := by rw [hz6]; exact pj_addI (by have := pj_i32 lv; have := pj_i32 (Int32.ofInt 1); omega) (by have := pj_i32 lv; have := pj_i32 (Int32.ofInt 1); omega)
        refine pj_X_of (fun r h => pj_R_to (G4, 66, [(6, .int y3), (0, .ref 27), (1, .ref 2), (2, .int lv), (3, .int dp), (4, .int v4), (5, .int v5)], [.int dp, .int z6, .ref 2, .ref 27], 0, 0) 66 2 (fun _ => rfl) h) ?_
        refine pj_X_ca (vs := [.ref 27, .ref 2, .int z6, .int dp]) rfl (fun _ => rfl) ⟨Nat.le_of_ble_eq_true rfl, Nat.le_of_ble_eq_true rfl, pj_T_rcv iG4 rfl⟩ ⟨rfl, rfl⟩ (pj_Y_up (by decide) (ct_62_1_0 G4 iG4 z6 dp ⟨by omega, by omega⟩ ⟨by omega, by omega⟩)) ?_
        rintro _ G8 ⟨rfl, iG8, jG8⟩
        have kG8 : pj_kpt kc_62_0_0 G0 G8 := pj_kpt_t kG4 (pj_kpt_s jG8 rfl)
        show pj_X _ _ G8 69 [(6, .int y3), (0, .ref 27), (1, .ref 2), (2, .int lv), (3, .int dp), (4, .int v4), (5, .int v5)] [] _
        refine pj_X_of (fun r h => pj_R_to (G8, 76, [(6, .int y3), (0, .ref 27), (1, .ref 2), (2, .int lv), (3, .int dp), (4, .int v4), (5, .int v5)], [.int (((Int16.ofInt 3000).toInt32) + y3), .ref 27], 0, 0) 76 5 (fun _ => rfl) h) ?_
        obtain ⟨z9, hz9⟩ : ∃ z : Int32, z = ((Int16.ofInt 3000).toInt32) + y3 := ⟨_, rfl⟩
        rw [← hz9]
        have fz9_0 : z9.toInt = ((Int16.ofInt 3000).toInt32).toInt + y3.toInt := by rw [hz9]; exact pj_addI (by have := pj_i32 ((Int16.ofInt 3000).toInt32); have := pj_i32 y3; omega) (by have := pj_i32 ((Int16.ofInt 3000).toInt32); have := pj_i32 y3; omega)
        refine pj_X_ca (vs := [.ref 27, .int z9]) rfl (fun _ => rfl) ⟨Nat.le_of_ble_eq_true rfl, Nat.le_of_ble_eq_true rfl, pj_T_rcv iG8 rfl⟩ ⟨rfl, rfl⟩ (pj_Y_up (by decide) (ct_60 G8 iG8 z9 (by omega))) ?_
        rintro _ G11 ⟨rfl, iG11, jG11⟩
        have kG11 : pj_kpt kc_62_0_0 G0 G11 := pj_kpt_t kG8 (pj_kpt_s jG11 rfl)
        show pj_X _ _ G11 79 [(6, .int y3), (0, .ref 27), (1, .ref 2), (2, .int lv), (3, .int dp), (4, .int v4), (5, .int v5)] [] _
        refine pj_X_of (fun r h => pj_R_to (G11, 82, [(5, .int (v5 + Int32.ofInt 1)), (6, .int y3), (0, .ref 27), (1, .ref 2), (2, .int lv), (3, .int dp), (4, .int v4)], [], 0, 0) 82 2 (fun _ => rfl) h) ?_
        obtain ⟨z12, hz12⟩ : ∃ z : Int32, z = v5 + Int32.ofInt 1 := ⟨_, rfl⟩
        rw [← hz12]
        have fz12_0 : z12.toInt = v5.toInt + (Int32.ofInt 1).toInt := by rw [hz12]; exact pj_addI (by have := pj_i32 v5; have := pj_i32 (Int32.ofInt 1); omega) (by have := pj_i32 v5; have := pj_i32 (Int32.ofInt 1); omega)
        refine pj_X_of (fun r h => pj_R_to (G11, 36, [(5, .int z12), (6, .int y3), (0, .ref 27), (1, .ref 2), (2, .int lv), (3, .int dp), (4, .int v4)], [], 0, 0) 36 2 (fun _ => rfl) h) ?_
        exact pj_X_sub [(0, .ref 27), (1, .ref 2), (2, .int lv), (3, .int dp), (4, .int v4), (5, .int z12)] (show List.Nodup [0, 1, 2, 3, 4, 5] by decide) ⟨rfl, rfl, rfl, rfl, rfl, rfl, trivial⟩ (ih G11 iG11 kG11 v4 z12 ⟨by omega, by omega⟩ ⟨by omega, by omega⟩ (by omega))
      | false =>
        have ub5 := pj_u_neF b5
        refine pj_X_of (fun r h => pj_R_icF rfl b5 h) ?_
        exact pj_X_rt rfl rfl ⟨rfl, iG4, kG4⟩
theorem ct_62_0_0 (G0 : pj_G) (hI : pj_Inv G0) (lv : Int32) (dp : Int32) (rlv : (0 : Int) ≤ lv.toInt ∧ lv.toInt ≤ 0) (rdp : (0 : Int) ≤ dp.toInt ∧ dp.toInt ≤ 0) : pj_Y 46 62 [.ref 27, .ref 2, .int lv, .int dp] G0 (fun v G' => v = none ∧ pj_Inv G' ∧ pj_kpt kc_62_0_0 G0 G') := by
  have c0_ : ((Int16.ofInt 3000).toInt32).toInt = 3000 := by decide
  have c1_ : (Int32.ofInt (-1)).toInt = -1 := by decide
  have c2_ : (Int32.ofInt 0).toInt = 0 := by decide
  have c3_ : (Int32.ofInt 1).toInt = 1 := by decide
  have c4_ : (Int32.ofInt 2).toInt = 2 := by decide
  refine pj_Y_X (M := pj_m62) rfl rfl (Nat.le_of_ble_eq_true rfl) ?_
  have hK : pj_kpt kc_62_0_0 G0 G0 := pj_kpt_r _ _
  show pj_X _ _ G0 0 [(0, .ref 27), (1, .ref 2), (2, .int lv), (3, .int dp)] [] _
  refine pj_X_of (fun r h => pj_R_to (G0, 2, [(0, .ref 27), (1, .ref 2), (2, .int lv), (3, .int dp)], [.int (Int32.ofInt 2), .int lv], 0, 0) 2 3 (fun _ => rfl) h) ?_
  refine pj_X_of (fun r h => pj_R_icT 12 rfl rfl (pj_b_leT (by omega)) h) ?_
  refine pj_X_of (fun r h => pj_R_to (G0, 17, [(0, .ref 27), (1, .ref 2), (2, .int lv), (3, .int dp)], [.int (lv + (Int32.ofInt 1)), .ref 2, .ref 27], 0, 0) 17 6 (fun _ => rfl) h) ?_
  obtain ⟨z13, hz13⟩ : ∃ z : Int32, z = lv + (Int32.ofInt 1) := ⟨_, rfl⟩
  rw [← hz13]
  have fz13_0 : z13.toInt = lv.toInt + (Int32.ofInt 1).toInt := by rw [hz13]; exact pj_addI (by have := pj_i32 lv; have := pj_i32 (Int32.ofInt 1); omega) (by have := pj_i32 lv; have := pj_i32 (Int32.ofInt 1); omega)
  refine pj_X_of (fun r h => pj_R_to (G0, 18, [(0, .ref 27), (1, .ref 2), (2, .int lv), (3, .int dp)], [.int dp, .int z13, .ref 2, .ref 27], 0, 0) 18 2 (fun _ => rfl) h) ?_
  refine pj_X_ca (vs := [.ref 27, .ref 2, .int z13, .int dp]) rfl (fun _ => rfl) ⟨Nat.le_of_ble_eq_true rfl, Nat.le_of_ble_eq_true rfl, pj_T_rcv hI rfl⟩ ⟨rfl, rfl⟩ (pj_Y_up (by decide) (ct_62_1_0 G0 hI z13 dp ⟨by omega, by omega⟩ ⟨by omega, by omega⟩)) ?_
  rintro _ G15 ⟨rfl, iG15, jG15⟩
  have kG15 : pj_kpt kc_62_0_0 G0 G15 := pj_kpt_t hK (pj_kpt_s jG15 rfl)
  show pj_X _ _ G15 21 [(0, .ref 27), (1, .ref 2), (2, .int lv), (3, .int dp)] [] _
  refine pj_X_of (fun r h => pj_R_to (G15, 22, [(0, .ref 27), (1, .ref 2), (2, .int lv), (3, .int dp)], [.int lv], 0, 0) 22 2 (fun _ => rfl) h) ?_
  refine pj_X_of (fun r h => pj_R_ifF rfl (pj_b0_neF (by omega)) h) ?_
  refine pj_X_of (fun r h => pj_R_to (G15, 36, [(5, .int (Int32.ofInt 0)), (4, .int (Int32.ofInt 1)), (0, .ref 27), (1, .ref 2), (2, .int lv), (3, .int dp)], [], 0, 0) 36 6 (fun _ => rfl) h) ?_
  exact pj_X_sub [(0, .ref 27), (1, .ref 2), (2, .int lv), (3, .int dp), (4, .int (Int32.ofInt 1)), (5, .int (Int32.ofInt 0))] (show List.Nodup [0, 1, 2, 3, 4, 5] by decide) ⟨rfl, rfl, rfl, rfl, rfl, rfl, trivial⟩ ((lp_ct_62_0_0 G0 hI lv dp rlv rdp 41) G15 iG15 kG15 (Int32.ofInt 1) (Int32.ofInt 0) ⟨by omega, by omega⟩ ⟨by omega, by omega⟩ (by omega))
def kc_58 : pj_KT := ([(2, 3), (2, 4), (27, 3)], [2, 27, 28, 29], [28, 29])
theorem ct_58 (G0 : pj_G) (hI : pj_Inv G0) : pj_Y 47 58 [.ref 27, .ref 2] G0 (fun v G' => v = none ∧ pj_Inv G' ∧ pj_kpt kc_58 G0 G') := by
  have c0_ : (Int32.ofInt (-1)).toInt = -1 := by decide
  have c1_ : (Int32.ofInt 0).toInt = 0 := by decide
  refine pj_Y_X (M := pj_m58) rfl rfl (Nat.le_of_ble_eq_true rfl) ?_
  have hK : pj_kpt kc_58 G0 G0 := pj_kpt_r _ _
  show pj_X _ _ G0 0 [(0, .ref 27), (1, .ref 2)] [] _
  refine pj_X_of (fun r h => pj_R_to (G0, 2, [(0, .ref 27), (1, .ref 2)], [.int (Int32.ofInt 0), .ref 27], 0, 0) 2 3 (fun _ => rfl) h) ?_
  refine pj_X_of (fun r h => pj_T_pf hI rfl rfl rfl h) ?_
  show pj_X _ _ (pj_wv G0 27 3 (.int (Int32.ofInt 0))) 5 [(0, .ref 27), (1, .ref 2)] [] _
  obtain ⟨G1, hG1⟩ : ∃ H, H = pj_wv G0 27 3 (.int (Int32.ofInt 0)) := ⟨_, rfl⟩
  have iG1 : pj_Inv G1 := by rw [hG1]; exact pj_Inv_wi hI (ci := 7) rfl (fun q hq => by cases hq; exact ⟨by show (0 : Int) ≤ _; omega, by show _ ≤ (40 : Int); omega⟩)
  have kG1 : pj_kpt kc_58 G0 G1 := by rw [hG1]; exact pj_kpt_v hK rfl
  rw [← hG1]
  refine pj_X_of (fun r h => pj_R_to (G1, 6, [(0, .ref 27), (1, .ref 2)], [.ref 2], 0, 0) 6 2 (fun _ => rfl) h) ?_
  refine pj_X_ca (vs := [.ref 2]) rfl (fun _ => rfl) ⟨Nat.le_of_ble_eq_true rfl, Nat.le_of_ble_eq_true rfl, pj_T_rcv iG1 rfl⟩ ⟨rfl, rfl⟩ (pj_Y_up (by decide) (ct_80 G1 iG1)) ?_
  rintro _ _ ⟨y2, rfl, rfl, ry2, ey2⟩
  show pj_X _ _ G1 9 [(0, .ref 27), (1, .ref 2)] [.int y2] _
  refine pj_X_of (fun r h => pj_R_to (G1, 10, [(0, .ref 27), (1, .ref 2)], [.int (Int32.ofInt (-1)), .int y2], 0, 0) 10 2 (fun _ => rfl) h) ?_
  cases b3 : pj_c1 .eq y2 (Int32.ofInt (-1)) with
  | true =>
    have ub3 := pj_u_eqT b3
    refine pj_X_of (fun r h => pj_R_icT 20 rfl rfl b3 h) ?_
    exact pj_X_rt rfl rfl ⟨rfl, iG1, kG1⟩
  | false =>
    have ub3 := pj_u_eqF b3
    refine pj_X_of (fun r h => pj_R_icF rfl b3 h) ?_
    refine pj_X_of (fun r h => pj_R_to (G1, 17, [(0, .ref 27), (1, .ref 2)], [.int (Int32.ofInt 0), .int (Int32.ofInt 0), .ref 2, .ref 27], 0, 0) 17 5 (fun _ => rfl) h) ?_
    refine pj_X_ca (vs := [.ref 27, .ref 2, .int (Int32.ofInt 0), .int (Int32.ofInt 0)]) rfl (fun _ => rfl) ⟨Nat.le_of_ble_eq_true rfl, Nat.le_of_ble_eq_true rfl, pj_T_rcv iG1 rfl⟩ ⟨rfl, rfl⟩ (pj_Y_up (by decide) (ct_62_0_0 G1 iG1 (Int32.ofInt 0) (Int32.ofInt 0) ⟨by omega, by omega⟩ ⟨by omega, by omega⟩)) ?_
    rintro _ G5 ⟨rfl, iG5, jG5⟩
    have kG5 : pj_kpt kc_58 G0 G5 := pj_kpt_t kG1 (pj_kpt_s jG5 rfl)
    show pj_X _ _ G5 20 [(0, .ref 27), (1, .ref 2)] [] _
    exact pj_X_rt rfl rfl ⟨rfl, iG5, kG5⟩
def kc_122 : pj_KT := ([(2, 1), (2, 2), (2, 3), (2, 4), (27, 0), (27, 1), (27, 2), (27, 3)], [2, 27, 28, 29], [28, 29])
theorem ct_122 (G0 : pj_G) (hI : pj_Inv G0) : pj_Y 48 122 [.ref 1] G0 (fun v G' => ∃ y : Int32, v = some (.int y) ∧ pj_Inv G' ∧ pj_kpt kc_122 G0 G' ∧ ((-2147483648 : Int) ≤ y.toInt ∧ y.toInt ≤ 2147483647)) := by
  have c0_ : ((Int8.ofInt 40).toInt32).toInt = 40 := by decide
  have c1_ : (Int32.ofInt (-1)).toInt = -1 := by decide
  have c2_ : (Int32.ofInt 0).toInt = 0 := by decide
  refine pj_Y_X (M := pj_m122) rfl rfl (Nat.le_of_ble_eq_true rfl) ?_
  have hK : pj_kpt kc_122 G0 G0 := pj_kpt_r _ _
  show pj_X _ _ G0 0 [(0, .ref 1)] [] _
  refine pj_X_of (fun r h => pj_R_to (G0, 1, [(0, .ref 1)], [.ref 1], 0, 0) 1 2 (fun _ => rfl) h) ?_
  refine pj_X_of (fun r h => pj_T_gr hI rfl rfl rfl h) ?_
  refine pj_X_of (fun r h => pj_R_to (G0, 6, [(0, .ref 1)], [.int ((Int8.ofInt 40).toInt32), .ref 2], 0, 0) 6 2 (fun _ => rfl) h) ?_
  refine pj_X_ca (vs := [.ref 2, .int ((Int8.ofInt 40).toInt32)]) rfl (fun _ => rfl) ⟨Nat.le_of_ble_eq_true rfl, Nat.le_of_ble_eq_true rfl, pj_T_rcv hI rfl⟩ ⟨rfl, rfl⟩ (pj_Y_up (by decide) (ct_79 G0 hI ((Int8.ofInt 40).toInt32) ⟨by omega, by omega⟩)) ?_
  rintro _ G2 ⟨rfl, iG2, jG2⟩
  have kG2 : pj_kpt kc_122 G0 G2 := pj_kpt_t hK (pj_kpt_s jG2 rfl)
  show pj_X _ _ G2 9 [(0, .ref 1)] [] _
  refine pj_X_of (fun r h => pj_R_to (G2, 10, [(0, .ref 1)], [.ref 1], 0, 0) 10 2 (fun _ => rfl) h) ?_
  refine pj_X_of (fun r h => pj_T_gr iG2 rfl rfl rfl h) ?_
  refine pj_X_of (fun r h => pj_T_gr iG2 rfl rfl rfl h) ?_
  refine pj_X_of (fun r h => pj_R_to (G2, 17, [(0, .ref 1)], [.ref 1, .ref 27], 0, 0) 17 2 (fun _ => rfl) h) ?_
  refine pj_X_of (fun r h => pj_T_gr iG2 rfl rfl rfl h) ?_
  refine pj_X_ca (vs := [.ref 27, .ref 2]) rfl (fun _ => rfl) ⟨Nat.le_of_ble_eq_true rfl, Nat.le_of_ble_eq_true rfl, pj_T_rcv iG2 rfl⟩ ⟨rfl, rfl⟩ (pj_Y_up (by decide) (ct_58 G2 iG2)) ?_
  rintro _ G4 ⟨rfl, iG4, jG4⟩
  have kG4 : pj_kpt kc_122 G0 G4 := pj_kpt_t kG2 (pj_kpt_s jG4 rfl)
  show pj_X _ _ G4 23 [(0, .ref 1)] [] _
  refine pj_X_of (fun r h => pj_R_to (G4, 24, [(0, .ref 1)], [.ref 1], 0, 0) 24 2 (fun _ => rfl) h) ?_
  refine pj_X_of (fun r h => pj_T_gr iG4 rfl rfl rfl h) ?_
  refine pj_X_ca (vs := [.ref 2]) rfl (fun _ => rfl) ⟨Nat.le_of_ble_eq_true rfl, Nat.le_of_ble_eq_true rfl, pj_T_rcv iG4 rfl⟩ ⟨rfl, rfl⟩ (pj_Y_up (by decide) (ct_88 G4 iG4)) ?_
  rintro _ G6 ⟨y5, rfl, iG6, jG6, ry5, ey5⟩
  have kG6 : pj_kpt kc_122 G0 G6 := pj_kpt_t kG4 (pj_kpt_s jG6 rfl)
  show pj_X _ _ G6 30 [(0, .ref 1)] [.int y5] _
  refine pj_X_of (fun r h => pj_R_to (G6, 33, [(1, .int y5), (0, .ref 1)], [.int (Int32.ofInt (-1)), .int y5], 0, 0) 33 4 (fun _ => rfl) h) ?_
  cases b7 : pj_c1 .eq y5 (Int32.ofInt (-1)) with
  | true =>
    have ub7 := pj_u_eqT b7
    refine pj_X_of (fun r h => pj_R_icT 41 rfl rfl b7 h) ?_
    refine pj_X_of (fun r h => pj_R_to (G6, 42, [(1, .int y5), (0, .ref 1)], [.ref 1], 0, 0) 42 2 (fun _ => rfl) h) ?_
    refine pj_X_of (fun r h => pj_T_gr iG6 rfl rfl rfl h) ?_
    refine pj_X_of (fun r h => pj_T_gr iG6 rfl rfl rfl h) ?_
    refine pj_X_ca (vs := [.ref 27]) rfl (fun _ => rfl) ⟨Nat.le_of_ble_eq_true rfl, Nat.le_of_ble_eq_true rfl, pj_T_rcv iG6 rfl⟩ ⟨rfl, rfl⟩ (pj_Y_up (by decide) (ct_59 G6 iG6)) ?_
    rintro _ G9 ⟨rfl, iG9, jG9⟩
    have kG9 : pj_kpt kc_122 G0 G9 := pj_kpt_t kG6 (pj_kpt_s jG9 rfl)
    show pj_X _ _ G9 51 [(1, .int y5), (0, .ref 1)] [] _
    refine pj_X_of (fun r h => pj_R_to (G9, 52, [(1, .int y5), (0, .ref 1)], [.int (Int32.ofInt 0)], 0, 0) 52 2 (fun _ => rfl) h) ?_
    exact pj_X_rt rfl rfl ⟨_, rfl, iG9, kG9, pj_i32 _⟩
  | false =>
    have ub7 := pj_u_eqF b7
    refine pj_X_of (fun r h => pj_R_icF rfl b7 h) ?_
    refine pj_X_of (fun r h => pj_R_to (G6, 37, [(1, .int y5), (0, .ref 1)], [.int y5], 0, 0) 37 2 (fun _ => rfl) h) ?_
    refine pj_X_ca (vs := [.int y5]) rfl (fun _ => rfl) ⟨Nat.le_of_ble_eq_true rfl, Nat.le_of_ble_eq_true rfl, rfl⟩ ⟨rfl, rfl⟩ (pj_Y_up (by decide) (ct_162 G6 iG6 y5)) ?_
    rintro _ _ ⟨y10, rfl, rfl, ry10⟩
    show pj_X _ _ G6 40 [(1, .int y5), (0, .ref 1)] [.int y10] _
    exact pj_X_rt rfl rfl ⟨_, rfl, iG6, kG6, pj_i32 _⟩
