def kc_17 : pj_KT := ([(46, 3)], [46, 47, 48], [47, 48])
theorem ct_17 (G0 : pj_G) (hI : pj_Inv G0) (what : Int32) (v : Int32) (is : Int32) : pj_Y 2 17 [.ref 46, .int what, .int v, .int is] G0 (fun v G' => ∃ y : Int32, v = some (.int y) ∧ pj_Inv G' ∧ pj_kpt kc_17 G0 G' ∧ ((-2147483648 : Int) ≤ y.toInt ∧ y.toInt ≤ 2147483647)) := by
  have c0_ : ((Int8.ofInt 12).toInt32).toInt = 12 := by decide
  have c1_ : ((Int8.ofInt 19).toInt32).toInt = 19 := by decide
  have c2_ : (Int32.ofInt (-1)).toInt = -1 := by decide
  have c3_ : (Int32.ofInt 0).toInt = 0 := by decide
  have c4_ : (Int32.ofInt 1).toInt = 1 := by decide
  refine pj_Y_X (M := pj_m17) rfl rfl (Nat.le_of_ble_eq_true rfl) ?_
  have hK : pj_kpt kc_17 G0 G0 := pj_kpt_r _ _
  show pj_X _ _ G0 0 [(0, .ref 46), (1, .int what), (2, .int v), (3, .int is)] [] _
  refine pj_X_of (fun r h => pj_R_to (G0, 2, [(0, .ref 46), (1, .int what), (2, .int v), (3, .int is)], [.int v, .int what], 0, 0) 2 3 (fun _ => rfl) h) ?_
  refine pj_X_ca (vs := [.int what, .int v]) rfl (fun _ => rfl) ⟨Nat.le_of_ble_eq_true rfl, Nat.le_of_ble_eq_true rfl, rfl⟩ ⟨rfl, rfl⟩ (pj_Y_up (by decide) (ct_16 G0 hI what v)) ?_
  rintro _ _ ⟨y1, rfl, rfl, ry1⟩
  show pj_X _ _ G0 5 [(0, .ref 46), (1, .int what), (2, .int v), (3, .int is)] [.int y1] _
  cases b2 : pj_c1 .eq y1 0 with
  | true =>
    have ub2 := pj_u0_eqT b2
    refine pj_X_of (fun r h => pj_R_ifT 26 rfl rfl b2 h) ?_
    refine pj_X_of (fun r h => pj_R_to (G0, 27, [(0, .ref 46), (1, .int what), (2, .int v), (3, .int is)], [.int (Int32.ofInt (-1))], 0, 0) 27 2 (fun _ => rfl) h) ?_
    exact pj_X_rt rfl rfl ⟨_, rfl, hI, hK, pj_i32 _⟩
  | false =>
    have ub2 := pj_u0_eqF b2
    refine pj_X_of (fun r h => pj_R_ifF rfl b2 h) ?_
    refine pj_X_of (fun r h => pj_R_to (G0, 9, [(0, .ref 46), (1, .int what), (2, .int v), (3, .int is)], [.int is], 0, 0) 9 2 (fun _ => rfl) h) ?_
    cases b3 : pj_c1 .lt is 0 with
    | true =>
      have ub3 := pj_u0_ltT b3
      refine pj_X_of (fun r h => pj_R_ifT 26 rfl rfl b3 h) ?_
      refine pj_X_of (fun r h => pj_R_to (G0, 27, [(0, .ref 46), (1, .int what), (2, .int v), (3, .int is)], [.int (Int32.ofInt (-1))], 0, 0) 27 2 (fun _ => rfl) h) ?_
      exact pj_X_rt rfl rfl ⟨_, rfl, hI, hK, pj_i32 _⟩
    | false =>
      have ub3 := pj_u0_ltF b3
      refine pj_X_of (fun r h => pj_R_ifF rfl b3 h) ?_
      refine pj_X_of (fun r h => pj_R_to (G0, 14, [(0, .ref 46), (1, .int what), (2, .int v), (3, .int is)], [.int (Int32.ofInt 1), .int is], 0, 0) 14 3 (fun _ => rfl) h) ?_
      cases b4 : pj_c1 .gt is (Int32.ofInt 1) with
      | true =>
        have ub4 := pj_u_gtT b4
        refine pj_X_of (fun r h => pj_R_icT 26 rfl rfl b4 h) ?_
        refine pj_X_of (fun r h => pj_R_to (G0, 27, [(0, .ref 46), (1, .int what), (2, .int v), (3, .int is)], [.int (Int32.ofInt (-1))], 0, 0) 27 2 (fun _ => rfl) h) ?_
        exact pj_X_rt rfl rfl ⟨_, rfl, hI, hK, pj_i32 _⟩
      | false =>
        have ub4 := pj_u_gtF b4
        refine pj_X_of (fun r h => pj_R_icF rfl b4 h) ?_
        refine pj_X_of (fun r h => pj_R_to (G0, 18, [(0, .ref 46), (1, .int what), (2, .int v), (3, .int is)], [.ref 46], 0, 0) 18 2 (fun _ => rfl) h) ?_
        refine pj_X_of (fun r h => pj_T_gi hI rfl rfl h) ?_
        show pj_X _ _ G0 21 [(0, .ref 46), (1, .int what), (2, .int v), (3, .int is)] [.int (pj_fi G0 46 3)] _
        obtain ⟨y5, hy5⟩ : ∃ z : Int32, z = pj_fi G0 46 3 := ⟨_, rfl⟩
        rw [← hy5]
        have ey5 : (pj_fi G0 46 3).toInt = y5.toInt := by rw [hy5]
        have ry5 : (0 : Int) ≤ y5.toInt ∧ y5.toInt ≤ 12 := by rw [hy5]; exact hI.2.1 46 3 (0, 12) rfl
        refine pj_X_of (fun r h => pj_R_to (G0, 23, [(0, .ref 46), (1, .int what), (2, .int v), (3, .int is)], [.int ((Int8.ofInt 12).toInt32), .int y5], 0, 0) 23 2 (fun _ => rfl) h) ?_
        cases b6 : pj_c1 .lt y5 ((Int8.ofInt 12).toInt32) with
        | true =>
          have ub6 := pj_u_ltT b6
          refine pj_X_of (fun r h => pj_R_icT 28 rfl rfl b6 h) ?_
          refine pj_X_of (fun r h => pj_R_to (G0, 29, [(0, .ref 46), (1, .int what), (2, .int v), (3, .int is)], [.ref 46], 0, 0) 29 2 (fun _ => rfl) h) ?_
          refine pj_X_of (fun r h => pj_T_gr hI rfl rfl rfl h) ?_
          refine pj_X_of (fun r h => pj_R_to (G0, 33, [(0, .ref 46), (1, .int what), (2, .int v), (3, .int is)], [.ref 46, .ref 47], 0, 0) 33 2 (fun _ => rfl) h) ?_
          refine pj_X_of (fun r h => pj_T_gi hI rfl rfl h) ?_
          show pj_X _ _ G0 36 [(0, .ref 46), (1, .int what), (2, .int v), (3, .int is)] [.int (pj_fi G0 46 3), .ref 47] _
          rw [show pj_fi G0 46 3 = y5 from hy5.symm]
          refine pj_X_of (fun r h => pj_R_to (G0, 40, [(0, .ref 46), (1, .int what), (2, .int v), (3, .int is)], [.int (((Int8.ofInt 19).toInt32) * what), .int y5, .ref 47], 0, 0) 40 4 (fun _ => rfl) h) ?_
          obtain ⟨z7, hz7⟩ : ∃ z : Int32, z = ((Int8.ofInt 19).toInt32) * what := ⟨_, rfl⟩
          rw [← hz7]
          refine pj_X_of (fun r h => pj_R_to (G0, 42, [(0, .ref 46), (1, .int what), (2, .int v), (3, .int is)], [.int (z7 + v), .int y5, .ref 47], 0, 0) 42 3 (fun _ => rfl) h) ?_
          obtain ⟨z8, hz8⟩ : ∃ z : Int32, z = z7 + v := ⟨_, rfl⟩
          rw [← hz8]
          refine pj_X_of (fun r h => pj_T_is hI rfl rfl (by omega) (by omega) h) ?_
          show pj_X _ _ (pj_wa G0 47 y5.toInt.toNat z8) 43 [(0, .ref 46), (1, .int what), (2, .int v), (3, .int is)] [] _
          obtain ⟨G9, hG9⟩ : ∃ H, H = pj_wa G0 47 y5.toInt.toNat z8 := ⟨_, rfl⟩
          have iG9 : pj_Inv G9 := by rw [hG9]; exact pj_Inv_wa hI rfl (fun q hq => by cases hq) (fun n hn => by cases hn)
          have kG9 : pj_kpt kc_17 G0 G9 := by rw [hG9]; exact pj_kpt_a hK rfl
          rw [← hG9]
          refine pj_X_of (fun r h => pj_R_to (G9, 44, [(0, .ref 46), (1, .int what), (2, .int v), (3, .int is)], [.ref 46], 0, 0) 44 2 (fun _ => rfl) h) ?_
          refine pj_X_of (fun r h => pj_T_gr iG9 rfl rfl rfl h) ?_
          refine pj_X_of (fun r h => pj_R_to (G9, 48, [(0, .ref 46), (1, .int what), (2, .int v), (3, .int is)], [.ref 46, .ref 48], 0, 0) 48 2 (fun _ => rfl) h) ?_
          refine pj_X_of (fun r h => pj_T_gi iG9 rfl rfl h) ?_
          show pj_X _ _ G9 51 [(0, .ref 46), (1, .int what), (2, .int v), (3, .int is)] [.int (pj_fi G9 46 3), .ref 48] _
          rw [show pj_fi G9 46 3 = y5 from by rw [hG9, pj_fi_wa]; exact hy5.symm]
          refine pj_X_of (fun r h => pj_R_to (G9, 53, [(0, .ref 46), (1, .int what), (2, .int v), (3, .int is)], [.int (Int32.ofInt 1), .int is, .int y5, .ref 48], 0, 0) 53 3 (fun _ => rfl) h) ?_
          cases b10 : pj_c1 .ne is (Int32.ofInt 1) with
          | true =>
            have ub10 := pj_u_neT b10
            refine pj_X_of (fun r h => pj_R_icT 60 rfl rfl b10 h) ?_
            refine pj_X_of (fun r h => pj_R_to (G9, 61, [(0, .ref 46), (1, .int what), (2, .int v), (3, .int is)], [.int (Int32.ofInt 0), .int y5, .ref 48], 0, 0) 61 2 (fun _ => rfl) h) ?_
            refine pj_X_of (fun r h => pj_T_bs iG9 rfl rfl (by omega) (by omega) h) ?_
            show pj_X _ _ (pj_wa G9 48 y5.toInt.toNat (vp_nar .boolean (Int32.ofInt 0))) 62 [(0, .ref 46), (1, .int what), (2, .int v), (3, .int is)] [] _
            obtain ⟨G11, hG11⟩ : ∃ H, H = pj_wa G9 48 y5.toInt.toNat (vp_nar .boolean (Int32.ofInt 0)) := ⟨_, rfl⟩
            have iG11 : pj_Inv G11 := by rw [hG11]; exact pj_Inv_wb iG9 rfl rfl rfl
            have kG11 : pj_kpt kc_17 G0 G11 := by rw [hG11]; exact pj_kpt_a kG9 rfl
            rw [← hG11]
            refine pj_X_of (fun r h => pj_R_to (G11, 64, [(0, .ref 46), (1, .int what), (2, .int v), (3, .int is)], [.ref 46, .ref 46], 0, 0) 64 3 (fun _ => rfl) h) ?_
            refine pj_X_of (fun r h => pj_T_gi iG11 rfl rfl h) ?_
            show pj_X _ _ G11 67 [(0, .ref 46), (1, .int what), (2, .int v), (3, .int is)] [.int (pj_fi G11 46 3), .ref 46] _
            rw [show pj_fi G11 46 3 = y5 from by rw [hG11, pj_fi_wa]; exact (by rw [hG9, pj_fi_wa]; exact hy5.symm)]
            refine pj_X_of (fun r h => pj_R_to (G11, 69, [(0, .ref 46), (1, .int what), (2, .int v), (3, .int is)], [.int (y5 + (Int32.ofInt 1)), .ref 46], 0, 0) 69 3 (fun _ => rfl) h) ?_
            obtain ⟨z12, hz12⟩ : ∃ z : Int32, z = y5 + (Int32.ofInt 1) := ⟨_, rfl⟩
            rw [← hz12]
            have fz12_0 : z12.toInt = y5.toInt + (Int32.ofInt 1).toInt := by rw [hz12]; exact pj_addI (by have := pj_i32 y5; have := pj_i32 (Int32.ofInt 1); omega) (by have := pj_i32 y5; have := pj_i32 (Int32.ofInt 1); omega)
            refine pj_X_of (fun r h => pj_T_pf iG11 rfl rfl rfl h) ?_
            show pj_X _ _ (pj_wv G11 46 3 (.int z12)) 72 [(0, .ref 46), (1, .int what), (2, .int v), (3, .int is)] [] _
            obtain ⟨G13, hG13⟩ : ∃ H, H = pj_wv G11 46 3 (.int z12) := ⟨_, rfl⟩
            have iG13 : pj_Inv G13 := by rw [hG13]; exact pj_Inv_wi iG11 (ci := 2) rfl (fun q hq => by cases hq; exact ⟨by show (0 : Int) ≤ _; omega, by show _ ≤ (12 : Int); omega⟩)
            have kG13 : pj_kpt kc_17 G0 G13 := by rw [hG13]; exact pj_kpt_v kG11 rfl
            rw [← hG13]
            refine pj_X_of (fun r h => pj_R_to (G13, 73, [(0, .ref 46), (1, .int what), (2, .int v), (3, .int is)], [.ref 46], 0, 0) 73 2 (fun _ => rfl) h) ?_
            refine pj_X_of (fun r h => pj_T_gi iG13 rfl rfl h) ?_
            show pj_X _ _ G13 76 [(0, .ref 46), (1, .int what), (2, .int v), (3, .int is)] [.int (pj_fi G13 46 3)] _
            rw [show pj_fi G13 46 3 = z12 from by rw [hG13]; exact pj_fi_wi iG11.1 (ci := 2) rfl _]
            exact pj_X_rt rfl rfl ⟨_, rfl, iG13, kG13, pj_i32 _⟩
          | false =>
            have ub10 := pj_u_neF b10
            refine pj_X_of (fun r h => pj_R_icF rfl b10 h) ?_
            refine pj_X_of (fun r h => pj_R_to (G9, 61, [(0, .ref 46), (1, .int what), (2, .int v), (3, .int is)], [.int (Int32.ofInt 1), .int y5, .ref 48], 0, 0) 61 3 (fun _ => rfl) h) ?_
            refine pj_X_of (fun r h => pj_T_bs iG9 rfl rfl (by omega) (by omega) h) ?_
            show pj_X _ _ (pj_wa G9 48 y5.toInt.toNat (vp_nar .boolean (Int32.ofInt 1))) 62 [(0, .ref 46), (1, .int what), (2, .int v), (3, .int is)] [] _
            obtain ⟨G14, hG14⟩ : ∃ H, H = pj_wa G9 48 y5.toInt.toNat (vp_nar .boolean (Int32.ofInt 1)) := ⟨_, rfl⟩
            have iG14 : pj_Inv G14 := by rw [hG14]; exact pj_Inv_wb iG9 rfl rfl rfl
            have kG14 : pj_kpt kc_17 G0 G14 := by rw [hG14]; exact pj_kpt_a kG9 rfl
            rw [← hG14]
            refine pj_X_of (fun r h => pj_R_to (G14, 64, [(0, .ref 46), (1, .int what), (2, .int v), (3, .int is)], [.ref 46, .ref 46], 0, 0) 64 3 (fun _ => rfl) h) ?_
            refine pj_X_of (fun r h => pj_T_gi iG14 rfl rfl h) ?_
            show pj_X _ _ G14 67 [(0, .ref 46), (1, .int what), (2, .int v), (3, .int is)] [.int (pj_fi G14 46 3), .ref 46] _
            rw [show pj_fi G14 46 3 = y5 from by rw [hG14, pj_fi_wa]; exact (by rw [hG9, pj_fi_wa]; exact hy5.symm)]
            refine pj_X_of (fun r h => pj_R_to (G14, 69, [(0, .ref 46), (1, .int what), (2, .int v), (3, .int is)], [.int (y5 + (Int32.ofInt 1)), .ref 46], 0, 0) 69 3 (fun _ => rfl) h) ?_
            obtain ⟨z15, hz15⟩ : ∃ z : Int32, z = y5 + (Int32.ofInt 1) := ⟨_, rfl⟩
            rw [← hz15]
            have fz15_0 : z15.toInt = y5.toInt + (Int32.ofInt 1).toInt := by rw [hz15]; exact pj_addI (by have := pj_i32 y5; have := pj_i32 (Int32.ofInt 1); omega) (by have := pj_i32 y5; have := pj_i32 (Int32.ofInt 1); omega)
            refine pj_X_of (fun r h => pj_T_pf iG14 rfl rfl rfl h) ?_
            show pj_X _ _ (pj_wv G14 46 3 (.int z15)) 72 [(0, .ref 46), (1, .int what), (2, .int v), (3, .int is)] [] _
            obtain ⟨G16, hG16⟩ : ∃ H, H = pj_wv G14 46 3 (.int z15) := ⟨_, rfl⟩
            have iG16 : pj_Inv G16 := by rw [hG16]; exact pj_Inv_wi iG14 (ci := 2) rfl (fun q hq => by cases hq; exact ⟨by show (0 : Int) ≤ _; omega, by show _ ≤ (12 : Int); omega⟩)
            have kG16 : pj_kpt kc_17 G0 G16 := by rw [hG16]; exact pj_kpt_v kG14 rfl
            rw [← hG16]
            refine pj_X_of (fun r h => pj_R_to (G16, 73, [(0, .ref 46), (1, .int what), (2, .int v), (3, .int is)], [.ref 46], 0, 0) 73 2 (fun _ => rfl) h) ?_
            refine pj_X_of (fun r h => pj_T_gi iG16 rfl rfl h) ?_
            show pj_X _ _ G16 76 [(0, .ref 46), (1, .int what), (2, .int v), (3, .int is)] [.int (pj_fi G16 46 3)] _
            rw [show pj_fi G16 46 3 = z15 from by rw [hG16]; exact pj_fi_wi iG14.1 (ci := 2) rfl _]
            exact pj_X_rt rfl rfl ⟨_, rfl, iG16, kG16, pj_i32 _⟩
        | false =>
          have ub6 := pj_u_ltF b6
          refine pj_X_of (fun r h => pj_R_icF rfl b6 h) ?_
          refine pj_X_of (fun r h => pj_R_to (G0, 27, [(0, .ref 46), (1, .int what), (2, .int v), (3, .int is)], [.int (Int32.ofInt (-1))], 0, 0) 27 2 (fun _ => rfl) h) ?_
          exact pj_X_rt rfl rfl ⟨_, rfl, hI, hK, pj_i32 _⟩
theorem ct_18 (G0 : pj_G) (hI : pj_Inv G0) (qn : Int32) (b : Int32) (rb : (0 : Int) ≤ b.toInt ∧ b.toInt ≤ 5) : pj_Y 2 18 [.ref 46, .int qn, .int b] G0 (fun v G' => ∃ y : Int32, v = some (.int y) ∧ G0 = G' ∧ ((0 : Int) ≤ y.toInt ∧ y.toInt ≤ 1)) := by
  have c0_ : ((Int8.ofInt 19).toInt32).toInt = 19 := by decide
  have c1_ : ((Int8.ofInt 7).toInt32).toInt = 7 := by decide
  have c2_ : (Int32.ofInt 0).toInt = 0 := by decide
  have c3_ : (Int32.ofInt 1).toInt = 1 := by decide
  have c4_ : (Int32.ofInt 2).toInt = 2 := by decide
  refine pj_Y_X (M := pj_m18) rfl rfl (Nat.le_of_ble_eq_true rfl) ?_
  have hK : pj_kpt ([], [], []) G0 G0 := pj_kpt_r _ _
  show pj_X _ _ G0 0 [(0, .ref 46), (1, .int qn), (2, .int b)] [] _
  refine pj_X_of (fun r h => pj_R_to (G0, 3, [(0, .ref 46), (1, .int qn), (2, .int b)], [.int ((Int8.ofInt 19).toInt32), .int qn], 0, 0) 3 3 (fun _ => rfl) h) ?_
  refine pj_X_of (fun r h => pj_R_rm rfl (pj_nz (by omega)) h) ?_
  show pj_X _ _ G0 4 [(0, .ref 46), (1, .int qn), (2, .int b)] [.int (qn - qn / ((Int8.ofInt 19).toInt32) * ((Int8.ofInt 19).toInt32))] _
  obtain ⟨z1, hz1⟩ : ∃ z : Int32, z = qn - qn / ((Int8.ofInt 19).toInt32) * ((Int8.ofInt 19).toInt32) := ⟨_, rfl⟩
  rw [← hz1]
  refine pj_X_of (fun r h => pj_R_to (G0, 8, [(3, .int z1), (0, .ref 46), (1, .int qn), (2, .int b)], [.int ((Int8.ofInt 19).toInt32), .int qn], 0, 0) 8 4 (fun _ => rfl) h) ?_
  refine pj_X_of (fun r h => pj_R_dv rfl (pj_nz (by omega)) h) ?_
  show pj_X _ _ G0 9 [(3, .int z1), (0, .ref 46), (1, .int qn), (2, .int b)] [.int (qn / ((Int8.ofInt 19).toInt32))] _
  obtain ⟨z2, hz2⟩ : ∃ z : Int32, z = qn / ((Int8.ofInt 19).toInt32) := ⟨_, rfl⟩
  rw [← hz2]
  by_cases t3 : z2.toInt = 0
  · refine pj_X_of (fun r h => pj_R_tw 36 rfl (n := 0) t3 rfl h) ?_
    refine pj_X_of (fun r h => pj_R_to (G0, 37, [(3, .int z1), (0, .ref 46), (1, .int qn), (2, .int b)], [.ref 46], 0, 0) 37 2 (fun _ => rfl) h) ?_
    refine pj_X_of (fun r h => pj_T_gr hI rfl rfl rfl h) ?_
    refine pj_X_of (fun r h => pj_T_gr hI rfl rfl rfl h) ?_
    refine pj_X_of (fun r h => pj_R_to (G0, 44, [(3, .int z1), (0, .ref 46), (1, .int qn), (2, .int b)], [.int b, .ref 31], 0, 0) 44 2 (fun _ => rfl) h) ?_
    refine pj_X_of (fun r h => pj_T_il hI rfl rfl (by omega) (by omega) h) ?_
    show pj_X _ _ G0 45 [(3, .int z1), (0, .ref 46), (1, .int qn), (2, .int b)] [.int (pj_ai G0 31 b.toInt.toNat)] _
    obtain ⟨z4, hz4⟩ : ∃ z : Int32, z = pj_ai G0 31 b.toInt.toNat := ⟨_, rfl⟩
    rw [← hz4]
    have ez4 : (pj_ai G0 31 b.toInt.toNat).toInt = z4.toInt := by rw [hz4]
    refine pj_X_of (fun r h => pj_R_to (G0, 46, [(3, .int z1), (0, .ref 46), (1, .int qn), (2, .int b)], [.int z1, .int z4], 0, 0) 46 2 (fun _ => rfl) h) ?_
    cases b5 : pj_c1 .lt z4 z1 with
    | true =>
      have ub5 := pj_u_ltT b5
      refine pj_X_of (fun r h => pj_R_icT 53 rfl rfl b5 h) ?_
      refine pj_X_of (fun r h => pj_R_to (G0, 54, [(3, .int z1), (0, .ref 46), (1, .int qn), (2, .int b)], [.int (Int32.ofInt 0)], 0, 0) 54 2 (fun _ => rfl) h) ?_
      exact pj_X_rt rfl rfl ⟨_, rfl, rfl, ⟨by omega, by omega⟩⟩
    | false =>
      have ub5 := pj_u_ltF b5
      refine pj_X_of (fun r h => pj_R_icF rfl b5 h) ?_
      refine pj_X_of (fun r h => pj_R_to (G0, 54, [(3, .int z1), (0, .ref 46), (1, .int qn), (2, .int b)], [.int (Int32.ofInt 1)], 0, 0) 54 3 (fun _ => rfl) h) ?_
      exact pj_X_rt rfl rfl ⟨_, rfl, rfl, ⟨by omega, by omega⟩⟩
  by_cases t6 : z2.toInt = 1
  · refine pj_X_of (fun r h => pj_R_tw 55 rfl (n := 1) t6 rfl h) ?_
    refine pj_X_of (fun r h => pj_R_to (G0, 56, [(3, .int z1), (0, .ref 46), (1, .int qn), (2, .int b)], [.ref 46], 0, 0) 56 2 (fun _ => rfl) h) ?_
    refine pj_X_of (fun r h => pj_T_gr hI rfl rfl rfl h) ?_
    refine pj_X_of (fun r h => pj_T_gr hI rfl rfl rfl h) ?_
    refine pj_X_of (fun r h => pj_T_gr hI rfl rfl rfl h) ?_
    refine pj_X_of (fun r h => pj_R_to (G0, 66, [(3, .int z1), (0, .ref 46), (1, .int qn), (2, .int b)], [.int b, .ref 24], 0, 0) 66 2 (fun _ => rfl) h) ?_
    refine pj_X_of (fun r h => pj_T_il hI rfl rfl (by omega) (by omega) h) ?_
    show pj_X _ _ G0 67 [(3, .int z1), (0, .ref 46), (1, .int qn), (2, .int b)] [.int (pj_ai G0 24 b.toInt.toNat)] _
    obtain ⟨z7, hz7⟩ : ∃ z : Int32, z = pj_ai G0 24 b.toInt.toNat := ⟨_, rfl⟩
    rw [← hz7]
    have ez7 : (pj_ai G0 24 b.toInt.toNat).toInt = z7.toInt := by rw [hz7]
    refine pj_X_of (fun r h => pj_R_to (G0, 68, [(3, .int z1), (0, .ref 46), (1, .int qn), (2, .int b)], [.int z1, .int z7], 0, 0) 68 2 (fun _ => rfl) h) ?_
    cases b8 : pj_c1 .lt z7 z1 with
    | true =>
      have ub8 := pj_u_ltT b8
      refine pj_X_of (fun r h => pj_R_icT 75 rfl rfl b8 h) ?_
      refine pj_X_of (fun r h => pj_R_to (G0, 76, [(3, .int z1), (0, .ref 46), (1, .int qn), (2, .int b)], [.int (Int32.ofInt 0)], 0, 0) 76 2 (fun _ => rfl) h) ?_
      exact pj_X_rt rfl rfl ⟨_, rfl, rfl, ⟨by omega, by omega⟩⟩
    | false =>
      have ub8 := pj_u_ltF b8
      refine pj_X_of (fun r h => pj_R_icF rfl b8 h) ?_
      refine pj_X_of (fun r h => pj_R_to (G0, 76, [(3, .int z1), (0, .ref 46), (1, .int qn), (2, .int b)], [.int (Int32.ofInt 1)], 0, 0) 76 3 (fun _ => rfl) h) ?_
      exact pj_X_rt rfl rfl ⟨_, rfl, rfl, ⟨by omega, by omega⟩⟩
  by_cases t9 : z2.toInt = 2
  · refine pj_X_of (fun r h => pj_R_tw 77 rfl (n := 2) t9 rfl h) ?_
    refine pj_X_of (fun r h => pj_R_to (G0, 78, [(3, .int z1), (0, .ref 46), (1, .int qn), (2, .int b)], [.ref 46], 0, 0) 78 2 (fun _ => rfl) h) ?_
    refine pj_X_of (fun r h => pj_T_gr hI rfl rfl rfl h) ?_
    refine pj_X_of (fun r h => pj_T_gr hI rfl rfl rfl h) ?_
    refine pj_X_of (fun r h => pj_R_to (G0, 85, [(3, .int z1), (0, .ref 46), (1, .int qn), (2, .int b)], [.int b, .ref 31], 0, 0) 85 2 (fun _ => rfl) h) ?_
    refine pj_X_of (fun r h => pj_T_il hI rfl rfl (by omega) (by omega) h) ?_
    show pj_X _ _ G0 86 [(3, .int z1), (0, .ref 46), (1, .int qn), (2, .int b)] [.int (pj_ai G0 31 b.toInt.toNat)] _
    obtain ⟨z10, hz10⟩ : ∃ z : Int32, z = pj_ai G0 31 b.toInt.toNat := ⟨_, rfl⟩
    rw [← hz10]
    have ez10 : (pj_ai G0 31 b.toInt.toNat).toInt = z10.toInt := by rw [hz10]
    refine pj_X_of (fun r h => pj_R_to (G0, 87, [(3, .int z1), (0, .ref 46), (1, .int qn), (2, .int b)], [.ref 46, .int z10], 0, 0) 87 2 (fun _ => rfl) h) ?_
    refine pj_X_of (fun r h => pj_T_gr hI rfl rfl rfl h) ?_
    refine pj_X_of (fun r h => pj_T_gr hI rfl rfl rfl h) ?_
    refine pj_X_of (fun r h => pj_T_gr hI rfl rfl rfl h) ?_
    refine pj_X_of (fun r h => pj_R_to (G0, 97, [(3, .int z1), (0, .ref 46), (1, .int qn), (2, .int b)], [.int b, .ref 24, .int z10], 0, 0) 97 2 (fun _ => rfl) h) ?_
    refine pj_X_of (fun r h => pj_T_il hI rfl rfl (by omega) (by omega) h) ?_
    show pj_X _ _ G0 98 [(3, .int z1), (0, .ref 46), (1, .int qn), (2, .int b)] [.int (pj_ai G0 24 b.toInt.toNat), .int z10] _
    obtain ⟨z11, hz11⟩ : ∃ z : Int32, z = pj_ai G0 24 b.toInt.toNat := ⟨_, rfl⟩
    rw [← hz11]
    have ez11 : (pj_ai G0 24 b.toInt.toNat).toInt = z11.toInt := by rw [hz11]
    refine pj_X_of (fun r h => pj_R_to (G0, 99, [(3, .int z1), (0, .ref 46), (1, .int qn), (2, .int b)], [.int (z10 + z11)], 0, 0) 99 2 (fun _ => rfl) h) ?_
    obtain ⟨z12, hz12⟩ : ∃ z : Int32, z = z10 + z11 := ⟨_, rfl⟩
    rw [← hz12]
    refine pj_X_of (fun r h => pj_R_to (G0, 101, [(3, .int z1), (0, .ref 46), (1, .int qn), (2, .int b)], [.int ((Int8.ofInt 7).toInt32), .int z12], 0, 0) 101 2 (fun _ => rfl) h) ?_
    refine pj_X_of (fun r h => pj_R_rm rfl (pj_nz (by omega)) h) ?_
    show pj_X _ _ G0 102 [(3, .int z1), (0, .ref 46), (1, .int qn), (2, .int b)] [.int (z12 - z12 / ((Int8.ofInt 7).toInt32) * ((Int8.ofInt 7).toInt32))] _
    obtain ⟨z13, hz13⟩ : ∃ z : Int32, z = z12 - z12 / ((Int8.ofInt 7).toInt32) * ((Int8.ofInt 7).toInt32) := ⟨_, rfl⟩
    rw [← hz13]
    refine pj_X_of (fun r h => pj_R_to (G0, 103, [(3, .int z1), (0, .ref 46), (1, .int qn), (2, .int b)], [.int z1, .int z13], 0, 0) 103 2 (fun _ => rfl) h) ?_
    cases b14 : pj_c1 .ne z13 z1 with
    | true =>
      have ub14 := pj_u_neT b14
      refine pj_X_of (fun r h => pj_R_icT 110 rfl rfl b14 h) ?_
      refine pj_X_of (fun r h => pj_R_to (G0, 111, [(3, .int z1), (0, .ref 46), (1, .int qn), (2, .int b)], [.int (Int32.ofInt 0)], 0, 0) 111 2 (fun _ => rfl) h) ?_
      exact pj_X_rt rfl rfl ⟨_, rfl, rfl, ⟨by omega, by omega⟩⟩
    | false =>
      have ub14 := pj_u_neF b14
      refine pj_X_of (fun r h => pj_R_icF rfl b14 h) ?_
      refine pj_X_of (fun r h => pj_R_to (G0, 111, [(3, .int z1), (0, .ref 46), (1, .int qn), (2, .int b)], [.int (Int32.ofInt 1)], 0, 0) 111 3 (fun _ => rfl) h) ?_
      exact pj_X_rt rfl rfl ⟨_, rfl, rfl, ⟨by omega, by omega⟩⟩
  refine pj_X_of (fun r h => pj_R_td 112 rfl (by omega) rfl h) ?_
  refine pj_X_of (fun r h => pj_R_to (G0, 114, [(3, .int z1), (0, .ref 46), (1, .int qn), (2, .int b)], [.int (Int32.ofInt 2), .int b], 0, 0) 114 3 (fun _ => rfl) h) ?_
  refine pj_X_of (fun r h => pj_R_rm rfl (pj_nz (by omega)) h) ?_
  show pj_X _ _ G0 115 [(3, .int z1), (0, .ref 46), (1, .int qn), (2, .int b)] [.int (b - b / (Int32.ofInt 2) * (Int32.ofInt 2))] _
  obtain ⟨z15, hz15⟩ : ∃ z : Int32, z = b - b / (Int32.ofInt 2) * (Int32.ofInt 2) := ⟨_, rfl⟩
  rw [← hz15]
  have fz15_0 : 0 ≤ z15.toInt ∧ z15.toInt < (Int32.ofInt 2).toInt := by rw [hz15]; exact pj_remI (by omega) (by omega)
  refine pj_X_of (fun r h => pj_R_to (G0, 116, [(3, .int z1), (0, .ref 46), (1, .int qn), (2, .int b)], [.int z1, .int z15], 0, 0) 116 2 (fun _ => rfl) h) ?_
  cases b16 : pj_c1 .ne z15 z1 with
  | true =>
    have ub16 := pj_u_neT b16
    refine pj_X_of (fun r h => pj_R_icT 123 rfl rfl b16 h) ?_
    refine pj_X_of (fun r h => pj_R_to (G0, 124, [(3, .int z1), (0, .ref 46), (1, .int qn), (2, .int b)], [.int (Int32.ofInt 0)], 0, 0) 124 2 (fun _ => rfl) h) ?_
    exact pj_X_rt rfl rfl ⟨_, rfl, rfl, ⟨by omega, by omega⟩⟩
  | false =>
    have ub16 := pj_u_neF b16
    refine pj_X_of (fun r h => pj_R_icF rfl b16 h) ?_
    refine pj_X_of (fun r h => pj_R_to (G0, 124, [(3, .int z1), (0, .ref 46), (1, .int qn), (2, .int b)], [.int (Int32.ofInt 1)], 0, 0) 124 3 (fun _ => rfl) h) ?_
    exact pj_X_rt rfl rfl ⟨_, rfl, rfl, ⟨by omega, by omega⟩⟩
theorem lp_ct_19 (G0 : pj_G) (hI : pj_Inv G0) (b : Int32) (rb : (0 : Int) ≤ b.toInt ∧ b.toInt ≤ 5) : ∀ mn : Nat, (∀ (v2 : Int32), ((0 : Int) ≤ v2.toInt ∧ v2.toInt ≤ 12) → 12 - v2.toInt < (mn : Int) → pj_X 2 pj_m19 G0 2 [(0, .ref 46), (1, .int b), (2, .int v2)] [] (fun v G' => ∃ y : Int32, v = some (.int y) ∧ G0 = G' ∧ ((0 : Int) ≤ y.toInt ∧ y.toInt ≤ 1))) := by
  have c0_ : (Int32.ofInt 0).toInt = 0 := by decide
  have c1_ : (Int32.ofInt 1).toInt = 1 := by decide
  have hK : pj_kpt ([], [], []) G0 G0 := pj_kpt_r _ _
  intro mn
  induction mn with
  | zero =>
    intro v2 rv2 hm
    exfalso
    omega
  | succ mn ih =>
    intro v2 rv2 hm
    refine pj_X_of (fun r h => pj_R_to (G0, 4, [(0, .ref 46), (1, .int b), (2, .int v2)], [.ref 46, .int v2], 0, 0) 4 3 (fun _ => rfl) h) ?_
    refine pj_X_of (fun r h => pj_T_gi hI rfl rfl h) ?_
    show pj_X _ _ G0 7 [(0, .ref 46), (1, .int b), (2, .int v2)] [.int (pj_fi G0 46 3), .int v2] _
    obtain ⟨y1, hy1⟩ : ∃ z : Int32, z = pj_fi G0 46 3 := ⟨_, rfl⟩
    rw [← hy1]
    have ey1 : (pj_fi G0 46 3).toInt = y1.toInt := by rw [hy1]
    have ry1 : (0 : Int) ≤ y1.toInt ∧ y1.toInt ≤ 12 := by rw [hy1]; exact hI.2.1 46 3 (0, 12) rfl
    cases b2 : pj_c1 .ge v2 y1 with
    | true =>
      have ub2 := pj_u_geT b2
      refine pj_X_of (fun r h => pj_R_icT 38 rfl rfl b2 h) ?_
      refine pj_X_of (fun r h => pj_R_to (G0, 39, [(0, .ref 46), (1, .int b), (2, .int v2)], [.int (Int32.ofInt 1)], 0, 0) 39 2 (fun _ => rfl) h) ?_
      exact pj_X_rt rfl rfl ⟨_, rfl, rfl, ⟨by omega, by omega⟩⟩
    | false =>
      have ub2 := pj_u_geF b2
      refine pj_X_of (fun r h => pj_R_icF rfl b2 h) ?_
      refine pj_X_of (fun r h => pj_R_to (G0, 12, [(0, .ref 46), (1, .int b), (2, .int v2)], [.ref 46, .ref 46], 0, 0) 12 3 (fun _ => rfl) h) ?_
      refine pj_X_of (fun r h => pj_T_gr hI rfl rfl rfl h) ?_
      refine pj_X_of (fun r h => pj_R_to (G0, 16, [(0, .ref 46), (1, .int b), (2, .int v2)], [.int v2, .ref 47, .ref 46], 0, 0) 16 2 (fun _ => rfl) h) ?_
      refine pj_X_of (fun r h => pj_T_il hI rfl rfl (by omega) (by omega) h) ?_
      show pj_X _ _ G0 17 [(0, .ref 46), (1, .int b), (2, .int v2)] [.int (pj_ai G0 47 v2.toInt.toNat), .ref 46] _
      obtain ⟨z3, hz3⟩ : ∃ z : Int32, z = pj_ai G0 47 v2.toInt.toNat := ⟨_, rfl⟩
      rw [← hz3]
      have ez3 : (pj_ai G0 47 v2.toInt.toNat).toInt = z3.toInt := by rw [hz3]
      refine pj_X_of (fun r h => pj_R_to (G0, 18, [(0, .ref 46), (1, .int b), (2, .int v2)], [.int b, .int z3, .ref 46], 0, 0) 18 2 (fun _ => rfl) h) ?_
      refine pj_X_ca (vs := [.ref 46, .int z3, .int b]) rfl (fun _ => rfl) ⟨Nat.le_of_ble_eq_true rfl, Nat.le_of_ble_eq_true rfl, pj_T_rcv hI rfl⟩ ⟨rfl, rfl⟩ (pj_Y_up (by decide) (ct_18 G0 hI z3 b ⟨by omega, by omega⟩)) ?_
      rintro _ _ ⟨y4, rfl, rfl, ry4⟩
      show pj_X _ _ G0 21 [(0, .ref 46), (1, .int b), (2, .int v2)] [.int y4] _
      refine pj_X_of (fun r h => pj_R_to (G0, 22, [(0, .ref 46), (1, .int b), (2, .int v2)], [.ref 46, .int y4], 0, 0) 22 2 (fun _ => rfl) h) ?_
      refine pj_X_of (fun r h => pj_T_gr hI rfl rfl rfl h) ?_
      refine pj_X_of (fun r h => pj_R_to (G0, 26, [(0, .ref 46), (1, .int b), (2, .int v2)], [.int v2, .ref 48, .int y4], 0, 0) 26 2 (fun _ => rfl) h) ?_
      refine pj_X_of (fun r h => pj_T_bl hI rfl rfl (by omega) (by omega) h) ?_
      show pj_X _ _ G0 27 [(0, .ref 46), (1, .int b), (2, .int v2)] [.int (pj_ai G0 48 v2.toInt.toNat), .int y4] _
      obtain ⟨z5, hz5⟩ : ∃ z : Int32, z = pj_ai G0 48 v2.toInt.toNat := ⟨_, rfl⟩
      rw [← hz5]
      have ez5 : (pj_ai G0 48 v2.toInt.toNat).toInt = z5.toInt := by rw [hz5]
      cases b6 : pj_c1 .eq y4 z5 with
      | true =>
        have ub6 := pj_u_eqT b6
        refine pj_X_of (fun r h => pj_R_icT 32 rfl rfl b6 h) ?_
        refine pj_X_of (fun r h => pj_R_to (G0, 35, [(2, .int (v2 + Int32.ofInt 1)), (0, .ref 46), (1, .int b)], [], 0, 0) 35 2 (fun _ => rfl) h) ?_
        obtain ⟨z7, hz7⟩ : ∃ z : Int32, z = v2 + Int32.ofInt 1 := ⟨_, rfl⟩
        rw [← hz7]
        have fz7_0 : z7.toInt = v2.toInt + (Int32.ofInt 1).toInt := by rw [hz7]; exact pj_addI (by have := pj_i32 v2; have := pj_i32 (Int32.ofInt 1); omega) (by have := pj_i32 v2; have := pj_i32 (Int32.ofInt 1); omega)
        refine pj_X_of (fun r h => pj_R_to (G0, 2, [(2, .int z7), (0, .ref 46), (1, .int b)], [], 0, 0) 2 2 (fun _ => rfl) h) ?_
        exact pj_X_sub [(0, .ref 46), (1, .int b), (2, .int z7)] (show List.Nodup [0, 1, 2] by decide) ⟨rfl, rfl, rfl, trivial⟩ (ih z7 ⟨by omega, by omega⟩ (by omega))
      | false =>
        have ub6 := pj_u_eqF b6
        refine pj_X_of (fun r h => pj_R_icF rfl b6 h) ?_
        refine pj_X_of (fun r h => pj_R_to (G0, 31, [(0, .ref 46), (1, .int b), (2, .int v2)], [.int (Int32.ofInt 0)], 0, 0) 31 2 (fun _ => rfl) h) ?_
        exact pj_X_rt rfl rfl ⟨_, rfl, rfl, ⟨by omega, by omega⟩⟩
theorem ct_19 (G0 : pj_G) (hI : pj_Inv G0) (b : Int32) (rb : (0 : Int) ≤ b.toInt ∧ b.toInt ≤ 5) : pj_Y 3 19 [.ref 46, .int b] G0 (fun v G' => ∃ y : Int32, v = some (.int y) ∧ G0 = G' ∧ ((0 : Int) ≤ y.toInt ∧ y.toInt ≤ 1)) := by
  have c0_ : (Int32.ofInt 0).toInt = 0 := by decide
  have c1_ : (Int32.ofInt 1).toInt = 1 := by decide
  refine pj_Y_X (M := pj_m19) rfl rfl (Nat.le_of_ble_eq_true rfl) ?_
  have hK : pj_kpt ([], [], []) G0 G0 := pj_kpt_r _ _
  show pj_X _ _ G0 0 [(0, .ref 46), (1, .int b)] [] _
  refine pj_X_of (fun r h => pj_R_to (G0, 2, [(2, .int (Int32.ofInt 0)), (0, .ref 46), (1, .int b)], [], 0, 0) 2 3 (fun _ => rfl) h) ?_
  exact pj_X_sub [(0, .ref 46), (1, .int b), (2, .int (Int32.ofInt 0))] (show List.Nodup [0, 1, 2] by decide) ⟨rfl, rfl, rfl, trivial⟩ ((lp_ct_19 G0 hI b rb 13) (Int32.ofInt 0) ⟨by omega, by omega⟩ (by omega))
theorem lp_ct_20 (G0 : pj_G) (hI : pj_Inv G0) : ∀ mn : Nat, (∀ (v1 : Int32) (v2 : Int32), ((-2147483648 : Int) ≤ v1.toInt ∧ v1.toInt ≤ 2147483647) → ((0 : Int) ≤ v2.toInt ∧ v2.toInt ≤ 6) → 6 - v2.toInt < (mn : Int) → pj_X 3 pj_m20 G0 4 [(0, .ref 46), (1, .int v1), (2, .int v2)] [] (fun v G' => ∃ y : Int32, v = some (.int y) ∧ G0 = G' ∧ ((-2147483648 : Int) ≤ y.toInt ∧ y.toInt ≤ 2147483647))) := by
  have c0_ : (Int32.ofInt 0).toInt = 0 := by decide
  have c1_ : (Int32.ofInt 1).toInt = 1 := by decide
  have hK : pj_kpt ([], [], []) G0 G0 := pj_kpt_r _ _
  intro mn
  induction mn with
  | zero =>
    intro v1 v2 rv1 rv2 hm
    exfalso
    omega
  | succ mn ih =>
    intro v1 v2 rv1 rv2 hm
    refine pj_X_of (fun r h => pj_R_to (G0, 6, [(0, .ref 46), (1, .int v1), (2, .int v2)], [.ref 46, .int v2], 0, 0) 6 3 (fun _ => rfl) h) ?_
    refine pj_X_of (fun r h => pj_T_gr hI rfl rfl rfl h) ?_
    refine pj_X_of (fun r h => pj_T_gr hI rfl rfl rfl h) ?_
    refine pj_X_of (fun r h => pj_T_gi hI rfl rfl h) ?_
    show pj_X _ _ G0 15 [(0, .ref 46), (1, .int v1), (2, .int v2)] [.int (pj_fi G0 21 0), .int v2] _
    obtain ⟨y1, hy1⟩ : ∃ z : Int32, z = pj_fi G0 21 0 := ⟨_, rfl⟩
    rw [← hy1]
    have ey1 : (pj_fi G0 21 0).toInt = y1.toInt := by rw [hy1]
    have ry1 : (0 : Int) ≤ y1.toInt ∧ y1.toInt ≤ 6 := by rw [hy1]; exact hI.2.1 21 0 (0, 6) rfl
    cases b2 : pj_c1 .ge v2 y1 with
    | true =>
      have ub2 := pj_u_geT b2
      refine pj_X_of (fun r h => pj_R_icT 42 rfl rfl b2 h) ?_
      refine pj_X_of (fun r h => pj_R_to (G0, 43, [(0, .ref 46), (1, .int v1), (2, .int v2)], [.int v1], 0, 0) 43 2 (fun _ => rfl) h) ?_
      exact pj_X_rt rfl rfl ⟨_, rfl, rfl, pj_i32 _⟩
    | false =>
      have ub2 := pj_u_geF b2
      refine pj_X_of (fun r h => pj_R_icF rfl b2 h) ?_
      refine pj_X_of (fun r h => pj_R_to (G0, 21, [(0, .ref 46), (1, .int v1), (2, .int v2)], [.int v2, .ref 46, .int v1], 0, 0) 21 4 (fun _ => rfl) h) ?_
      refine pj_X_ca (vs := [.ref 46, .int v2]) rfl (fun _ => rfl) ⟨Nat.le_of_ble_eq_true rfl, Nat.le_of_ble_eq_true rfl, pj_T_rcv hI rfl⟩ ⟨rfl, rfl⟩ (pj_Y_up (by decide) (ct_19 G0 hI v2 ⟨by omega, by omega⟩)) ?_
      rintro _ _ ⟨y3, rfl, rfl, ry3⟩
      show pj_X _ _ G0 24 [(0, .ref 46), (1, .int v1), (2, .int v2)] [.int y3, .int v1] _
      cases b4 : pj_c1 .eq y3 0 with
      | true =>
        have ub4 := pj_u0_eqT b4
        refine pj_X_of (fun r h => pj_R_ifT 33 rfl rfl b4 h) ?_
        refine pj_X_of (fun r h => pj_R_to (G0, 35, [(0, .ref 46), (1, .int v1), (2, .int v2)], [.int (v1 ||| (Int32.ofInt 0))], 0, 0) 35 3 (fun _ => rfl) h) ?_
        obtain ⟨z5, hz5⟩ : ∃ z : Int32, z = v1 ||| (Int32.ofInt 0) := ⟨_, rfl⟩
        rw [← hz5]
        refine pj_X_of (fun r h => pj_R_to (G0, 39, [(2, .int (v2 + Int32.ofInt 1)), (1, .int z5), (0, .ref 46)], [], 0, 0) 39 3 (fun _ => rfl) h) ?_
        obtain ⟨z6, hz6⟩ : ∃ z : Int32, z = v2 + Int32.ofInt 1 := ⟨_, rfl⟩
        rw [← hz6]
        have fz6_0 : z6.toInt = v2.toInt + (Int32.ofInt 1).toInt := by rw [hz6]; exact pj_addI (by have := pj_i32 v2; have := pj_i32 (Int32.ofInt 1); omega) (by have := pj_i32 v2; have := pj_i32 (Int32.ofInt 1); omega)
        refine pj_X_of (fun r h => pj_R_to (G0, 4, [(2, .int z6), (1, .int z5), (0, .ref 46)], [], 0, 0) 4 2 (fun _ => rfl) h) ?_
        exact pj_X_sub [(0, .ref 46), (1, .int z5), (2, .int z6)] (show List.Nodup [0, 1, 2] by decide) ⟨rfl, rfl, rfl, trivial⟩ (ih z5 z6 (pj_i32 _) ⟨by omega, by omega⟩ (by omega))
      | false =>
        have ub4 := pj_u0_eqF b4
        refine pj_X_of (fun r h => pj_R_ifF rfl b4 h) ?_
        refine pj_X_of (fun r h => pj_R_to (G0, 30, [(0, .ref 46), (1, .int v1), (2, .int v2)], [.int ((Int32.ofInt 1) <<< (v2 &&& 31)), .int v1], 0, 0) 30 4 (fun _ => rfl) h) ?_
        obtain ⟨z7, hz7⟩ : ∃ z : Int32, z = (Int32.ofInt 1) <<< (v2 &&& 31) := ⟨_, rfl⟩
        rw [← hz7]
        have fz7_0 : 1 ≤ z7.toInt ∧ z7.toInt ≤ 32 := by rw [hz7]; exact pj_shlI5 (by omega) (by omega)
        refine pj_X_of (fun r h => pj_R_to (G0, 35, [(0, .ref 46), (1, .int v1), (2, .int v2)], [.int (v1 ||| z7)], 0, 0) 35 3 (fun _ => rfl) h) ?_
        obtain ⟨z8, hz8⟩ : ∃ z : Int32, z = v1 ||| z7 := ⟨_, rfl⟩
        rw [← hz8]
        refine pj_X_of (fun r h => pj_R_to (G0, 39, [(2, .int (v2 + Int32.ofInt 1)), (1, .int z8), (0, .ref 46)], [], 0, 0) 39 3 (fun _ => rfl) h) ?_
        obtain ⟨z9, hz9⟩ : ∃ z : Int32, z = v2 + Int32.ofInt 1 := ⟨_, rfl⟩
        rw [← hz9]
        have fz9_0 : z9.toInt = v2.toInt + (Int32.ofInt 1).toInt := by rw [hz9]; exact pj_addI (by have := pj_i32 v2; have := pj_i32 (Int32.ofInt 1); omega) (by have := pj_i32 v2; have := pj_i32 (Int32.ofInt 1); omega)
        refine pj_X_of (fun r h => pj_R_to (G0, 4, [(2, .int z9), (1, .int z8), (0, .ref 46)], [], 0, 0) 4 2 (fun _ => rfl) h) ?_
        exact pj_X_sub [(0, .ref 46), (1, .int z8), (2, .int z9)] (show List.Nodup [0, 1, 2] by decide) ⟨rfl, rfl, rfl, trivial⟩ (ih z8 z9 (pj_i32 _) ⟨by omega, by omega⟩ (by omega))
theorem ct_20 (G0 : pj_G) (hI : pj_Inv G0) : pj_Y 4 20 [.ref 46] G0 (fun v G' => ∃ y : Int32, v = some (.int y) ∧ G0 = G' ∧ ((-2147483648 : Int) ≤ y.toInt ∧ y.toInt ≤ 2147483647)) := by
  have c0_ : (Int32.ofInt 0).toInt = 0 := by decide
  have c1_ : (Int32.ofInt 1).toInt = 1 := by decide
  refine pj_Y_X (M := pj_m20) rfl rfl (Nat.le_of_ble_eq_true rfl) ?_
  have hK : pj_kpt ([], [], []) G0 G0 := pj_kpt_r _ _
  show pj_X _ _ G0 0 [(0, .ref 46)] [] _
  refine pj_X_of (fun r h => pj_R_to (G0, 4, [(2, .int (Int32.ofInt 0)), (1, .int (Int32.ofInt 0)), (0, .ref 46)], [], 0, 0) 4 5 (fun _ => rfl) h) ?_
  exact pj_X_sub [(0, .ref 46), (1, .int (Int32.ofInt 0)), (2, .int (Int32.ofInt 0))] (show List.Nodup [0, 1, 2] by decide) ⟨rfl, rfl, rfl, trivial⟩ ((lp_ct_20 G0 hI   7) (Int32.ofInt 0) (Int32.ofInt 0) (pj_i32 _) ⟨by omega, by omega⟩ (by omega))
theorem lp_ct_21 (G0 : pj_G) (hI : pj_Inv G0) (qn : Int32) (ft : Int32) : ∀ mn : Nat, (∀ (v3 : Int32) (v4 : Int32), ((-2147483648 : Int) ≤ v3.toInt ∧ v3.toInt ≤ 2147483647) → ((0 : Int) ≤ v4.toInt ∧ v4.toInt ≤ 6) → 6 - v4.toInt < (mn : Int) → pj_X 3 pj_m21 G0 5 [(0, .ref 46), (1, .int qn), (2, .int ft), (3, .int v3), (4, .int v4)] [] (fun v G' => ∃ y : Int32, v = some (.int y) ∧ G0 = G' ∧ ((-2147483648 : Int) ≤ y.toInt ∧ y.toInt ≤ 2147483647))) := by
  have c0_ : (Int32.ofInt 0).toInt = 0 := by decide
  have c1_ : (Int32.ofInt 1).toInt = 1 := by decide
  have hK : pj_kpt ([], [], []) G0 G0 := pj_kpt_r _ _
  intro mn
  induction mn with
  | zero =>
    intro v3 v4 rv3 rv4 hm
    exfalso
    omega
  | succ mn ih =>
    intro v3 v4 rv3 rv4 hm
    refine pj_X_of (fun r h => pj_R_to (G0, 8, [(0, .ref 46), (1, .int qn), (2, .int ft), (3, .int v3), (4, .int v4)], [.ref 46, .int v4], 0, 0) 8 3 (fun _ => rfl) h) ?_
    refine pj_X_of (fun r h => pj_T_gr hI rfl rfl rfl h) ?_
    refine pj_X_of (fun r h => pj_T_gr hI rfl rfl rfl h) ?_
    refine pj_X_of (fun r h => pj_T_gi hI rfl rfl h) ?_
    show pj_X _ _ G0 17 [(0, .ref 46), (1, .int qn), (2, .int ft), (3, .int v3), (4, .int v4)] [.int (pj_fi G0 21 0), .int v4] _
    obtain ⟨y1, hy1⟩ : ∃ z : Int32, z = pj_fi G0 21 0 := ⟨_, rfl⟩
    rw [← hy1]
    have ey1 : (pj_fi G0 21 0).toInt = y1.toInt := by rw [hy1]
    have ry1 : (0 : Int) ≤ y1.toInt ∧ y1.toInt ≤ 6 := by rw [hy1]; exact hI.2.1 21 0 (0, 6) rfl
    cases b2 : pj_c1 .ge v4 y1 with
    | true =>
      have ub2 := pj_u_geT b2
      refine pj_X_of (fun r h => pj_R_icT 53 rfl rfl b2 h) ?_
      refine pj_X_of (fun r h => pj_R_to (G0, 55, [(0, .ref 46), (1, .int qn), (2, .int ft), (3, .int v3), (4, .int v4)], [.int ft, .int v3], 0, 0) 55 3 (fun _ => rfl) h) ?_
      refine pj_X_ca (vs := [.int ft]) rfl (fun _ => rfl) ⟨Nat.le_of_ble_eq_true rfl, Nat.le_of_ble_eq_true rfl, rfl⟩ ⟨rfl, rfl⟩ (pj_Y_up (by decide) (ct_287 G0 hI ft)) ?_
      rintro _ _ ⟨y3, rfl, rfl, ry3⟩
      show pj_X _ _ G0 58 [(0, .ref 46), (1, .int qn), (2, .int ft), (3, .int v3), (4, .int v4)] [.int y3, .int v3] _
      refine pj_X_of (fun r h => pj_R_to (G0, 60, [(0, .ref 46), (1, .int qn), (2, .int ft), (3, .int v3), (4, .int v4)], [.int (y3 - v3), .int v3], 0, 0) 60 3 (fun _ => rfl) h) ?_
      obtain ⟨z4, hz4⟩ : ∃ z : Int32, z = y3 - v3 := ⟨_, rfl⟩
      rw [← hz4]
      refine pj_X_of (fun r h => pj_R_mx (v := (if v3 < z4 then z4 else v3)) rfl rfl rfl (Nat.le_of_ble_eq_true rfl) h) ?_
      show pj_X _ _ G0 63 [(0, .ref 46), (1, .int qn), (2, .int ft), (3, .int v3), (4, .int v4)] [.int (if v3 < z4 then z4 else v3)] _
      obtain ⟨z5, hz5⟩ : ∃ z : Int32, z = (if v3 < z4 then z4 else v3) := ⟨_, rfl⟩
      rw [← hz5]
      have fz5_0 : v3.toInt ≤ z5.toInt ∧ z4.toInt ≤ z5.toInt ∧ (z5.toInt = v3.toInt ∨ z5.toInt = z4.toInt) := by rw [hz5]; exact pj_maxI
      exact pj_X_rt rfl rfl ⟨_, rfl, rfl, pj_i32 _⟩
    | false =>
      have ub2 := pj_u_geF b2
      refine pj_X_of (fun r h => pj_R_icF rfl b2 h) ?_
      refine pj_X_of (fun r h => pj_R_to (G0, 24, [(0, .ref 46), (1, .int qn), (2, .int ft), (3, .int v3), (4, .int v4)], [.int v4, .int ft, .int v3], 0, 0) 24 4 (fun _ => rfl) h) ?_
      refine pj_X_ca (vs := [.int ft, .int v4]) rfl (fun _ => rfl) ⟨Nat.le_of_ble_eq_true rfl, Nat.le_of_ble_eq_true rfl, rfl⟩ ⟨rfl, rfl⟩ (pj_Y_up (by decide) (ct_163x G0 hI ft v4)) ?_
      rintro _ _ ⟨y6, rfl, rfl, ry6, fy6⟩
      show pj_X _ _ G0 27 [(0, .ref 46), (1, .int qn), (2, .int ft), (3, .int v3), (4, .int v4)] [.int y6, .int v3] _
      cases b7 : pj_c1 .eq y6 0 with
      | true =>
        have ub7 := pj_u0_eqT b7
        refine pj_X_of (fun r h => pj_R_ifT 44 rfl rfl b7 h) ?_
        refine pj_X_of (fun r h => pj_R_to (G0, 46, [(0, .ref 46), (1, .int qn), (2, .int ft), (3, .int v3), (4, .int v4)], [.int (v3 + (Int32.ofInt 0))], 0, 0) 46 3 (fun _ => rfl) h) ?_
        obtain ⟨z8, hz8⟩ : ∃ z : Int32, z = v3 + (Int32.ofInt 0) := ⟨_, rfl⟩
        rw [← hz8]
        have fz8_0 : z8.toInt = v3.toInt + (Int32.ofInt 0).toInt := by rw [hz8]; exact pj_addI (by have := pj_i32 v3; have := pj_i32 (Int32.ofInt 0); omega) (by have := pj_i32 v3; have := pj_i32 (Int32.ofInt 0); omega)
        refine pj_X_of (fun r h => pj_R_to (G0, 50, [(4, .int (v4 + Int32.ofInt 1)), (3, .int z8), (0, .ref 46), (1, .int qn), (2, .int ft)], [], 0, 0) 50 3 (fun _ => rfl) h) ?_
        obtain ⟨z9, hz9⟩ : ∃ z : Int32, z = v4 + Int32.ofInt 1 := ⟨_, rfl⟩
        rw [← hz9]
        have fz9_0 : z9.toInt = v4.toInt + (Int32.ofInt 1).toInt := by rw [hz9]; exact pj_addI (by have := pj_i32 v4; have := pj_i32 (Int32.ofInt 1); omega) (by have := pj_i32 v4; have := pj_i32 (Int32.ofInt 1); omega)
        refine pj_X_of (fun r h => pj_R_to (G0, 5, [(4, .int z9), (3, .int z8), (0, .ref 46), (1, .int qn), (2, .int ft)], [], 0, 0) 5 2 (fun _ => rfl) h) ?_
        exact pj_X_sub [(0, .ref 46), (1, .int qn), (2, .int ft), (3, .int z8), (4, .int z9)] (show List.Nodup [0, 1, 2, 3, 4] by decide) ⟨rfl, rfl, rfl, rfl, rfl, trivial⟩ (ih z8 z9 (pj_i32 _) ⟨by omega, by omega⟩ (by omega))
      | false =>
        have ub7 := pj_u0_eqF b7
        refine pj_X_of (fun r h => pj_R_ifF rfl b7 h) ?_
        refine pj_X_of (fun r h => pj_R_to (G0, 34, [(0, .ref 46), (1, .int qn), (2, .int ft), (3, .int v3), (4, .int v4)], [.int v4, .int qn, .ref 46, .int v3], 0, 0) 34 4 (fun _ => rfl) h) ?_
        refine pj_X_ca (vs := [.ref 46, .int qn, .int v4]) rfl (fun _ => rfl) ⟨Nat.le_of_ble_eq_true rfl, Nat.le_of_ble_eq_true rfl, pj_T_rcv hI rfl⟩ ⟨rfl, rfl⟩ (pj_Y_up (by decide) (ct_18 G0 hI qn v4 ⟨by omega, by omega⟩)) ?_
        rintro _ _ ⟨y10, rfl, rfl, ry10⟩
        show pj_X _ _ G0 37 [(0, .ref 46), (1, .int qn), (2, .int ft), (3, .int v3), (4, .int v4)] [.int y10, .int v3] _
        cases b11 : pj_c1 .eq y10 0 with
        | true =>
          have ub11 := pj_u0_eqT b11
          refine pj_X_of (fun r h => pj_R_ifT 44 rfl rfl b11 h) ?_
          refine pj_X_of (fun r h => pj_R_to (G0, 46, [(0, .ref 46), (1, .int qn), (2, .int ft), (3, .int v3), (4, .int v4)], [.int (v3 + (Int32.ofInt 0))], 0, 0) 46 3 (fun _ => rfl) h) ?_
          obtain ⟨z12, hz12⟩ : ∃ z : Int32, z = v3 + (Int32.ofInt 0) := ⟨_, rfl⟩
          rw [← hz12]
          have fz12_0 : z12.toInt = v3.toInt + (Int32.ofInt 0).toInt := by rw [hz12]; exact pj_addI (by have := pj_i32 v3; have := pj_i32 (Int32.ofInt 0); omega) (by have := pj_i32 v3; have := pj_i32 (Int32.ofInt 0); omega)
          refine pj_X_of (fun r h => pj_R_to (G0, 50, [(4, .int (v4 + Int32.ofInt 1)), (3, .int z12), (0, .ref 46), (1, .int qn), (2, .int ft)], [], 0, 0) 50 3 (fun _ => rfl) h) ?_
          obtain ⟨z13, hz13⟩ : ∃ z : Int32, z = v4 + Int32.ofInt 1 := ⟨_, rfl⟩
          rw [← hz13]
          have fz13_0 : z13.toInt = v4.toInt + (Int32.ofInt 1).toInt := by rw [hz13]; exact pj_addI (by have := pj_i32 v4; have := pj_i32 (Int32.ofInt 1); omega) (by have := pj_i32 v4; have := pj_i32 (Int32.ofInt 1); omega)
          refine pj_X_of (fun r h => pj_R_to (G0, 5, [(4, .int z13), (3, .int z12), (0, .ref 46), (1, .int qn), (2, .int ft)], [], 0, 0) 5 2 (fun _ => rfl) h) ?_
          exact pj_X_sub [(0, .ref 46), (1, .int qn), (2, .int ft), (3, .int z12), (4, .int z13)] (show List.Nodup [0, 1, 2, 3, 4] by decide) ⟨rfl, rfl, rfl, rfl, rfl, trivial⟩ (ih z12 z13 (pj_i32 _) ⟨by omega, by omega⟩ (by omega))
        | false =>
          have ub11 := pj_u0_eqF b11
          refine pj_X_of (fun r h => pj_R_ifF rfl b11 h) ?_
          refine pj_X_of (fun r h => pj_R_to (G0, 46, [(0, .ref 46), (1, .int qn), (2, .int ft), (3, .int v3), (4, .int v4)], [.int (v3 + (Int32.ofInt 1))], 0, 0) 46 4 (fun _ => rfl) h) ?_
          obtain ⟨z14, hz14⟩ : ∃ z : Int32, z = v3 + (Int32.ofInt 1) := ⟨_, rfl⟩
          rw [← hz14]
          refine pj_X_of (fun r h => pj_R_to (G0, 50, [(4, .int (v4 + Int32.ofInt 1)), (3, .int z14), (0, .ref 46), (1, .int qn), (2, .int ft)], [], 0, 0) 50 3 (fun _ => rfl) h) ?_
          obtain ⟨z15, hz15⟩ : ∃ z : Int32, z = v4 + Int32.ofInt 1 := ⟨_, rfl⟩
          rw [← hz15]
          have fz15_0 : z15.toInt = v4.toInt + (Int32.ofInt 1).toInt := by rw [hz15]; exact pj_addI (by have := pj_i32 v4; have := pj_i32 (Int32.ofInt 1); omega) (by have := pj_i32 v4; have := pj_i32 (Int32.ofInt 1); omega)
          refine pj_X_of (fun r h => pj_R_to (G0, 5, [(4, .int z15), (3, .int z14), (0, .ref 46), (1, .int qn), (2, .int ft)], [], 0, 0) 5 2 (fun _ => rfl) h) ?_
          exact pj_X_sub [(0, .ref 46), (1, .int qn), (2, .int ft), (3, .int z14), (4, .int z15)] (show List.Nodup [0, 1, 2, 3, 4] by decide) ⟨rfl, rfl, rfl, rfl, rfl, trivial⟩ (ih z14 z15 (pj_i32 _) ⟨by omega, by omega⟩ (by omega))
theorem ct_21 (G0 : pj_G) (hI : pj_Inv G0) (qn : Int32) (ft : Int32) : pj_Y 4 21 [.ref 46, .int qn, .int ft] G0 (fun v G' => ∃ y : Int32, v = some (.int y) ∧ G0 = G' ∧ ((-2147483648 : Int) ≤ y.toInt ∧ y.toInt ≤ 2147483647)) := by
  have c0_ : (Int32.ofInt 0).toInt = 0 := by decide
  have c1_ : (Int32.ofInt 1).toInt = 1 := by decide
  refine pj_Y_X (M := pj_m21) rfl rfl (Nat.le_of_ble_eq_true rfl) ?_
  have hK : pj_kpt ([], [], []) G0 G0 := pj_kpt_r _ _
  show pj_X _ _ G0 0 [(0, .ref 46), (1, .int qn), (2, .int ft)] [] _
  refine pj_X_of (fun r h => pj_R_to (G0, 5, [(4, .int (Int32.ofInt 0)), (3, .int (Int32.ofInt 0)), (0, .ref 46), (1, .int qn), (2, .int ft)], [], 0, 0) 5 5 (fun _ => rfl) h) ?_
  exact pj_X_sub [(0, .ref 46), (1, .int qn), (2, .int ft), (3, .int (Int32.ofInt 0)), (4, .int (Int32.ofInt 0))] (show List.Nodup [0, 1, 2, 3, 4] by decide) ⟨rfl, rfl, rfl, rfl, rfl, trivial⟩ ((lp_ct_21 G0 hI qn ft  7) (Int32.ofInt 0) (Int32.ofInt 0) (pj_i32 _) ⟨by omega, by omega⟩ (by omega))
def kc_23 : pj_KT := ([], [36, 37], [36, 37])
theorem lp_ct_23 (G0 : pj_G) (hI0 : pj_Inv G0) : ∀ mn : Nat, (∀ (G : pj_G) (hI : pj_Inv G) (hK : pj_kpt kc_23 G0 G) (v1 : Int32), ((0 : Int) ≤ v1.toInt ∧ v1.toInt ≤ 10) → 30 * (10 - v1.toInt) < (mn : Int) → pj_X 0 pj_m23 G 2 [(0, .ref 34), (1, .int v1)] [] (fun v G' => ∃ y : Int32, v = some (.int y) ∧ pj_Inv G' ∧ pj_kpt kc_23 G0 G' ∧ ((-2147483648 : Int) ≤ y.toInt ∧ y.toInt ≤ 2147483647))) ∧ (∀ (G : pj_G) (hI : pj_Inv G) (hK : pj_kpt kc_23 G0 G) (v1 : Int32) (v2 : Int32), ((0 : Int) ≤ v1.toInt ∧ v1.toInt ≤ 9) → ((0 : Int) ≤ v2.toInt ∧ v2.toInt ≤ 10) → 30 * (10 - v1.toInt) - 1 - v2.toInt < (mn : Int) → pj_X 0 pj_m23 G 24 [(0, .ref 34), (1, .int v1), (2, .int v2)] [] (fun v G' => ∃ y : Int32, v = some (.int y) ∧ pj_Inv G' ∧ pj_kpt kc_23 G0 G' ∧ ((-2147483648 : Int) ≤ y.toInt ∧ y.toInt ≤ 2147483647))) ∧ (∀ (G : pj_G) (hI : pj_Inv G) (hK : pj_kpt kc_23 G0 G) (v1 : Int32) (v2 : Int32), ((0 : Int) ≤ v1.toInt ∧ v1.toInt ≤ 9) → ((0 : Int) ≤ v2.toInt ∧ v2.toInt ≤ 6) → 30 * (10 - v1.toInt) - 15 - v2.toInt < (mn : Int) → pj_X 0 pj_m23 G 78 [(0, .ref 34), (1, .int v1), (2, .int v2)] [] (fun v G' => ∃ y : Int32, v = some (.int y) ∧ pj_Inv G' ∧ pj_kpt kc_23 G0 G' ∧ ((-2147483648 : Int) ≤ y.toInt ∧ y.toInt ≤ 2147483647))) := by
  have c0_ : ((Int8.ofInt 10).toInt32).toInt = 10 := by decide
  have c1_ : (Int32.ofInt 0).toInt = 0 := by decide
  have c2_ : (Int32.ofInt 1).toInt = 1 := by decide
  intro mn
  induction mn with
  | zero =>
    refine ⟨?_, ?_, ?_⟩
    · intro G hI hK v1 rv1 hm
      exfalso
      omega
    · intro G hI hK v1 v2 rv1 rv2 hm
      exfalso
      omega
    · intro G hI hK v1 v2 rv1 rv2 hm
      exfalso
      omega
  | succ mn ih =>
    refine ⟨?_, ?_, ?_⟩
    · intro G hI hK v1 rv1 hm
      refine pj_X_of (fun r h => pj_R_to (G, 5, [(0, .ref 34), (1, .int v1)], [.int ((Int8.ofInt 10).toInt32), .int v1], 0, 0) 5 3 (fun _ => rfl) h) ?_
      cases b1 : pj_c1 .ge v1 ((Int8.ofInt 10).toInt32) with
      | true =>
        have ub1 := pj_u_geT b1
        refine pj_X_of (fun r h => pj_R_icT 133 rfl rfl b1 h) ?_
        refine pj_X_of (fun r h => pj_R_to (G, 135, [(0, .ref 34), (1, .int v1)], [.ref 34, .int (Int32.ofInt 1)], 0, 0) 135 3 (fun _ => rfl) h) ?_
        refine pj_X_of (fun r h => pj_T_gr hI rfl rfl rfl h) ?_
        refine pj_X_of (fun r h => pj_T_gr hI rfl rfl rfl h) ?_
        refine pj_X_of (fun r h => pj_T_gi hI rfl rfl h) ?_
        show pj_X _ _ G 144 [(0, .ref 34), (1, .int v1)] [.int (pj_fi G 21 0), .int (Int32.ofInt 1)] _
        obtain ⟨y2, hy2⟩ : ∃ z : Int32, z = pj_fi G 21 0 := ⟨_, rfl⟩
        rw [← hy2]
        have ey2 : (pj_fi G 21 0).toInt = y2.toInt := by rw [hy2]
        have ry2 : (0 : Int) ≤ y2.toInt ∧ y2.toInt ≤ 6 := by rw [hy2]; exact hI.2.1 21 0 (0, 6) rfl
        refine pj_X_of (fun r h => pj_R_to (G, 145, [(0, .ref 34), (1, .int v1)], [.int ((Int32.ofInt 1) <<< (y2 &&& 31))], 0, 0) 145 2 (fun _ => rfl) h) ?_
        obtain ⟨z3, hz3⟩ : ∃ z : Int32, z = (Int32.ofInt 1) <<< (y2 &&& 31) := ⟨_, rfl⟩
        rw [← hz3]
        have fz3_0 : 1 ≤ z3.toInt ∧ z3.toInt ≤ 64 := by rw [hz3]; exact pj_shlI6 (by omega) (by omega)
        refine pj_X_of (fun r h => pj_R_to (G, 147, [(0, .ref 34), (1, .int v1)], [.int (z3 - (Int32.ofInt 1))], 0, 0) 147 3 (fun _ => rfl) h) ?_
        obtain ⟨z4, hz4⟩ : ∃ z : Int32, z = z3 - (Int32.ofInt 1) := ⟨_, rfl⟩
        rw [← hz4]
        have fz4_0 : z4.toInt = z3.toInt - (Int32.ofInt 1).toInt := by rw [hz4]; exact pj_subI (by have := pj_i32 z3; have := pj_i32 (Int32.ofInt 1); omega) (by have := pj_i32 z3; have := pj_i32 (Int32.ofInt 1); omega)
        exact pj_X_rt rfl rfl ⟨_, rfl, hI, hK, pj_i32 _⟩
      | false =>
        have ub1 := pj_u_geF b1
        refine pj_X_of (fun r h => pj_R_icF rfl b1 h) ?_
        refine pj_X_of (fun r h => pj_R_to (G, 9, [(0, .ref 34), (1, .int v1)], [.ref 34], 0, 0) 9 2 (fun _ => rfl) h) ?_
        refine pj_X_of (fun r h => pj_T_gr hI rfl rfl rfl h) ?_
        refine pj_X_of (fun r h => pj_R_to (G, 14, [(0, .ref 34), (1, .int v1)], [.int (Int32.ofInt 0), .int v1, .ref 36], 0, 0) 14 3 (fun _ => rfl) h) ?_
        refine pj_X_of (fun r h => pj_T_is hI rfl rfl (by omega) (by omega) h) ?_
        show pj_X _ _ (pj_wa G 36 v1.toInt.toNat (Int32.ofInt 0)) 15 [(0, .ref 34), (1, .int v1)] [] _
        obtain ⟨G5, hG5⟩ : ∃ H, H = pj_wa G 36 v1.toInt.toNat (Int32.ofInt 0) := ⟨_, rfl⟩
        have iG5 : pj_Inv G5 := by rw [hG5]; exact pj_Inv_wa hI rfl (fun q hq => by cases hq) (fun n hn => by cases hn)
        have kG5 : pj_kpt kc_23 G0 G5 := by rw [hG5]; exact pj_kpt_a hK rfl
        rw [← hG5]
        refine pj_X_of (fun r h => pj_R_to (G5, 16, [(0, .ref 34), (1, .int v1)], [.ref 34], 0, 0) 16 2 (fun _ => rfl) h) ?_
        refine pj_X_of (fun r h => pj_T_gr iG5 rfl rfl rfl h) ?_
        refine pj_X_of (fun r h => pj_R_to (G5, 21, [(0, .ref 34), (1, .int v1)], [.int (Int32.ofInt 0), .int v1, .ref 37], 0, 0) 21 3 (fun _ => rfl) h) ?_
        refine pj_X_of (fun r h => pj_T_is iG5 rfl rfl (by omega) (by omega) h) ?_
        show pj_X _ _ (pj_wa G5 37 v1.toInt.toNat (Int32.ofInt 0)) 22 [(0, .ref 34), (1, .int v1)] [] _
        obtain ⟨G6, hG6⟩ : ∃ H, H = pj_wa G5 37 v1.toInt.toNat (Int32.ofInt 0) := ⟨_, rfl⟩
        have iG6 : pj_Inv G6 := by rw [hG6]; exact pj_Inv_wa iG5 rfl (fun q hq => by cases hq) (fun n hn => by cases hn)
        have kG6 : pj_kpt kc_23 G0 G6 := by rw [hG6]; exact pj_kpt_a kG5 rfl
        rw [← hG6]
        refine pj_X_of (fun r h => pj_R_to (G6, 24, [(2, .int (Int32.ofInt 0)), (0, .ref 34), (1, .int v1)], [], 0, 0) 24 3 (fun _ => rfl) h) ?_
        exact pj_X_sub [(0, .ref 34), (1, .int v1), (2, .int (Int32.ofInt 0))] (show List.Nodup [0, 1, 2] by decide) ⟨rfl, rfl, rfl, trivial⟩ (ih.2.1 G6 iG6 kG6 v1 (Int32.ofInt 0) ⟨by omega, by omega⟩ ⟨by omega, by omega⟩ (by omega))
    · intro G hI hK v1 v2 rv1 rv2 hm
      refine pj_X_of (fun r h => pj_R_to (G, 26, [(0, .ref 34), (1, .int v1), (2, .int v2)], [.ref 34, .int v2], 0, 0) 26 3 (fun _ => rfl) h) ?_
      refine pj_X_of (fun r h => pj_T_gr hI rfl rfl rfl h) ?_
      refine pj_X_gm hI rfl rfl (fun q7 => ?_) (fun q7 => ?_)
      · refine pj_X_of (fun r h => pj_T_gi hI rfl rfl h) ?_
        show pj_X _ _ G 35 [(0, .ref 34), (1, .int v1), (2, .int v2)] [.int (pj_fi G 7 1), .int v2] _
        obtain ⟨y8, hy8⟩ : ∃ z : Int32, z = pj_fi G 7 1 := ⟨_, rfl⟩
        rw [← hy8]
        have ey8 : (pj_fi G 7 1).toInt = y8.toInt := by rw [hy8]
        have ry8 : (0 : Int) ≤ y8.toInt ∧ y8.toInt ≤ 10 := by rw [hy8]; exact hI.2.1 7 1 (0, 10) rfl
        cases b9 : pj_c1 .ge v2 y8 with
        | true =>
          have ub9 := pj_u_geT b9
          refine pj_X_of (fun r h => pj_R_icT 76 rfl rfl b9 h) ?_
          refine pj_X_of (fun r h => pj_R_to (G, 78, [(2, .int (Int32.ofInt 0)), (0, .ref 34), (1, .int v1)], [], 0, 0) 78 3 (fun _ => rfl) h) ?_
          exact pj_X_sub [(0, .ref 34), (1, .int v1), (2, .int (Int32.ofInt 0))] (show List.Nodup [0, 1, 2] by decide) ⟨rfl, rfl, rfl, trivial⟩ (ih.2.2 G hI hK v1 (Int32.ofInt 0) ⟨by omega, by omega⟩ ⟨by omega, by omega⟩ (by omega))
        | false =>
          have ub9 := pj_u_geF b9
          refine pj_X_of (fun r h => pj_R_icF rfl b9 h) ?_
          refine pj_X_of (fun r h => pj_R_to (G, 39, [(0, .ref 34), (1, .int v1), (2, .int v2)], [.ref 34], 0, 0) 39 2 (fun _ => rfl) h) ?_
          refine pj_X_of (fun r h => pj_T_gr hI rfl rfl rfl h) ?_
          refine pj_X_of (fun r h => pj_R_to (G, 44, [(0, .ref 34), (1, .int v1), (2, .int v2)], [.int v1, .ref 36, .int v1, .ref 36], 0, 0) 44 3 (fun _ => rfl) h) ?_
          refine pj_X_of (fun r h => pj_T_il hI rfl rfl (by omega) (by omega) h) ?_
          show pj_X _ _ G 45 [(0, .ref 34), (1, .int v1), (2, .int v2)] [.int (pj_ai G 36 v1.toInt.toNat), .int v1, .ref 36] _
          obtain ⟨z10, hz10⟩ : ∃ z : Int32, z = pj_ai G 36 v1.toInt.toNat := ⟨_, rfl⟩
          rw [← hz10]
          have ez10 : (pj_ai G 36 v1.toInt.toNat).toInt = z10.toInt := by rw [hz10]
          refine pj_X_of (fun r h => pj_R_to (G, 46, [(0, .ref 34), (1, .int v1), (2, .int v2)], [.ref 34, .int z10, .int v1, .ref 36], 0, 0) 46 2 (fun _ => rfl) h) ?_
          refine pj_X_of (fun r h => pj_T_gr hI rfl rfl rfl h) ?_
          refine pj_X_gk hI rfl rfl q7 ?_
          refine pj_X_of (fun r h => pj_T_gr hI rfl rfl rfl h) ?_
          refine pj_X_of (fun r h => pj_R_to (G, 56, [(0, .ref 34), (1, .int v1), (2, .int v2)], [.int v2, .ref 11, .int z10, .int v1, .ref 36], 0, 0) 56 2 (fun _ => rfl) h) ?_
          refine pj_X_of (fun r h => pj_T_il hI rfl rfl (by omega) (by omega) h) ?_
          show pj_X _ _ G 57 [(0, .ref 34), (1, .int v1), (2, .int v2)] [.int (pj_ai G 11 v2.toInt.toNat), .int z10, .int v1, .ref 36] _
          obtain ⟨z11, hz11⟩ : ∃ z : Int32, z = pj_ai G 11 v2.toInt.toNat := ⟨_, rfl⟩
          rw [← hz11]
          have ez11 : (pj_ai G 11 v2.toInt.toNat).toInt = z11.toInt := by rw [hz11]
          have fz11_0 : (0 : Int) ≤ z11.toInt ∧ z11.toInt ≤ 9 ∧ (z11.toInt ≤ 0 ∨ 0 ≤ z11.toInt) := by rw [hz11]; exact hI.2.2.1 11 (10, 0, 9, 0, 0) rfl _ (by show _ < 10; omega)
          refine pj_X_of (fun r h => pj_R_to (G, 58, [(0, .ref 34), (1, .int v1), (2, .int v2)], [.int v1, .int z11, .int z10, .int v1, .ref 36], 0, 0) 58 2 (fun _ => rfl) h) ?_
          cases b12 : pj_c1 .lt z11 v1 with
          | true =>
            have ub12 := pj_u_ltT b12
            refine pj_X_of (fun r h => pj_R_icT 67 rfl rfl b12 h) ?_
            refine pj_X_of (fun r h => pj_R_to (G, 69, [(0, .ref 34), (1, .int v1), (2, .int v2)], [.int (z10 ||| (Int32.ofInt 0)), .int v1, .ref 36], 0, 0) 69 3 (fun _ => rfl) h) ?_
            obtain ⟨z13, hz13⟩ : ∃ z : Int32, z = z10 ||| (Int32.ofInt 0) := ⟨_, rfl⟩
            rw [← hz13]
            refine pj_X_of (fun r h => pj_T_is hI rfl rfl (by omega) (by omega) h) ?_
            show pj_X _ _ (pj_wa G 36 v1.toInt.toNat z13) 70 [(0, .ref 34), (1, .int v1), (2, .int v2)] [] _
            obtain ⟨G14, hG14⟩ : ∃ H, H = pj_wa G 36 v1.toInt.toNat z13 := ⟨_, rfl⟩
            have iG14 : pj_Inv G14 := by rw [hG14]; exact pj_Inv_wa hI rfl (fun q hq => by cases hq) (fun n hn => by cases hn)
            have kG14 : pj_kpt kc_23 G0 G14 := by rw [hG14]; exact pj_kpt_a hK rfl
            rw [← hG14]
            refine pj_X_of (fun r h => pj_R_to (G14, 73, [(2, .int (v2 + Int32.ofInt 1)), (0, .ref 34), (1, .int v1)], [], 0, 0) 73 2 (fun _ => rfl) h) ?_
            obtain ⟨z15, hz15⟩ : ∃ z : Int32, z = v2 + Int32.ofInt 1 := ⟨_, rfl⟩
            rw [← hz15]
            have fz15_0 : z15.toInt = v2.toInt + (Int32.ofInt 1).toInt := by rw [hz15]; exact pj_addI (by have := pj_i32 v2; have := pj_i32 (Int32.ofInt 1); omega) (by have := pj_i32 v2; have := pj_i32 (Int32.ofInt 1); omega)
            refine pj_X_of (fun r h => pj_R_to (G14, 24, [(2, .int z15), (0, .ref 34), (1, .int v1)], [], 0, 0) 24 2 (fun _ => rfl) h) ?_
            exact pj_X_sub [(0, .ref 34), (1, .int v1), (2, .int z15)] (show List.Nodup [0, 1, 2] by decide) ⟨rfl, rfl, rfl, trivial⟩ (ih.2.1 G14 iG14 kG14 v1 z15 ⟨by omega, by omega⟩ ⟨by omega, by omega⟩ (by omega))
          | false =>
            have ub12 := pj_u_ltF b12
            refine pj_X_of (fun r h => pj_R_icF rfl b12 h) ?_
            refine pj_X_of (fun r h => pj_R_to (G, 64, [(0, .ref 34), (1, .int v1), (2, .int v2)], [.int ((Int32.ofInt 1) <<< (v2 &&& 31)), .int z10, .int v1, .ref 36], 0, 0) 64 4 (fun _ => rfl) h) ?_
            obtain ⟨z16, hz16⟩ : ∃ z : Int32, z = (Int32.ofInt 1) <<< (v2 &&& 31) := ⟨_, rfl⟩
            rw [← hz16]
            have fz16_0 : 1 ≤ z16.toInt ∧ z16.toInt ≤ 512 := by rw [hz16]; exact pj_shlI9 (by omega) (by omega)
            refine pj_X_of (fun r h => pj_R_to (G, 69, [(0, .ref 34), (1, .int v1), (2, .int v2)], [.int (z10 ||| z16), .int v1, .ref 36], 0, 0) 69 3 (fun _ => rfl) h) ?_
            obtain ⟨z17, hz17⟩ : ∃ z : Int32, z = z10 ||| z16 := ⟨_, rfl⟩
            rw [← hz17]
            refine pj_X_of (fun r h => pj_T_is hI rfl rfl (by omega) (by omega) h) ?_
            show pj_X _ _ (pj_wa G 36 v1.toInt.toNat z17) 70 [(0, .ref 34), (1, .int v1), (2, .int v2)] [] _
            obtain ⟨G18, hG18⟩ : ∃ H, H = pj_wa G 36 v1.toInt.toNat z17 := ⟨_, rfl⟩
            have iG18 : pj_Inv G18 := by rw [hG18]; exact pj_Inv_wa hI rfl (fun q hq => by cases hq) (fun n hn => by cases hn)
            have kG18 : pj_kpt kc_23 G0 G18 := by rw [hG18]; exact pj_kpt_a hK rfl
            rw [← hG18]
            refine pj_X_of (fun r h => pj_R_to (G18, 73, [(2, .int (v2 + Int32.ofInt 1)), (0, .ref 34), (1, .int v1)], [], 0, 0) 73 2 (fun _ => rfl) h) ?_
            obtain ⟨z19, hz19⟩ : ∃ z : Int32, z = v2 + Int32.ofInt 1 := ⟨_, rfl⟩
            rw [← hz19]
            have fz19_0 : z19.toInt = v2.toInt + (Int32.ofInt 1).toInt := by rw [hz19]; exact pj_addI (by have := pj_i32 v2; have := pj_i32 (Int32.ofInt 1); omega) (by have := pj_i32 v2; have := pj_i32 (Int32.ofInt 1); omega)
            refine pj_X_of (fun r h => pj_R_to (G18, 24, [(2, .int z19), (0, .ref 34), (1, .int v1)], [], 0, 0) 24 2 (fun _ => rfl) h) ?_
            exact pj_X_sub [(0, .ref 34), (1, .int v1), (2, .int z19)] (show List.Nodup [0, 1, 2] by decide) ⟨rfl, rfl, rfl, trivial⟩ (ih.2.1 G18 iG18 kG18 v1 z19 ⟨by omega, by omega⟩ ⟨by omega, by omega⟩ (by omega))
      · refine pj_X_of (fun r h => pj_T_gi hI rfl rfl h) ?_
        show pj_X _ _ G 35 [(0, .ref 34), (1, .int v1), (2, .int v2)] [.int (pj_fi G 14 1), .int v2] _
        obtain ⟨y20, hy20⟩ : ∃ z : Int32, z = pj_fi G 14 1 := ⟨_, rfl⟩
        rw [← hy20]
        have ey20 : (pj_fi G 14 1).toInt = y20.toInt := by rw [hy20]
        have ry20 : (0 : Int) ≤ y20.toInt ∧ y20.toInt ≤ 10 := by rw [hy20]; exact hI.2.1 14 1 (0, 10) rfl
        cases b21 : pj_c1 .ge v2 y20 with
        | true =>
          have ub21 := pj_u_geT b21
          refine pj_X_of (fun r h => pj_R_icT 76 rfl rfl b21 h) ?_
          refine pj_X_of (fun r h => pj_R_to (G, 78, [(2, .int (Int32.ofInt 0)), (0, .ref 34), (1, .int v1)], [], 0, 0) 78 3 (fun _ => rfl) h) ?_
          exact pj_X_sub [(0, .ref 34), (1, .int v1), (2, .int (Int32.ofInt 0))] (show List.Nodup [0, 1, 2] by decide) ⟨rfl, rfl, rfl, trivial⟩ (ih.2.2 G hI hK v1 (Int32.ofInt 0) ⟨by omega, by omega⟩ ⟨by omega, by omega⟩ (by omega))
        | false =>
          have ub21 := pj_u_geF b21
          refine pj_X_of (fun r h => pj_R_icF rfl b21 h) ?_
          refine pj_X_of (fun r h => pj_R_to (G, 39, [(0, .ref 34), (1, .int v1), (2, .int v2)], [.ref 34], 0, 0) 39 2 (fun _ => rfl) h) ?_
          refine pj_X_of (fun r h => pj_T_gr hI rfl rfl rfl h) ?_
          refine pj_X_of (fun r h => pj_R_to (G, 44, [(0, .ref 34), (1, .int v1), (2, .int v2)], [.int v1, .ref 36, .int v1, .ref 36], 0, 0) 44 3 (fun _ => rfl) h) ?_
          refine pj_X_of (fun r h => pj_T_il hI rfl rfl (by omega) (by omega) h) ?_
          show pj_X _ _ G 45 [(0, .ref 34), (1, .int v1), (2, .int v2)] [.int (pj_ai G 36 v1.toInt.toNat), .int v1, .ref 36] _
          obtain ⟨z22, hz22⟩ : ∃ z : Int32, z = pj_ai G 36 v1.toInt.toNat := ⟨_, rfl⟩
          rw [← hz22]
          have ez22 : (pj_ai G 36 v1.toInt.toNat).toInt = z22.toInt := by rw [hz22]
          refine pj_X_of (fun r h => pj_R_to (G, 46, [(0, .ref 34), (1, .int v1), (2, .int v2)], [.ref 34, .int z22, .int v1, .ref 36], 0, 0) 46 2 (fun _ => rfl) h) ?_
          refine pj_X_of (fun r h => pj_T_gr hI rfl rfl rfl h) ?_
          refine pj_X_gk hI rfl rfl q7 ?_
          refine pj_X_of (fun r h => pj_T_gr hI rfl rfl rfl h) ?_
          refine pj_X_of (fun r h => pj_R_to (G, 56, [(0, .ref 34), (1, .int v1), (2, .int v2)], [.int v2, .ref 18, .int z22, .int v1, .ref 36], 0, 0) 56 2 (fun _ => rfl) h) ?_
          refine pj_X_of (fun r h => pj_T_il hI rfl rfl (by omega) (by omega) h) ?_
          show pj_X _ _ G 57 [(0, .ref 34), (1, .int v1), (2, .int v2)] [.int (pj_ai G 18 v2.toInt.toNat), .int z22, .int v1, .ref 36] _
          obtain ⟨z23, hz23⟩ : ∃ z : Int32, z = pj_ai G 18 v2.toInt.toNat := ⟨_, rfl⟩
          rw [← hz23]
          have ez23 : (pj_ai G 18 v2.toInt.toNat).toInt = z23.toInt := by rw [hz23]
          have fz23_0 : (0 : Int) ≤ z23.toInt ∧ z23.toInt ≤ 9 ∧ (z23.toInt ≤ 0 ∨ 0 ≤ z23.toInt) := by rw [hz23]; exact hI.2.2.1 18 (10, 0, 9, 0, 0) rfl _ (by show _ < 10; omega)
          refine pj_X_of (fun r h => pj_R_to (G, 58, [(0, .ref 34), (1, .int v1), (2, .int v2)], [.int v1, .int z23, .int z22, .int v1, .ref 36], 0, 0) 58 2 (fun _ => rfl) h) ?_
          cases b24 : pj_c1 .lt z23 v1 with
          | true =>
            have ub24 := pj_u_ltT b24
            refine pj_X_of (fun r h => pj_R_icT 67 rfl rfl b24 h) ?_
            refine pj_X_of (fun r h => pj_R_to (G, 69, [(0, .ref 34), (1, .int v1), (2, .int v2)], [.int (z22 ||| (Int32.ofInt 0)), .int v1, .ref 36], 0, 0) 69 3 (fun _ => rfl) h) ?_
            obtain ⟨z25, hz25⟩ : ∃ z : Int32, z = z22 ||| (Int32.ofInt 0) := ⟨_, rfl⟩
            rw [← hz25]
            refine pj_X_of (fun r h => pj_T_is hI rfl rfl (by omega) (by omega) h) ?_
            show pj_X _ _ (pj_wa G 36 v1.toInt.toNat z25) 70 [(0, .ref 34), (1, .int v1), (2, .int v2)] [] _
            obtain ⟨G26, hG26⟩ : ∃ H, H = pj_wa G 36 v1.toInt.toNat z25 := ⟨_, rfl⟩
            have iG26 : pj_Inv G26 := by rw [hG26]; exact pj_Inv_wa hI rfl (fun q hq => by cases hq) (fun n hn => by cases hn)
            have kG26 : pj_kpt kc_23 G0 G26 := by rw [hG26]; exact pj_kpt_a hK rfl
            rw [← hG26]
            refine pj_X_of (fun r h => pj_R_to (G26, 73, [(2, .int (v2 + Int32.ofInt 1)), (0, .ref 34), (1, .int v1)], [], 0, 0) 73 2 (fun _ => rfl) h) ?_
            obtain ⟨z27, hz27⟩ : ∃ z : Int32, z = v2 + Int32.ofInt 1 := ⟨_, rfl⟩
            rw [← hz27]
            have fz27_0 : z27.toInt = v2.toInt + (Int32.ofInt 1).toInt := by rw [hz27]; exact pj_addI (by have := pj_i32 v2; have := pj_i32 (Int32.ofInt 1); omega) (by have := pj_i32 v2; have := pj_i32 (Int32.ofInt 1); omega)
            refine pj_X_of (fun r h => pj_R_to (G26, 24, [(2, .int z27), (0, .ref 34), (1, .int v1)], [], 0, 0) 24 2 (fun _ => rfl) h) ?_
            exact pj_X_sub [(0, .ref 34), (1, .int v1), (2, .int z27)] (show List.Nodup [0, 1, 2] by decide) ⟨rfl, rfl, rfl, trivial⟩ (ih.2.1 G26 iG26 kG26 v1 z27 ⟨by omega, by omega⟩ ⟨by omega, by omega⟩ (by omega))
          | false =>
            have ub24 := pj_u_ltF b24
            refine pj_X_of (fun r h => pj_R_icF rfl b24 h) ?_
            refine pj_X_of (fun r h => pj_R_to (G, 64, [(0, .ref 34), (1, .int v1), (2, .int v2)], [.int ((Int32.ofInt 1) <<< (v2 &&& 31)), .int z22, .int v1, .ref 36], 0, 0) 64 4 (fun _ => rfl) h) ?_
            obtain ⟨z28, hz28⟩ : ∃ z : Int32, z = (Int32.ofInt 1) <<< (v2 &&& 31) := ⟨_, rfl⟩
            rw [← hz28]
            have fz28_0 : 1 ≤ z28.toInt ∧ z28.toInt ≤ 512 := by rw [hz28]; exact pj_shlI9 (by omega) (by omega)
            refine pj_X_of (fun r h => pj_R_to (G, 69, [(0, .ref 34), (1, .int v1), (2, .int v2)], [.int (z22 ||| z28), .int v1, .ref 36], 0, 0) 69 3 (fun _ => rfl) h) ?_
            obtain ⟨z29, hz29⟩ : ∃ z : Int32, z = z22 ||| z28 := ⟨_, rfl⟩
            rw [← hz29]
            refine pj_X_of (fun r h => pj_T_is hI rfl rfl (by omega) (by omega) h) ?_
            show pj_X _ _ (pj_wa G 36 v1.toInt.toNat z29) 70 [(0, .ref 34), (1, .int v1), (2, .int v2)] [] _
            obtain ⟨G30, hG30⟩ : ∃ H, H = pj_wa G 36 v1.toInt.toNat z29 := ⟨_, rfl⟩
            have iG30 : pj_Inv G30 := by rw [hG30]; exact pj_Inv_wa hI rfl (fun q hq => by cases hq) (fun n hn => by cases hn)
            have kG30 : pj_kpt kc_23 G0 G30 := by rw [hG30]; exact pj_kpt_a hK rfl
            rw [← hG30]
            refine pj_X_of (fun r h => pj_R_to (G30, 73, [(2, .int (v2 + Int32.ofInt 1)), (0, .ref 34), (1, .int v1)], [], 0, 0) 73 2 (fun _ => rfl) h) ?_
            obtain ⟨z31, hz31⟩ : ∃ z : Int32, z = v2 + Int32.ofInt 1 := ⟨_, rfl⟩
            rw [← hz31]
            have fz31_0 : z31.toInt = v2.toInt + (Int32.ofInt 1).toInt := by rw [hz31]; exact pj_addI (by have := pj_i32 v2; have := pj_i32 (Int32.ofInt 1); omega) (by have := pj_i32 v2; have := pj_i32 (Int32.ofInt 1); omega)
            refine pj_X_of (fun r h => pj_R_to (G30, 24, [(2, .int z31), (0, .ref 34), (1, .int v1)], [], 0, 0) 24 2 (fun _ => rfl) h) ?_
            exact pj_X_sub [(0, .ref 34), (1, .int v1), (2, .int z31)] (show List.Nodup [0, 1, 2] by decide) ⟨rfl, rfl, rfl, trivial⟩ (ih.2.1 G30 iG30 kG30 v1 z31 ⟨by omega, by omega⟩ ⟨by omega, by omega⟩ (by omega))
    · intro G hI hK v1 v2 rv1 rv2 hm
      refine pj_X_of (fun r h => pj_R_to (G, 80, [(0, .ref 34), (1, .int v1), (2, .int v2)], [.ref 34, .int v2], 0, 0) 80 3 (fun _ => rfl) h) ?_
      refine pj_X_of (fun r h => pj_T_gr hI rfl rfl rfl h) ?_
      refine pj_X_of (fun r h => pj_T_gr hI rfl rfl rfl h) ?_
      refine pj_X_of (fun r h => pj_T_gi hI rfl rfl h) ?_
      show pj_X _ _ G 89 [(0, .ref 34), (1, .int v1), (2, .int v2)] [.int (pj_fi G 21 0), .int v2] _
      obtain ⟨y32, hy32⟩ : ∃ z : Int32, z = pj_fi G 21 0 := ⟨_, rfl⟩
      rw [← hy32]
      have ey32 : (pj_fi G 21 0).toInt = y32.toInt := by rw [hy32]
      have ry32 : (0 : Int) ≤ y32.toInt ∧ y32.toInt ≤ 6 := by rw [hy32]; exact hI.2.1 21 0 (0, 6) rfl
      cases b33 : pj_c1 .ge v2 y32 with
      | true =>
        have ub33 := pj_u_geT b33
        refine pj_X_of (fun r h => pj_R_icT 127 rfl rfl b33 h) ?_
        refine pj_X_of (fun r h => pj_R_to (G, 130, [(1, .int (v1 + Int32.ofInt 1)), (0, .ref 34), (2, .int v2)], [], 0, 0) 130 2 (fun _ => rfl) h) ?_
        obtain ⟨z34, hz34⟩ : ∃ z : Int32, z = v1 + Int32.ofInt 1 := ⟨_, rfl⟩
        rw [← hz34]
        have fz34_0 : z34.toInt = v1.toInt + (Int32.ofInt 1).toInt := by rw [hz34]; exact pj_addI (by have := pj_i32 v1; have := pj_i32 (Int32.ofInt 1); omega) (by have := pj_i32 v1; have := pj_i32 (Int32.ofInt 1); omega)
        refine pj_X_of (fun r h => pj_R_to (G, 2, [(1, .int z34), (0, .ref 34), (2, .int v2)], [], 0, 0) 2 2 (fun _ => rfl) h) ?_
        exact pj_X_sub [(0, .ref 34), (1, .int z34)] (show List.Nodup [0, 1] by decide) ⟨rfl, rfl, trivial⟩ (ih.1 G hI hK z34 ⟨by omega, by omega⟩ (by omega))
      | false =>
        have ub33 := pj_u_geF b33
        refine pj_X_of (fun r h => pj_R_icF rfl b33 h) ?_
        refine pj_X_of (fun r h => pj_R_to (G, 93, [(0, .ref 34), (1, .int v1), (2, .int v2)], [.ref 34], 0, 0) 93 2 (fun _ => rfl) h) ?_
        refine pj_X_of (fun r h => pj_T_gr hI rfl rfl rfl h) ?_
        refine pj_X_of (fun r h => pj_R_to (G, 98, [(0, .ref 34), (1, .int v1), (2, .int v2)], [.int v1, .ref 37, .int v1, .ref 37], 0, 0) 98 3 (fun _ => rfl) h) ?_
        refine pj_X_of (fun r h => pj_T_il hI rfl rfl (by omega) (by omega) h) ?_
        show pj_X _ _ G 99 [(0, .ref 34), (1, .int v1), (2, .int v2)] [.int (pj_ai G 37 v1.toInt.toNat), .int v1, .ref 37] _
        obtain ⟨z35, hz35⟩ : ∃ z : Int32, z = pj_ai G 37 v1.toInt.toNat := ⟨_, rfl⟩
        rw [← hz35]
        have ez35 : (pj_ai G 37 v1.toInt.toNat).toInt = z35.toInt := by rw [hz35]
        refine pj_X_of (fun r h => pj_R_to (G, 100, [(0, .ref 34), (1, .int v1), (2, .int v2)], [.ref 34, .int z35, .int v1, .ref 37], 0, 0) 100 2 (fun _ => rfl) h) ?_
        refine pj_X_of (fun r h => pj_T_gr hI rfl rfl rfl h) ?_
        refine pj_X_of (fun r h => pj_T_gr hI rfl rfl rfl h) ?_
        refine pj_X_of (fun r h => pj_R_to (G, 107, [(0, .ref 34), (1, .int v1), (2, .int v2)], [.int v2, .ref 31, .int z35, .int v1, .ref 37], 0, 0) 107 2 (fun _ => rfl) h) ?_
        refine pj_X_of (fun r h => pj_T_il hI rfl rfl (by omega) (by omega) h) ?_
        show pj_X _ _ G 108 [(0, .ref 34), (1, .int v1), (2, .int v2)] [.int (pj_ai G 31 v2.toInt.toNat), .int z35, .int v1, .ref 37] _
        obtain ⟨z36, hz36⟩ : ∃ z : Int32, z = pj_ai G 31 v2.toInt.toNat := ⟨_, rfl⟩
        rw [← hz36]
        have ez36 : (pj_ai G 31 v2.toInt.toNat).toInt = z36.toInt := by rw [hz36]
        refine pj_X_of (fun r h => pj_R_to (G, 109, [(0, .ref 34), (1, .int v1), (2, .int v2)], [.int v1, .int z36, .int z35, .int v1, .ref 37], 0, 0) 109 2 (fun _ => rfl) h) ?_
        cases b37 : pj_c1 .lt z36 v1 with
        | true =>
          have ub37 := pj_u_ltT b37
          refine pj_X_of (fun r h => pj_R_icT 118 rfl rfl b37 h) ?_
          refine pj_X_of (fun r h => pj_R_to (G, 120, [(0, .ref 34), (1, .int v1), (2, .int v2)], [.int (z35 ||| (Int32.ofInt 0)), .int v1, .ref 37], 0, 0) 120 3 (fun _ => rfl) h) ?_
          obtain ⟨z38, hz38⟩ : ∃ z : Int32, z = z35 ||| (Int32.ofInt 0) := ⟨_, rfl⟩
          rw [← hz38]
          refine pj_X_of (fun r h => pj_T_is hI rfl rfl (by omega) (by omega) h) ?_
          show pj_X _ _ (pj_wa G 37 v1.toInt.toNat z38) 121 [(0, .ref 34), (1, .int v1), (2, .int v2)] [] _
          obtain ⟨G39, hG39⟩ : ∃ H, H = pj_wa G 37 v1.toInt.toNat z38 := ⟨_, rfl⟩
          have iG39 : pj_Inv G39 := by rw [hG39]; exact pj_Inv_wa hI rfl (fun q hq => by cases hq) (fun n hn => by cases hn)
          have kG39 : pj_kpt kc_23 G0 G39 := by rw [hG39]; exact pj_kpt_a hK rfl
          rw [← hG39]
          refine pj_X_of (fun r h => pj_R_to (G39, 124, [(2, .int (v2 + Int32.ofInt 1)), (0, .ref 34), (1, .int v1)], [], 0, 0) 124 2 (fun _ => rfl) h) ?_
          obtain ⟨z40, hz40⟩ : ∃ z : Int32, z = v2 + Int32.ofInt 1 := ⟨_, rfl⟩
          rw [← hz40]
          have fz40_0 : z40.toInt = v2.toInt + (Int32.ofInt 1).toInt := by rw [hz40]; exact pj_addI (by have := pj_i32 v2; have := pj_i32 (Int32.ofInt 1); omega) (by have := pj_i32 v2; have := pj_i32 (Int32.ofInt 1); omega)
          refine pj_X_of (fun r h => pj_R_to (G39, 78, [(2, .int z40), (0, .ref 34), (1, .int v1)], [], 0, 0) 78 2 (fun _ => rfl) h) ?_
          exact pj_X_sub [(0, .ref 34), (1, .int v1), (2, .int z40)] (show List.Nodup [0, 1, 2] by decide) ⟨rfl, rfl, rfl, trivial⟩ (ih.2.2 G39 iG39 kG39 v1 z40 ⟨by omega, by omega⟩ ⟨by omega, by omega⟩ (by omega))
        | false =>
          have ub37 := pj_u_ltF b37
          refine pj_X_of (fun r h => pj_R_icF rfl b37 h) ?_
          refine pj_X_of (fun r h => pj_R_to (G, 115, [(0, .ref 34), (1, .int v1), (2, .int v2)], [.int ((Int32.ofInt 1) <<< (v2 &&& 31)), .int z35, .int v1, .ref 37], 0, 0) 115 4 (fun _ => rfl) h) ?_
          obtain ⟨z41, hz41⟩ : ∃ z : Int32, z = (Int32.ofInt 1) <<< (v2 &&& 31) := ⟨_, rfl⟩
          rw [← hz41]
          have fz41_0 : 1 ≤ z41.toInt ∧ z41.toInt ≤ 32 := by rw [hz41]; exact pj_shlI5 (by omega) (by omega)
          refine pj_X_of (fun r h => pj_R_to (G, 120, [(0, .ref 34), (1, .int v1), (2, .int v2)], [.int (z35 ||| z41), .int v1, .ref 37], 0, 0) 120 3 (fun _ => rfl) h) ?_
          obtain ⟨z42, hz42⟩ : ∃ z : Int32, z = z35 ||| z41 := ⟨_, rfl⟩
          rw [← hz42]
          refine pj_X_of (fun r h => pj_T_is hI rfl rfl (by omega) (by omega) h) ?_
          show pj_X _ _ (pj_wa G 37 v1.toInt.toNat z42) 121 [(0, .ref 34), (1, .int v1), (2, .int v2)] [] _
          obtain ⟨G43, hG43⟩ : ∃ H, H = pj_wa G 37 v1.toInt.toNat z42 := ⟨_, rfl⟩
          have iG43 : pj_Inv G43 := by rw [hG43]; exact pj_Inv_wa hI rfl (fun q hq => by cases hq) (fun n hn => by cases hn)
          have kG43 : pj_kpt kc_23 G0 G43 := by rw [hG43]; exact pj_kpt_a hK rfl
          rw [← hG43]
          refine pj_X_of (fun r h => pj_R_to (G43, 124, [(2, .int (v2 + Int32.ofInt 1)), (0, .ref 34), (1, .int v1)], [], 0, 0) 124 2 (fun _ => rfl) h) ?_
          obtain ⟨z44, hz44⟩ : ∃ z : Int32, z = v2 + Int32.ofInt 1 := ⟨_, rfl⟩
          rw [← hz44]
          have fz44_0 : z44.toInt = v2.toInt + (Int32.ofInt 1).toInt := by rw [hz44]; exact pj_addI (by have := pj_i32 v2; have := pj_i32 (Int32.ofInt 1); omega) (by have := pj_i32 v2; have := pj_i32 (Int32.ofInt 1); omega)
          refine pj_X_of (fun r h => pj_R_to (G43, 78, [(2, .int z44), (0, .ref 34), (1, .int v1)], [], 0, 0) 78 2 (fun _ => rfl) h) ?_
          exact pj_X_sub [(0, .ref 34), (1, .int v1), (2, .int z44)] (show List.Nodup [0, 1, 2] by decide) ⟨rfl, rfl, rfl, trivial⟩ (ih.2.2 G43 iG43 kG43 v1 z44 ⟨by omega, by omega⟩ ⟨by omega, by omega⟩ (by omega))
theorem ct_23 (G0 : pj_G) (hI : pj_Inv G0) : pj_Y 1 23 [.ref 34] G0 (fun v G' => ∃ y : Int32, v = some (.int y) ∧ pj_Inv G' ∧ pj_kpt kc_23 G0 G' ∧ ((-2147483648 : Int) ≤ y.toInt ∧ y.toInt ≤ 2147483647)) := by
  have c0_ : ((Int8.ofInt 10).toInt32).toInt = 10 := by decide
  have c1_ : (Int32.ofInt 0).toInt = 0 := by decide
  have c2_ : (Int32.ofInt 1).toInt = 1 := by decide
  refine pj_Y_X (M := pj_m23) rfl rfl (Nat.le_of_ble_eq_true rfl) ?_
  have hK : pj_kpt kc_23 G0 G0 := pj_kpt_r _ _
  show pj_X _ _ G0 0 [(0, .ref 34)] [] _
  refine pj_X_of (fun r h => pj_R_to (G0, 2, [(1, .int (Int32.ofInt 0)), (0, .ref 34)], [], 0, 0) 2 3 (fun _ => rfl) h) ?_
  exact pj_X_sub [(0, .ref 34), (1, .int (Int32.ofInt 0))] (show List.Nodup [0, 1] by decide) ⟨rfl, rfl, trivial⟩ ((lp_ct_23 G0 hI   401).1 G0 hI hK (Int32.ofInt 0) ⟨by omega, by omega⟩ (by omega))
theorem lp_ct_24 (G0 : pj_G) (hI : pj_Inv G0) (th : Int32) (cr : Int32) : ∀ mn : Nat, (∀ (v3 : Int32), ((1 : Int) ≤ v3.toInt ∧ v3.toInt ≤ 10) → 10 - v3.toInt < (mn : Int) → pj_X 1 pj_m24 G0 2 [(0, .ref 34), (1, .int th), (2, .int cr), (3, .int v3)] [] (fun v G' => ∃ y : Int32, v = some (.int y) ∧ G0 = G' ∧ ((0 : Int) ≤ y.toInt ∧ y.toInt ≤ 1))) := by
  have c0_ : ((Int8.ofInt 10).toInt32).toInt = 10 := by decide
  have c1_ : (Int32.ofInt 0).toInt = 0 := by decide
  have c2_ : (Int32.ofInt 1).toInt = 1 := by decide
  have hK : pj_kpt ([], [], []) G0 G0 := pj_kpt_r _ _
  intro mn
  induction mn with
  | zero =>
    intro v3 rv3 hm
    exfalso
    omega
  | succ mn ih =>
    intro v3 rv3 hm
    refine pj_X_of (fun r h => pj_R_to (G0, 5, [(0, .ref 34), (1, .int th), (2, .int cr), (3, .int v3)], [.int ((Int8.ofInt 10).toInt32), .int v3], 0, 0) 5 3 (fun _ => rfl) h) ?_
    cases b1 : pj_c1 .ge v3 ((Int8.ofInt 10).toInt32) with
    | true =>
      have ub1 := pj_u_geT b1
      refine pj_X_of (fun r h => pj_R_icT 41 rfl rfl b1 h) ?_
      refine pj_X_of (fun r h => pj_R_to (G0, 42, [(0, .ref 34), (1, .int th), (2, .int cr), (3, .int v3)], [.int (Int32.ofInt 1)], 0, 0) 42 2 (fun _ => rfl) h) ?_
      exact pj_X_rt rfl rfl ⟨_, rfl, rfl, ⟨by omega, by omega⟩⟩
    | false =>
      have ub1 := pj_u_geF b1
      refine pj_X_of (fun r h => pj_R_icF rfl b1 h) ?_
      refine pj_X_of (fun r h => pj_R_to (G0, 10, [(0, .ref 34), (1, .int th), (2, .int cr), (3, .int v3)], [.ref 34, .int th], 0, 0) 10 3 (fun _ => rfl) h) ?_
      refine pj_X_of (fun r h => pj_T_gr hI rfl rfl rfl h) ?_
      refine pj_X_of (fun r h => pj_R_to (G0, 14, [(0, .ref 34), (1, .int th), (2, .int cr), (3, .int v3)], [.int v3, .ref 36, .int th], 0, 0) 14 2 (fun _ => rfl) h) ?_
      refine pj_X_of (fun r h => pj_T_il hI rfl rfl (by omega) (by omega) h) ?_
      show pj_X _ _ G0 15 [(0, .ref 34), (1, .int th), (2, .int cr), (3, .int v3)] [.int (pj_ai G0 36 v3.toInt.toNat), .int th] _
      obtain ⟨z2, hz2⟩ : ∃ z : Int32, z = pj_ai G0 36 v3.toInt.toNat := ⟨_, rfl⟩
      rw [← hz2]
      have ez2 : (pj_ai G0 36 v3.toInt.toNat).toInt = z2.toInt := by rw [hz2]
      refine pj_X_of (fun r h => pj_R_to (G0, 16, [(0, .ref 34), (1, .int th), (2, .int cr), (3, .int v3)], [.int (th &&& z2)], 0, 0) 16 2 (fun _ => rfl) h) ?_
      obtain ⟨z3, hz3⟩ : ∃ z : Int32, z = th &&& z2 := ⟨_, rfl⟩
      rw [← hz3]
      refine pj_X_ca (vs := [.int z3]) rfl (fun _ => rfl) ⟨Nat.le_of_ble_eq_true rfl, Nat.le_of_ble_eq_true rfl, rfl⟩ ⟨rfl, rfl⟩ (pj_Y_up (by decide) (ct_287 G0 hI z3)) ?_
      rintro _ _ ⟨y4, rfl, rfl, ry4⟩
      show pj_X _ _ G0 19 [(0, .ref 34), (1, .int th), (2, .int cr), (3, .int v3)] [.int y4] _
      refine pj_X_of (fun r h => pj_R_to (G0, 21, [(0, .ref 34), (1, .int th), (2, .int cr), (3, .int v3)], [.ref 34, .int cr, .int y4], 0, 0) 21 3 (fun _ => rfl) h) ?_
      refine pj_X_of (fun r h => pj_T_gr hI rfl rfl rfl h) ?_
      refine pj_X_of (fun r h => pj_R_to (G0, 25, [(0, .ref 34), (1, .int th), (2, .int cr), (3, .int v3)], [.int v3, .ref 37, .int cr, .int y4], 0, 0) 25 2 (fun _ => rfl) h) ?_
      refine pj_X_of (fun r h => pj_T_il hI rfl rfl (by omega) (by omega) h) ?_
      show pj_X _ _ G0 26 [(0, .ref 34), (1, .int th), (2, .int cr), (3, .int v3)] [.int (pj_ai G0 37 v3.toInt.toNat), .int cr, .int y4] _
      obtain ⟨z5, hz5⟩ : ∃ z : Int32, z = pj_ai G0 37 v3.toInt.toNat := ⟨_, rfl⟩
      rw [← hz5]
      have ez5 : (pj_ai G0 37 v3.toInt.toNat).toInt = z5.toInt := by rw [hz5]
      refine pj_X_of (fun r h => pj_R_to (G0, 27, [(0, .ref 34), (1, .int th), (2, .int cr), (3, .int v3)], [.int (cr &&& z5), .int y4], 0, 0) 27 2 (fun _ => rfl) h) ?_
      obtain ⟨z6, hz6⟩ : ∃ z : Int32, z = cr &&& z5 := ⟨_, rfl⟩
      rw [← hz6]
      refine pj_X_ca (vs := [.int z6]) rfl (fun _ => rfl) ⟨Nat.le_of_ble_eq_true rfl, Nat.le_of_ble_eq_true rfl, rfl⟩ ⟨rfl, rfl⟩ (pj_Y_up (by decide) (ct_287 G0 hI z6)) ?_
      rintro _ _ ⟨y7, rfl, rfl, ry7⟩
      show pj_X _ _ G0 30 [(0, .ref 34), (1, .int th), (2, .int cr), (3, .int v3)] [.int y7, .int y4] _
      cases b8 : pj_c1 .le y4 y7 with
      | true =>
        have ub8 := pj_u_leT b8
        refine pj_X_of (fun r h => pj_R_icT 35 rfl rfl b8 h) ?_
        refine pj_X_of (fun r h => pj_R_to (G0, 38, [(3, .int (v3 + Int32.ofInt 1)), (0, .ref 34), (1, .int th), (2, .int cr)], [], 0, 0) 38 2 (fun _ => rfl) h) ?_
        obtain ⟨z9, hz9⟩ : ∃ z : Int32, z = v3 + Int32.ofInt 1 := ⟨_, rfl⟩
        rw [← hz9]
        have fz9_0 : z9.toInt = v3.toInt + (Int32.ofInt 1).toInt := by rw [hz9]; exact pj_addI (by have := pj_i32 v3; have := pj_i32 (Int32.ofInt 1); omega) (by have := pj_i32 v3; have := pj_i32 (Int32.ofInt 1); omega)
        refine pj_X_of (fun r h => pj_R_to (G0, 2, [(3, .int z9), (0, .ref 34), (1, .int th), (2, .int cr)], [], 0, 0) 2 2 (fun _ => rfl) h) ?_
        exact pj_X_sub [(0, .ref 34), (1, .int th), (2, .int cr), (3, .int z9)] (show List.Nodup [0, 1, 2, 3] by decide) ⟨rfl, rfl, rfl, rfl, trivial⟩ (ih z9 ⟨by omega, by omega⟩ (by omega))
      | false =>
        have ub8 := pj_u_leF b8
        refine pj_X_of (fun r h => pj_R_icF rfl b8 h) ?_
        refine pj_X_of (fun r h => pj_R_to (G0, 34, [(0, .ref 34), (1, .int th), (2, .int cr), (3, .int v3)], [.int (Int32.ofInt 0)], 0, 0) 34 2 (fun _ => rfl) h) ?_
        exact pj_X_rt rfl rfl ⟨_, rfl, rfl, ⟨by omega, by omega⟩⟩
theorem ct_24 (G0 : pj_G) (hI : pj_Inv G0) (th : Int32) (cr : Int32) : pj_Y 2 24 [.ref 34, .int th, .int cr] G0 (fun v G' => ∃ y : Int32, v = some (.int y) ∧ G0 = G' ∧ ((0 : Int) ≤ y.toInt ∧ y.toInt ≤ 1)) := by
  have c0_ : ((Int8.ofInt 10).toInt32).toInt = 10 := by decide
  have c1_ : (Int32.ofInt 0).toInt = 0 := by decide
  have c2_ : (Int32.ofInt 1).toInt = 1 := by decide
  refine pj_Y_X (M := pj_m24) rfl rfl (Nat.le_of_ble_eq_true rfl) ?_
  have hK : pj_kpt ([], [], []) G0 G0 := pj_kpt_r _ _
  show pj_X _ _ G0 0 [(0, .ref 34), (1, .int th), (2, .int cr)] [] _
  refine pj_X_of (fun r h => pj_R_to (G0, 2, [(3, .int (Int32.ofInt 1)), (0, .ref 34), (1, .int th), (2, .int cr)], [], 0, 0) 2 3 (fun _ => rfl) h) ?_
  exact pj_X_sub [(0, .ref 34), (1, .int th), (2, .int cr), (3, .int (Int32.ofInt 1))] (show List.Nodup [0, 1, 2, 3] by decide) ⟨rfl, rfl, rfl, rfl, trivial⟩ ((lp_ct_24 G0 hI th cr  10) (Int32.ofInt 1) ⟨by omega, by omega⟩ (by omega))
theorem lp_ct_26 (G0 : pj_G) (hI : pj_Inv G0) (c : Int32) (rs : Int32) (idl : Int32) (rc : (0 : Int) ≤ c.toInt ∧ c.toInt ≤ 9) : ∀ mn : Nat, (∀ (v4 : Int32), ((0 : Int) ≤ v4.toInt ∧ v4.toInt ≤ 6) → 6 - v4.toInt < (mn : Int) → pj_X 2 pj_m26 G0 3 [(0, .ref 34), (1, .int c), (2, .int rs), (3, .int idl), (4, .int v4)] [] (fun v G' => ∃ y : Int32, v = some (.int y) ∧ G0 = G' ∧ ((-1 : Int) ≤ y.toInt ∧ y.toInt ≤ 5))) := by
  have c0_ : (Int32.ofInt (-1)).toInt = -1 := by decide
  have c1_ : (Int32.ofInt 0).toInt = 0 := by decide
  have c2_ : (Int32.ofInt 1).toInt = 1 := by decide
  have hK : pj_kpt ([], [], []) G0 G0 := pj_kpt_r _ _
  intro mn
  induction mn with
  | zero =>
    intro v4 rv4 hm
    exfalso
    omega
  | succ mn ih =>
    intro v4 rv4 hm
    refine pj_X_of (fun r h => pj_R_to (G0, 6, [(0, .ref 34), (1, .int c), (2, .int rs), (3, .int idl), (4, .int v4)], [.ref 34, .int v4], 0, 0) 6 3 (fun _ => rfl) h) ?_
    refine pj_X_of (fun r h => pj_T_gr hI rfl rfl rfl h) ?_
    refine pj_X_of (fun r h => pj_T_gr hI rfl rfl rfl h) ?_
    refine pj_X_of (fun r h => pj_T_gi hI rfl rfl h) ?_
    show pj_X _ _ G0 15 [(0, .ref 34), (1, .int c), (2, .int rs), (3, .int idl), (4, .int v4)] [.int (pj_fi G0 21 0), .int v4] _
    obtain ⟨y1, hy1⟩ : ∃ z : Int32, z = pj_fi G0 21 0 := ⟨_, rfl⟩
    rw [← hy1]
    have ey1 : (pj_fi G0 21 0).toInt = y1.toInt := by rw [hy1]
    have ry1 : (0 : Int) ≤ y1.toInt ∧ y1.toInt ≤ 6 := by rw [hy1]; exact hI.2.1 21 0 (0, 6) rfl
    cases b2 : pj_c1 .ge v4 y1 with
    | true =>
      have ub2 := pj_u_geT b2
      refine pj_X_of (fun r h => pj_R_icT 77 rfl rfl b2 h) ?_
      refine pj_X_of (fun r h => pj_R_to (G0, 78, [(0, .ref 34), (1, .int c), (2, .int rs), (3, .int idl), (4, .int v4)], [.int (Int32.ofInt (-1))], 0, 0) 78 2 (fun _ => rfl) h) ?_
      exact pj_X_rt rfl rfl ⟨_, rfl, rfl, ⟨by omega, by omega⟩⟩
    | false =>
      have ub2 := pj_u_geF b2
      refine pj_X_of (fun r h => pj_R_icF rfl b2 h) ?_
      refine pj_X_of (fun r h => pj_R_to (G0, 21, [(0, .ref 34), (1, .int c), (2, .int rs), (3, .int idl), (4, .int v4)], [.int v4, .int idl], 0, 0) 21 3 (fun _ => rfl) h) ?_
      refine pj_X_ca (vs := [.int idl, .int v4]) rfl (fun _ => rfl) ⟨Nat.le_of_ble_eq_true rfl, Nat.le_of_ble_eq_true rfl, rfl⟩ ⟨rfl, rfl⟩ (pj_Y_up (by decide) (ct_163x G0 hI idl v4)) ?_
      rintro _ _ ⟨y3, rfl, rfl, ry3, fy3⟩
      show pj_X _ _ G0 24 [(0, .ref 34), (1, .int c), (2, .int rs), (3, .int idl), (4, .int v4)] [.int y3] _
      cases b4 : pj_c1 .eq y3 0 with
      | true =>
        have ub4 := pj_u0_eqT b4
        refine pj_X_of (fun r h => pj_R_ifT 71 rfl rfl b4 h) ?_
        refine pj_X_of (fun r h => pj_R_to (G0, 74, [(4, .int (v4 + Int32.ofInt 1)), (0, .ref 34), (1, .int c), (2, .int rs), (3, .int idl)], [], 0, 0) 74 2 (fun _ => rfl) h) ?_
        obtain ⟨z5, hz5⟩ : ∃ z : Int32, z = v4 + Int32.ofInt 1 := ⟨_, rfl⟩
        rw [← hz5]
        have fz5_0 : z5.toInt = v4.toInt + (Int32.ofInt 1).toInt := by rw [hz5]; exact pj_addI (by have := pj_i32 v4; have := pj_i32 (Int32.ofInt 1); omega) (by have := pj_i32 v4; have := pj_i32 (Int32.ofInt 1); omega)
        refine pj_X_of (fun r h => pj_R_to (G0, 3, [(4, .int z5), (0, .ref 34), (1, .int c), (2, .int rs), (3, .int idl)], [], 0, 0) 3 2 (fun _ => rfl) h) ?_
        exact pj_X_sub [(0, .ref 34), (1, .int c), (2, .int rs), (3, .int idl), (4, .int z5)] (show List.Nodup [0, 1, 2, 3, 4] by decide) ⟨rfl, rfl, rfl, rfl, rfl, trivial⟩ (ih z5 ⟨by omega, by omega⟩ (by omega))
      | false =>
        have ub4 := pj_u0_eqF b4
        refine pj_X_of (fun r h => pj_R_ifF rfl b4 h) ?_
        refine pj_X_of (fun r h => pj_R_to (G0, 28, [(0, .ref 34), (1, .int c), (2, .int rs), (3, .int idl), (4, .int v4)], [.ref 34], 0, 0) 28 2 (fun _ => rfl) h) ?_
        refine pj_X_of (fun r h => pj_T_gr hI rfl rfl rfl h) ?_
        refine pj_X_of (fun r h => pj_T_gr hI rfl rfl rfl h) ?_
        refine pj_X_of (fun r h => pj_R_to (G0, 36, [(0, .ref 34), (1, .int c), (2, .int rs), (3, .int idl), (4, .int v4)], [.int v4, .ref 31], 0, 0) 36 2 (fun _ => rfl) h) ?_
        refine pj_X_of (fun r h => pj_T_il hI rfl rfl (by omega) (by omega) h) ?_
        show pj_X _ _ G0 37 [(0, .ref 34), (1, .int c), (2, .int rs), (3, .int idl), (4, .int v4)] [.int (pj_ai G0 31 v4.toInt.toNat)] _
        obtain ⟨z6, hz6⟩ : ∃ z : Int32, z = pj_ai G0 31 v4.toInt.toNat := ⟨_, rfl⟩
        rw [← hz6]
        have ez6 : (pj_ai G0 31 v4.toInt.toNat).toInt = z6.toInt := by rw [hz6]
        refine pj_X_of (fun r h => pj_R_to (G0, 38, [(0, .ref 34), (1, .int c), (2, .int rs), (3, .int idl), (4, .int v4)], [.ref 34, .int z6], 0, 0) 38 2 (fun _ => rfl) h) ?_
        refine pj_X_of (fun r h => pj_T_gr hI rfl rfl rfl h) ?_
        refine pj_X_gm hI rfl rfl (fun q7 => ?_) (fun q7 => ?_)
        · refine pj_X_of (fun r h => pj_T_gr hI rfl rfl rfl h) ?_
          refine pj_X_of (fun r h => pj_R_to (G0, 48, [(0, .ref 34), (1, .int c), (2, .int rs), (3, .int idl), (4, .int v4)], [.int c, .ref 11, .int z6], 0, 0) 48 2 (fun _ => rfl) h) ?_
          refine pj_X_of (fun r h => pj_T_il hI rfl rfl (by omega) (by omega) h) ?_
          show pj_X _ _ G0 49 [(0, .ref 34), (1, .int c), (2, .int rs), (3, .int idl), (4, .int v4)] [.int (pj_ai G0 11 c.toInt.toNat), .int z6] _
          obtain ⟨z8, hz8⟩ : ∃ z : Int32, z = pj_ai G0 11 c.toInt.toNat := ⟨_, rfl⟩
          rw [← hz8]
          have ez8 : (pj_ai G0 11 c.toInt.toNat).toInt = z8.toInt := by rw [hz8]
          have fz8_0 : (0 : Int) ≤ z8.toInt ∧ z8.toInt ≤ 9 ∧ (z8.toInt ≤ 0 ∨ 0 ≤ z8.toInt) := by rw [hz8]; exact hI.2.2.1 11 (10, 0, 9, 0, 0) rfl _ (by show _ < 10; omega)
          cases b9 : pj_c1 .lt z6 z8 with
          | true =>
            have ub9 := pj_u_ltT b9
            refine pj_X_of (fun r h => pj_R_icT 71 rfl rfl b9 h) ?_
            refine pj_X_of (fun r h => pj_R_to (G0, 74, [(4, .int (v4 + Int32.ofInt 1)), (0, .ref 34), (1, .int c), (2, .int rs), (3, .int idl)], [], 0, 0) 74 2 (fun _ => rfl) h) ?_
            obtain ⟨z10, hz10⟩ : ∃ z : Int32, z = v4 + Int32.ofInt 1 := ⟨_, rfl⟩
            rw [← hz10]
            have fz10_0 : z10.toInt = v4.toInt + (Int32.ofInt 1).toInt := by rw [hz10]; exact pj_addI (by have := pj_i32 v4; have := pj_i32 (Int32.ofInt 1); omega) (by have := pj_i32 v4; have := pj_i32 (Int32.ofInt 1); omega)
            refine pj_X_of (fun r h => pj_R_to (G0, 3, [(4, .int z10), (0, .ref 34), (1, .int c), (2, .int rs), (3, .int idl)], [], 0, 0) 3 2 (fun _ => rfl) h) ?_
            exact pj_X_sub [(0, .ref 34), (1, .int c), (2, .int rs), (3, .int idl), (4, .int z10)] (show List.Nodup [0, 1, 2, 3, 4] by decide) ⟨rfl, rfl, rfl, rfl, rfl, trivial⟩ (ih z10 ⟨by omega, by omega⟩ (by omega))
          | false =>
            have ub9 := pj_u_ltF b9
            refine pj_X_of (fun r h => pj_R_icF rfl b9 h) ?_
            refine pj_X_of (fun r h => pj_R_to (G0, 59, [(0, .ref 34), (1, .int c), (2, .int rs), (3, .int idl), (4, .int v4)], [.int ((Int32.ofInt 1) <<< (v4 &&& 31)), .int idl, .int rs, .ref 34], 0, 0) 59 7 (fun _ => rfl) h) ?_
            obtain ⟨z11, hz11⟩ : ∃ z : Int32, z = (Int32.ofInt 1) <<< (v4 &&& 31) := ⟨_, rfl⟩
            rw [← hz11]
            have fz11_0 : 1 ≤ z11.toInt ∧ z11.toInt ≤ 32 := by rw [hz11]; exact pj_shlI5 (by omega) (by omega)
            refine pj_X_of (fun r h => pj_R_to (G0, 61, [(0, .ref 34), (1, .int c), (2, .int rs), (3, .int idl), (4, .int v4)], [.int (z11 ^^^ (Int32.ofInt (-1))), .int idl, .int rs, .ref 34], 0, 0) 61 3 (fun _ => rfl) h) ?_
            obtain ⟨z12, hz12⟩ : ∃ z : Int32, z = z11 ^^^ (Int32.ofInt (-1)) := ⟨_, rfl⟩
            rw [← hz12]
            refine pj_X_of (fun r h => pj_R_to (G0, 62, [(0, .ref 34), (1, .int c), (2, .int rs), (3, .int idl), (4, .int v4)], [.int (idl &&& z12), .int rs, .ref 34], 0, 0) 62 2 (fun _ => rfl) h) ?_
            obtain ⟨z13, hz13⟩ : ∃ z : Int32, z = idl &&& z12 := ⟨_, rfl⟩
            rw [← hz13]
            refine pj_X_ca (vs := [.ref 34, .int rs, .int z13]) rfl (fun _ => rfl) ⟨Nat.le_of_ble_eq_true rfl, Nat.le_of_ble_eq_true rfl, pj_T_rcv hI rfl⟩ ⟨rfl, rfl⟩ (pj_Y_up (by decide) (ct_24 G0 hI rs z13)) ?_
            rintro _ _ ⟨y14, rfl, rfl, ry14⟩
            show pj_X _ _ G0 65 [(0, .ref 34), (1, .int c), (2, .int rs), (3, .int idl), (4, .int v4)] [.int y14] _
            cases b15 : pj_c1 .eq y14 0 with
            | true =>
              have ub15 := pj_u0_eqT b15
              refine pj_X_of (fun r h => pj_R_ifT 71 rfl rfl b15 h) ?_
              refine pj_X_of (fun r h => pj_R_to (G0, 74, [(4, .int (v4 + Int32.ofInt 1)), (0, .ref 34), (1, .int c), (2, .int rs), (3, .int idl)], [], 0, 0) 74 2 (fun _ => rfl) h) ?_
              obtain ⟨z16, hz16⟩ : ∃ z : Int32, z = v4 + Int32.ofInt 1 := ⟨_, rfl⟩
              rw [← hz16]
              have fz16_0 : z16.toInt = v4.toInt + (Int32.ofInt 1).toInt := by rw [hz16]; exact pj_addI (by have := pj_i32 v4; have := pj_i32 (Int32.ofInt 1); omega) (by have := pj_i32 v4; have := pj_i32 (Int32.ofInt 1); omega)
              refine pj_X_of (fun r h => pj_R_to (G0, 3, [(4, .int z16), (0, .ref 34), (1, .int c), (2, .int rs), (3, .int idl)], [], 0, 0) 3 2 (fun _ => rfl) h) ?_
              exact pj_X_sub [(0, .ref 34), (1, .int c), (2, .int rs), (3, .int idl), (4, .int z16)] (show List.Nodup [0, 1, 2, 3, 4] by decide) ⟨rfl, rfl, rfl, rfl, rfl, trivial⟩ (ih z16 ⟨by omega, by omega⟩ (by omega))
            | false =>
              have ub15 := pj_u0_eqF b15
              refine pj_X_of (fun r h => pj_R_ifF rfl b15 h) ?_
              refine pj_X_of (fun r h => pj_R_to (G0, 70, [(0, .ref 34), (1, .int c), (2, .int rs), (3, .int idl), (4, .int v4)], [.int v4], 0, 0) 70 2 (fun _ => rfl) h) ?_
              exact pj_X_rt rfl rfl ⟨_, rfl, rfl, ⟨by omega, by omega⟩⟩
        · refine pj_X_of (fun r h => pj_T_gr hI rfl rfl rfl h) ?_
          refine pj_X_of (fun r h => pj_R_to (G0, 48, [(0, .ref 34), (1, .int c), (2, .int rs), (3, .int idl), (4, .int v4)], [.int c, .ref 18, .int z6], 0, 0) 48 2 (fun _ => rfl) h) ?_
          refine pj_X_of (fun r h => pj_T_il hI rfl rfl (by omega) (by omega) h) ?_
          show pj_X _ _ G0 49 [(0, .ref 34), (1, .int c), (2, .int rs), (3, .int idl), (4, .int v4)] [.int (pj_ai G0 18 c.toInt.toNat), .int z6] _
          obtain ⟨z17, hz17⟩ : ∃ z : Int32, z = pj_ai G0 18 c.toInt.toNat := ⟨_, rfl⟩
          rw [← hz17]
          have ez17 : (pj_ai G0 18 c.toInt.toNat).toInt = z17.toInt := by rw [hz17]
          have fz17_0 : (0 : Int) ≤ z17.toInt ∧ z17.toInt ≤ 9 ∧ (z17.toInt ≤ 0 ∨ 0 ≤ z17.toInt) := by rw [hz17]; exact hI.2.2.1 18 (10, 0, 9, 0, 0) rfl _ (by show _ < 10; omega)
          cases b18 : pj_c1 .lt z6 z17 with
          | true =>
            have ub18 := pj_u_ltT b18
            refine pj_X_of (fun r h => pj_R_icT 71 rfl rfl b18 h) ?_
            refine pj_X_of (fun r h => pj_R_to (G0, 74, [(4, .int (v4 + Int32.ofInt 1)), (0, .ref 34), (1, .int c), (2, .int rs), (3, .int idl)], [], 0, 0) 74 2 (fun _ => rfl) h) ?_
            obtain ⟨z19, hz19⟩ : ∃ z : Int32, z = v4 + Int32.ofInt 1 := ⟨_, rfl⟩
            rw [← hz19]
            have fz19_0 : z19.toInt = v4.toInt + (Int32.ofInt 1).toInt := by rw [hz19]; exact pj_addI (by have := pj_i32 v4; have := pj_i32 (Int32.ofInt 1); omega) (by have := pj_i32 v4; have := pj_i32 (Int32.ofInt 1); omega)
            refine pj_X_of (fun r h => pj_R_to (G0, 3, [(4, .int z19), (0, .ref 34), (1, .int c), (2, .int rs), (3, .int idl)], [], 0, 0) 3 2 (fun _ => rfl) h) ?_
            exact pj_X_sub [(0, .ref 34), (1, .int c), (2, .int rs), (3, .int idl), (4, .int z19)] (show List.Nodup [0, 1, 2, 3, 4] by decide) ⟨rfl, rfl, rfl, rfl, rfl, trivial⟩ (ih z19 ⟨by omega, by omega⟩ (by omega))
          | false =>
            have ub18 := pj_u_ltF b18
            refine pj_X_of (fun r h => pj_R_icF rfl b18 h) ?_
            refine pj_X_of (fun r h => pj_R_to (G0, 59, [(0, .ref 34), (1, .int c), (2, .int rs), (3, .int idl), (4, .int v4)], [.int ((Int32.ofInt 1) <<< (v4 &&& 31)), .int idl, .int rs, .ref 34], 0, 0) 59 7 (fun _ => rfl) h) ?_
            obtain ⟨z20, hz20⟩ : ∃ z : Int32, z = (Int32.ofInt 1) <<< (v4 &&& 31) := ⟨_, rfl⟩
            rw [← hz20]
            have fz20_0 : 1 ≤ z20.toInt ∧ z20.toInt ≤ 32 := by rw [hz20]; exact pj_shlI5 (by omega) (by omega)
            refine pj_X_of (fun r h => pj_R_to (G0, 61, [(0, .ref 34), (1, .int c), (2, .int rs), (3, .int idl), (4, .int v4)], [.int (z20 ^^^ (Int32.ofInt (-1))), .int idl, .int rs, .ref 34], 0, 0) 61 3 (fun _ => rfl) h) ?_
            obtain ⟨z21, hz21⟩ : ∃ z : Int32, z = z20 ^^^ (Int32.ofInt (-1)) := ⟨_, rfl⟩
            rw [← hz21]
            refine pj_X_of (fun r h => pj_R_to (G0, 62, [(0, .ref 34), (1, .int c), (2, .int rs), (3, .int idl), (4, .int v4)], [.int (idl &&& z21), .int rs, .ref 34], 0, 0) 62 2 (fun _ => rfl) h) ?_
            obtain ⟨z22, hz22⟩ : ∃ z : Int32, z = idl &&& z21 := ⟨_, rfl⟩
            rw [← hz22]
            refine pj_X_ca (vs := [.ref 34, .int rs, .int z22]) rfl (fun _ => rfl) ⟨Nat.le_of_ble_eq_true rfl, Nat.le_of_ble_eq_true rfl, pj_T_rcv hI rfl⟩ ⟨rfl, rfl⟩ (pj_Y_up (by decide) (ct_24 G0 hI rs z22)) ?_
            rintro _ _ ⟨y23, rfl, rfl, ry23⟩
            show pj_X _ _ G0 65 [(0, .ref 34), (1, .int c), (2, .int rs), (3, .int idl), (4, .int v4)] [.int y23] _
            cases b24 : pj_c1 .eq y23 0 with
            | true =>
              have ub24 := pj_u0_eqT b24
              refine pj_X_of (fun r h => pj_R_ifT 71 rfl rfl b24 h) ?_
              refine pj_X_of (fun r h => pj_R_to (G0, 74, [(4, .int (v4 + Int32.ofInt 1)), (0, .ref 34), (1, .int c), (2, .int rs), (3, .int idl)], [], 0, 0) 74 2 (fun _ => rfl) h) ?_
              obtain ⟨z25, hz25⟩ : ∃ z : Int32, z = v4 + Int32.ofInt 1 := ⟨_, rfl⟩
              rw [← hz25]
              have fz25_0 : z25.toInt = v4.toInt + (Int32.ofInt 1).toInt := by rw [hz25]; exact pj_addI (by have := pj_i32 v4; have := pj_i32 (Int32.ofInt 1); omega) (by have := pj_i32 v4; have := pj_i32 (Int32.ofInt 1); omega)
              refine pj_X_of (fun r h => pj_R_to (G0, 3, [(4, .int z25), (0, .ref 34), (1, .int c), (2, .int rs), (3, .int idl)], [], 0, 0) 3 2 (fun _ => rfl) h) ?_
              exact pj_X_sub [(0, .ref 34), (1, .int c), (2, .int rs), (3, .int idl), (4, .int z25)] (show List.Nodup [0, 1, 2, 3, 4] by decide) ⟨rfl, rfl, rfl, rfl, rfl, trivial⟩ (ih z25 ⟨by omega, by omega⟩ (by omega))
            | false =>
              have ub24 := pj_u0_eqF b24
              refine pj_X_of (fun r h => pj_R_ifF rfl b24 h) ?_
              refine pj_X_of (fun r h => pj_R_to (G0, 70, [(0, .ref 34), (1, .int c), (2, .int rs), (3, .int idl), (4, .int v4)], [.int v4], 0, 0) 70 2 (fun _ => rfl) h) ?_
              exact pj_X_rt rfl rfl ⟨_, rfl, rfl, ⟨by omega, by omega⟩⟩
theorem ct_26 (G0 : pj_G) (hI : pj_Inv G0) (c : Int32) (rs : Int32) (idl : Int32) (rc : (0 : Int) ≤ c.toInt ∧ c.toInt ≤ 9) : pj_Y 3 26 [.ref 34, .int c, .int rs, .int idl] G0 (fun v G' => ∃ y : Int32, v = some (.int y) ∧ G0 = G' ∧ ((-1 : Int) ≤ y.toInt ∧ y.toInt ≤ 5)) := by
  have c0_ : (Int32.ofInt (-1)).toInt = -1 := by decide
  have c1_ : (Int32.ofInt 0).toInt = 0 := by decide
  have c2_ : (Int32.ofInt 1).toInt = 1 := by decide
  refine pj_Y_X (M := pj_m26) rfl rfl (Nat.le_of_ble_eq_true rfl) ?_
  have hK : pj_kpt ([], [], []) G0 G0 := pj_kpt_r _ _
  show pj_X _ _ G0 0 [(0, .ref 34), (1, .int c), (2, .int rs), (3, .int idl)] [] _
  refine pj_X_of (fun r h => pj_R_to (G0, 3, [(4, .int (Int32.ofInt 0)), (0, .ref 34), (1, .int c), (2, .int rs), (3, .int idl)], [], 0, 0) 3 3 (fun _ => rfl) h) ?_
  exact pj_X_sub [(0, .ref 34), (1, .int c), (2, .int rs), (3, .int idl), (4, .int (Int32.ofInt 0))] (show List.Nodup [0, 1, 2, 3, 4] by decide) ⟨rfl, rfl, rfl, rfl, rfl, trivial⟩ ((lp_ct_26 G0 hI c rs idl rc 7) (Int32.ofInt 0) ⟨by omega, by omega⟩ (by omega))
def kc_25 : pj_KT := ([(4, 1)], [4, 5], [])
theorem lp_ct_25 (G0 : pj_G) (hI0 : pj_Inv G0) (th : Int32) (cr : Int32) : ∀ mn : Nat, (∀ (G : pj_G) (hI : pj_Inv G) (hK : pj_kpt kc_25 G0 G) (v4 : Int32) (v5 : Int32) (v6 : Int32), ((-2147483648 : Int) ≤ v4.toInt ∧ v4.toInt ≤ 2147483647) → ((-2147483648 : Int) ≤ v5.toInt ∧ v5.toInt ≤ 2147483647) → ((0 : Int) ≤ v6.toInt ∧ v6.toInt ≤ 10) → 10 - v6.toInt < (mn : Int) → pj_X 3 pj_m25 G 9 [(0, .ref 34), (1, .ref 4), (2, .int th), (3, .int cr), (4, .int v4), (5, .int v5), (6, .int v6)] [] (fun v G' => v = none ∧ pj_Inv G' ∧ pj_kpt kc_25 G0 G')) := by
  have c0_ : (Int32.ofInt (-1)).toInt = -1 := by decide
  have c1_ : (Int32.ofInt 0).toInt = 0 := by decide
  have c2_ : (Int32.ofInt 1).toInt = 1 := by decide
  intro mn
  induction mn with
  | zero =>
    intro G hI hK v4 v5 v6 rv4 rv5 rv6 hm
    exfalso
    omega
  | succ mn ih =>
    intro G hI hK v4 v5 v6 rv4 rv5 rv6 hm
    refine pj_X_of (fun r h => pj_R_to (G, 12, [(0, .ref 34), (1, .ref 4), (2, .int th), (3, .int cr), (4, .int v4), (5, .int v5), (6, .int v6)], [.ref 34, .int v6], 0, 0) 12 3 (fun _ => rfl) h) ?_
    refine pj_X_of (fun r h => pj_T_gr hI rfl rfl rfl h) ?_
    refine pj_X_gm hI rfl rfl (fun q1 => ?_) (fun q1 => ?_)
    · refine pj_X_of (fun r h => pj_T_gi hI rfl rfl h) ?_
      show pj_X _ _ G 21 [(0, .ref 34), (1, .ref 4), (2, .int th), (3, .int cr), (4, .int v4), (5, .int v5), (6, .int v6)] [.int (pj_fi G 7 1), .int v6] _
      obtain ⟨y2, hy2⟩ : ∃ z : Int32, z = pj_fi G 7 1 := ⟨_, rfl⟩
      rw [← hy2]
      have ey2 : (pj_fi G 7 1).toInt = y2.toInt := by rw [hy2]
      have ry2 : (0 : Int) ≤ y2.toInt ∧ y2.toInt ≤ 10 := by rw [hy2]; exact hI.2.1 7 1 (0, 10) rfl
      cases b3 : pj_c1 .ge v6 y2 with
      | true =>
        have ub3 := pj_u_geT b3
        refine pj_X_of (fun r h => pj_R_icT 91 rfl rfl b3 h) ?_
        exact pj_X_rt rfl rfl ⟨rfl, hI, hK⟩
      | false =>
        have ub3 := pj_u_geF b3
        refine pj_X_of (fun r h => pj_R_icF rfl b3 h) ?_
        refine pj_X_of (fun r h => pj_R_to (G, 27, [(0, .ref 34), (1, .ref 4), (2, .int th), (3, .int cr), (4, .int v4), (5, .int v5), (6, .int v6)], [.int v6, .int th], 0, 0) 27 3 (fun _ => rfl) h) ?_
        refine pj_X_ca (vs := [.int th, .int v6]) rfl (fun _ => rfl) ⟨Nat.le_of_ble_eq_true rfl, Nat.le_of_ble_eq_true rfl, rfl⟩ ⟨rfl, rfl⟩ (pj_Y_up (by decide) (ct_163x G hI th v6)) ?_
        rintro _ _ ⟨y4, rfl, rfl, ry4, fy4⟩
        show pj_X _ _ G 30 [(0, .ref 34), (1, .ref 4), (2, .int th), (3, .int cr), (4, .int v4), (5, .int v5), (6, .int v6)] [.int y4] _
        cases b5 : pj_c1 .eq y4 0 with
        | true =>
          have ub5 := pj_u0_eqT b5
          refine pj_X_of (fun r h => pj_R_ifT 85 rfl rfl b5 h) ?_
          refine pj_X_of (fun r h => pj_R_to (G, 88, [(6, .int (v6 + Int32.ofInt 1)), (0, .ref 34), (1, .ref 4), (2, .int th), (3, .int cr), (4, .int v4), (5, .int v5)], [], 0, 0) 88 2 (fun _ => rfl) h) ?_
          obtain ⟨z6, hz6⟩ : ∃ z : Int32, z = v6 + Int32.ofInt 1 := ⟨_, rfl⟩
          rw [← hz6]
          have fz6_0 : z6.toInt = v6.toInt + (Int32.ofInt 1).toInt := by rw [hz6]; exact pj_addI (by have := pj_i32 v6; have := pj_i32 (Int32.ofInt 1); omega) (by have := pj_i32 v6; have := pj_i32 (Int32.ofInt 1); omega)
          refine pj_X_of (fun r h => pj_R_to (G, 9, [(6, .int z6), (0, .ref 34), (1, .ref 4), (2, .int th), (3, .int cr), (4, .int v4), (5, .int v5)], [], 0, 0) 9 2 (fun _ => rfl) h) ?_
          exact pj_X_sub [(0, .ref 34), (1, .ref 4), (2, .int th), (3, .int cr), (4, .int v4), (5, .int v5), (6, .int z6)] (show List.Nodup [0, 1, 2, 3, 4, 5, 6] by decide) ⟨rfl, rfl, rfl, rfl, rfl, rfl, rfl, trivial⟩ (ih G hI hK v4 v5 z6 (pj_i32 _) (pj_i32 _) ⟨by omega, by omega⟩ (by omega))
        | false =>
          have ub5 := pj_u0_eqF b5
          refine pj_X_of (fun r h => pj_R_ifF rfl b5 h) ?_
          refine pj_X_of (fun r h => pj_R_to (G, 39, [(0, .ref 34), (1, .ref 4), (2, .int th), (3, .int cr), (4, .int v4), (5, .int v5), (6, .int v6)], [.int ((Int32.ofInt 1) <<< (v6 &&& 31)), .int v4], 0, 0) 39 5 (fun _ => rfl) h) ?_
          obtain ⟨z7, hz7⟩ : ∃ z : Int32, z = (Int32.ofInt 1) <<< (v6 &&& 31) := ⟨_, rfl⟩
          rw [← hz7]
          have fz7_0 : 1 ≤ z7.toInt ∧ z7.toInt ≤ 512 := by rw [hz7]; exact pj_shlI9 (by omega) (by omega)
          refine pj_X_of (fun r h => pj_R_to (G, 41, [(0, .ref 34), (1, .ref 4), (2, .int th), (3, .int cr), (4, .int v4), (5, .int v5), (6, .int v6)], [.int (z7 ^^^ (Int32.ofInt (-1))), .int v4], 0, 0) 41 3 (fun _ => rfl) h) ?_
          obtain ⟨z8, hz8⟩ : ∃ z : Int32, z = z7 ^^^ (Int32.ofInt (-1)) := ⟨_, rfl⟩
          rw [← hz8]
          refine pj_X_of (fun r h => pj_R_to (G, 42, [(0, .ref 34), (1, .ref 4), (2, .int th), (3, .int cr), (4, .int v4), (5, .int v5), (6, .int v6)], [.int (v4 &&& z8)], 0, 0) 42 2 (fun _ => rfl) h) ?_
          obtain ⟨z9, hz9⟩ : ∃ z : Int32, z = v4 &&& z8 := ⟨_, rfl⟩
          rw [← hz9]
          refine pj_X_of (fun r h => pj_R_to (G, 51, [(4, .int z9), (0, .ref 34), (1, .ref 4), (2, .int th), (3, .int cr), (5, .int v5), (6, .int v6)], [.int v5, .int z9, .int v6, .ref 34], 0, 0) 51 6 (fun _ => rfl) h) ?_
          refine pj_X_ca (vs := [.ref 34, .int v6, .int z9, .int v5]) rfl (fun _ => rfl) ⟨Nat.le_of_ble_eq_true rfl, Nat.le_of_ble_eq_true rfl, pj_T_rcv hI rfl⟩ ⟨rfl, rfl⟩ (pj_Y_up (by decide) (ct_26 G hI v6 z9 v5 ⟨by omega, by omega⟩)) ?_
          rintro _ _ ⟨y10, rfl, rfl, ry10⟩
          show pj_X _ _ G 54 [(4, .int z9), (0, .ref 34), (1, .ref 4), (2, .int th), (3, .int cr), (5, .int v5), (6, .int v6)] [.int y10] _
          refine pj_X_of (fun r h => pj_R_to (G, 60, [(7, .int y10), (4, .int z9), (0, .ref 34), (1, .ref 4), (2, .int th), (3, .int cr), (5, .int v5), (6, .int v6)], [.long y10.toInt64, .ref 4], 0, 0) 60 5 (fun _ => rfl) h) ?_
          have lc11 : (y10.toInt64).toInt = y10.toInt := Int32.toInt_toInt64 _
          refine pj_X_ca (vs := [.ref 4, .long y10.toInt64]) rfl (fun _ => rfl) ⟨Nat.le_of_ble_eq_true rfl, Nat.le_of_ble_eq_true rfl, pj_T_rcv hI rfl⟩ ⟨rfl, rfl⟩ (pj_Y_up (by decide) (ct_54x G hI y10.toInt64)) ?_
          rintro _ G13 ⟨rfl, iG13, jG13, fy12⟩
          have kG13 : pj_kpt kc_25 G0 G13 := pj_kpt_t hK (pj_kpt_s jG13 rfl)
          show pj_X _ _ G13 63 [(7, .int y10), (4, .int z9), (0, .ref 34), (1, .ref 4), (2, .int th), (3, .int cr), (5, .int v5), (6, .int v6)] [] _
          refine pj_X_of (fun r h => pj_R_to (G13, 68, [(7, .int y10), (4, .int z9), (0, .ref 34), (1, .ref 4), (2, .int th), (3, .int cr), (5, .int v5), (6, .int v6)], [.int (Int32.ofInt (-1)), .int y10, .int v5], 0, 0) 68 4 (fun _ => rfl) h) ?_
          cases b14 : pj_c1 .ne y10 (Int32.ofInt (-1)) with
          | true =>
            have ub14 := pj_u_neT b14
            refine pj_X_of (fun r h => pj_R_icT 76 rfl rfl b14 h) ?_
            refine pj_X_of (fun r h => pj_R_to (G13, 80, [(7, .int y10), (4, .int z9), (0, .ref 34), (1, .ref 4), (2, .int th), (3, .int cr), (5, .int v5), (6, .int v6)], [.int ((Int32.ofInt 1) <<< (y10 &&& 31)), .int v5], 0, 0) 80 4 (fun _ => rfl) h) ?_
            obtain ⟨z15, hz15⟩ : ∃ z : Int32, z = (Int32.ofInt 1) <<< (y10 &&& 31) := ⟨_, rfl⟩
            rw [← hz15]
            have fz15_0 : 1 ≤ z15.toInt ∧ z15.toInt ≤ 32 := by rw [hz15]; exact pj_shlI5 (by omega) (by omega)
            refine pj_X_of (fun r h => pj_R_to (G13, 82, [(7, .int y10), (4, .int z9), (0, .ref 34), (1, .ref 4), (2, .int th), (3, .int cr), (5, .int v5), (6, .int v6)], [.int (z15 ^^^ (Int32.ofInt (-1))), .int v5], 0, 0) 82 3 (fun _ => rfl) h) ?_
            obtain ⟨z16, hz16⟩ : ∃ z : Int32, z = z15 ^^^ (Int32.ofInt (-1)) := ⟨_, rfl⟩
            rw [← hz16]
            refine pj_X_of (fun r h => pj_R_to (G13, 83, [(7, .int y10), (4, .int z9), (0, .ref 34), (1, .ref 4), (2, .int th), (3, .int cr), (5, .int v5), (6, .int v6)], [.int (v5 &&& z16)], 0, 0) 83 2 (fun _ => rfl) h) ?_
            obtain ⟨z17, hz17⟩ : ∃ z : Int32, z = v5 &&& z16 := ⟨_, rfl⟩
            rw [← hz17]
            refine pj_X_of (fun r h => pj_R_to (G13, 88, [(6, .int (v6 + Int32.ofInt 1)), (5, .int z17), (7, .int y10), (4, .int z9), (0, .ref 34), (1, .ref 4), (2, .int th), (3, .int cr)], [], 0, 0) 88 3 (fun _ => rfl) h) ?_
            obtain ⟨z18, hz18⟩ : ∃ z : Int32, z = v6 + Int32.ofInt 1 := ⟨_, rfl⟩
            rw [← hz18]
            have fz18_0 : z18.toInt = v6.toInt + (Int32.ofInt 1).toInt := by rw [hz18]; exact pj_addI (by have := pj_i32 v6; have := pj_i32 (Int32.ofInt 1); omega) (by have := pj_i32 v6; have := pj_i32 (Int32.ofInt 1); omega)
            refine pj_X_of (fun r h => pj_R_to (G13, 9, [(6, .int z18), (5, .int z17), (7, .int y10), (4, .int z9), (0, .ref 34), (1, .ref 4), (2, .int th), (3, .int cr)], [], 0, 0) 9 2 (fun _ => rfl) h) ?_
            exact pj_X_sub [(0, .ref 34), (1, .ref 4), (2, .int th), (3, .int cr), (4, .int z9), (5, .int z17), (6, .int z18)] (show List.Nodup [0, 1, 2, 3, 4, 5, 6] by decide) ⟨rfl, rfl, rfl, rfl, rfl, rfl, rfl, trivial⟩ (ih G13 iG13 kG13 z9 z17 z18 (pj_i32 _) (pj_i32 _) ⟨by omega, by omega⟩ (by omega))
          | false =>
            have ub14 := pj_u_neF b14
            refine pj_X_of (fun r h => pj_R_icF rfl b14 h) ?_
            refine pj_X_of (fun r h => pj_R_to (G13, 83, [(7, .int y10), (4, .int z9), (0, .ref 34), (1, .ref 4), (2, .int th), (3, .int cr), (5, .int v5), (6, .int v6)], [.int (v5 &&& v5)], 0, 0) 83 4 (fun _ => rfl) h) ?_
            obtain ⟨z19, hz19⟩ : ∃ z : Int32, z = v5 &&& v5 := ⟨_, rfl⟩
            rw [← hz19]
            refine pj_X_of (fun r h => pj_R_to (G13, 88, [(6, .int (v6 + Int32.ofInt 1)), (5, .int z19), (7, .int y10), (4, .int z9), (0, .ref 34), (1, .ref 4), (2, .int th), (3, .int cr)], [], 0, 0) 88 3 (fun _ => rfl) h) ?_
            obtain ⟨z20, hz20⟩ : ∃ z : Int32, z = v6 + Int32.ofInt 1 := ⟨_, rfl⟩
            rw [← hz20]
            have fz20_0 : z20.toInt = v6.toInt + (Int32.ofInt 1).toInt := by rw [hz20]; exact pj_addI (by have := pj_i32 v6; have := pj_i32 (Int32.ofInt 1); omega) (by have := pj_i32 v6; have := pj_i32 (Int32.ofInt 1); omega)
            refine pj_X_of (fun r h => pj_R_to (G13, 9, [(6, .int z20), (5, .int z19), (7, .int y10), (4, .int z9), (0, .ref 34), (1, .ref 4), (2, .int th), (3, .int cr)], [], 0, 0) 9 2 (fun _ => rfl) h) ?_
            exact pj_X_sub [(0, .ref 34), (1, .ref 4), (2, .int th), (3, .int cr), (4, .int z9), (5, .int z19), (6, .int z20)] (show List.Nodup [0, 1, 2, 3, 4, 5, 6] by decide) ⟨rfl, rfl, rfl, rfl, rfl, rfl, rfl, trivial⟩ (ih G13 iG13 kG13 z9 z19 z20 (pj_i32 _) (pj_i32 _) ⟨by omega, by omega⟩ (by omega))
    · refine pj_X_of (fun r h => pj_T_gi hI rfl rfl h) ?_
      show pj_X _ _ G 21 [(0, .ref 34), (1, .ref 4), (2, .int th), (3, .int cr), (4, .int v4), (5, .int v5), (6, .int v6)] [.int (pj_fi G 14 1), .int v6] _
      obtain ⟨y21, hy21⟩ : ∃ z : Int32, z = pj_fi G 14 1 := ⟨_, rfl⟩
      rw [← hy21]
      have ey21 : (pj_fi G 14 1).toInt = y21.toInt := by rw [hy21]
      have ry21 : (0 : Int) ≤ y21.toInt ∧ y21.toInt ≤ 10 := by rw [hy21]; exact hI.2.1 14 1 (0, 10) rfl
      cases b22 : pj_c1 .ge v6 y21 with
      | true =>
        have ub22 := pj_u_geT b22
        refine pj_X_of (fun r h => pj_R_icT 91 rfl rfl b22 h) ?_
        exact pj_X_rt rfl rfl ⟨rfl, hI, hK⟩
      | false =>
        have ub22 := pj_u_geF b22
        refine pj_X_of (fun r h => pj_R_icF rfl b22 h) ?_
        refine pj_X_of (fun r h => pj_R_to (G, 27, [(0, .ref 34), (1, .ref 4), (2, .int th), (3, .int cr), (4, .int v4), (5, .int v5), (6, .int v6)], [.int v6, .int th], 0, 0) 27 3 (fun _ => rfl) h) ?_
        refine pj_X_ca (vs := [.int th, .int v6]) rfl (fun _ => rfl) ⟨Nat.le_of_ble_eq_true rfl, Nat.le_of_ble_eq_true rfl, rfl⟩ ⟨rfl, rfl⟩ (pj_Y_up (by decide) (ct_163x G hI th v6)) ?_
        rintro _ _ ⟨y23, rfl, rfl, ry23, fy23⟩
        show pj_X _ _ G 30 [(0, .ref 34), (1, .ref 4), (2, .int th), (3, .int cr), (4, .int v4), (5, .int v5), (6, .int v6)] [.int y23] _
        cases b24 : pj_c1 .eq y23 0 with
        | true =>
          have ub24 := pj_u0_eqT b24
          refine pj_X_of (fun r h => pj_R_ifT 85 rfl rfl b24 h) ?_
          refine pj_X_of (fun r h => pj_R_to (G, 88, [(6, .int (v6 + Int32.ofInt 1)), (0, .ref 34), (1, .ref 4), (2, .int th), (3, .int cr), (4, .int v4), (5, .int v5)], [], 0, 0) 88 2 (fun _ => rfl) h) ?_
          obtain ⟨z25, hz25⟩ : ∃ z : Int32, z = v6 + Int32.ofInt 1 := ⟨_, rfl⟩
          rw [← hz25]
          have fz25_0 : z25.toInt = v6.toInt + (Int32.ofInt 1).toInt := by rw [hz25]; exact pj_addI (by have := pj_i32 v6; have := pj_i32 (Int32.ofInt 1); omega) (by have := pj_i32 v6; have := pj_i32 (Int32.ofInt 1); omega)
          refine pj_X_of (fun r h => pj_R_to (G, 9, [(6, .int z25), (0, .ref 34), (1, .ref 4), (2, .int th), (3, .int cr), (4, .int v4), (5, .int v5)], [], 0, 0) 9 2 (fun _ => rfl) h) ?_
          exact pj_X_sub [(0, .ref 34), (1, .ref 4), (2, .int th), (3, .int cr), (4, .int v4), (5, .int v5), (6, .int z25)] (show List.Nodup [0, 1, 2, 3, 4, 5, 6] by decide) ⟨rfl, rfl, rfl, rfl, rfl, rfl, rfl, trivial⟩ (ih G hI hK v4 v5 z25 (pj_i32 _) (pj_i32 _) ⟨by omega, by omega⟩ (by omega))
        | false =>
          have ub24 := pj_u0_eqF b24
          refine pj_X_of (fun r h => pj_R_ifF rfl b24 h) ?_
          refine pj_X_of (fun r h => pj_R_to (G, 39, [(0, .ref 34), (1, .ref 4), (2, .int th), (3, .int cr), (4, .int v4), (5, .int v5), (6, .int v6)], [.int ((Int32.ofInt 1) <<< (v6 &&& 31)), .int v4], 0, 0) 39 5 (fun _ => rfl) h) ?_
          obtain ⟨z26, hz26⟩ : ∃ z : Int32, z = (Int32.ofInt 1) <<< (v6 &&& 31) := ⟨_, rfl⟩
          rw [← hz26]
          have fz26_0 : 1 ≤ z26.toInt ∧ z26.toInt ≤ 512 := by rw [hz26]; exact pj_shlI9 (by omega) (by omega)
          refine pj_X_of (fun r h => pj_R_to (G, 41, [(0, .ref 34), (1, .ref 4), (2, .int th), (3, .int cr), (4, .int v4), (5, .int v5), (6, .int v6)], [.int (z26 ^^^ (Int32.ofInt (-1))), .int v4], 0, 0) 41 3 (fun _ => rfl) h) ?_
          obtain ⟨z27, hz27⟩ : ∃ z : Int32, z = z26 ^^^ (Int32.ofInt (-1)) := ⟨_, rfl⟩
          rw [← hz27]
          refine pj_X_of (fun r h => pj_R_to (G, 42, [(0, .ref 34), (1, .ref 4), (2, .int th), (3, .int cr), (4, .int v4), (5, .int v5), (6, .int v6)], [.int (v4 &&& z27)], 0, 0) 42 2 (fun _ => rfl) h) ?_
          obtain ⟨z28, hz28⟩ : ∃ z : Int32, z = v4 &&& z27 := ⟨_, rfl⟩
          rw [← hz28]
          refine pj_X_of (fun r h => pj_R_to (G, 51, [(4, .int z28), (0, .ref 34), (1, .ref 4), (2, .int th), (3, .int cr), (5, .int v5), (6, .int v6)], [.int v5, .int z28, .int v6, .ref 34], 0, 0) 51 6 (fun _ => rfl) h) ?_
          refine pj_X_ca (vs := [.ref 34, .int v6, .int z28, .int v5]) rfl (fun _ => rfl) ⟨Nat.le_of_ble_eq_true rfl, Nat.le_of_ble_eq_true rfl, pj_T_rcv hI rfl⟩ ⟨rfl, rfl⟩ (pj_Y_up (by decide) (ct_26 G hI v6 z28 v5 ⟨by omega, by omega⟩)) ?_
          rintro _ _ ⟨y29, rfl, rfl, ry29⟩
          show pj_X _ _ G 54 [(4, .int z28), (0, .ref 34), (1, .ref 4), (2, .int th), (3, .int cr), (5, .int v5), (6, .int v6)] [.int y29] _
          refine pj_X_of (fun r h => pj_R_to (G, 60, [(7, .int y29), (4, .int z28), (0, .ref 34), (1, .ref 4), (2, .int th), (3, .int cr), (5, .int v5), (6, .int v6)], [.long y29.toInt64, .ref 4], 0, 0) 60 5 (fun _ => rfl) h) ?_
          have lc30 : (y29.toInt64).toInt = y29.toInt := Int32.toInt_toInt64 _
          refine pj_X_ca (vs := [.ref 4, .long y29.toInt64]) rfl (fun _ => rfl) ⟨Nat.le_of_ble_eq_true rfl, Nat.le_of_ble_eq_true rfl, pj_T_rcv hI rfl⟩ ⟨rfl, rfl⟩ (pj_Y_up (by decide) (ct_54x G hI y29.toInt64)) ?_
          rintro _ G32 ⟨rfl, iG32, jG32, fy31⟩
          have kG32 : pj_kpt kc_25 G0 G32 := pj_kpt_t hK (pj_kpt_s jG32 rfl)
          show pj_X _ _ G32 63 [(7, .int y29), (4, .int z28), (0, .ref 34), (1, .ref 4), (2, .int th), (3, .int cr), (5, .int v5), (6, .int v6)] [] _
          refine pj_X_of (fun r h => pj_R_to (G32, 68, [(7, .int y29), (4, .int z28), (0, .ref 34), (1, .ref 4), (2, .int th), (3, .int cr), (5, .int v5), (6, .int v6)], [.int (Int32.ofInt (-1)), .int y29, .int v5], 0, 0) 68 4 (fun _ => rfl) h) ?_
          cases b33 : pj_c1 .ne y29 (Int32.ofInt (-1)) with
          | true =>
            have ub33 := pj_u_neT b33
            refine pj_X_of (fun r h => pj_R_icT 76 rfl rfl b33 h) ?_
            refine pj_X_of (fun r h => pj_R_to (G32, 80, [(7, .int y29), (4, .int z28), (0, .ref 34), (1, .ref 4), (2, .int th), (3, .int cr), (5, .int v5), (6, .int v6)], [.int ((Int32.ofInt 1) <<< (y29 &&& 31)), .int v5], 0, 0) 80 4 (fun _ => rfl) h) ?_
            obtain ⟨z34, hz34⟩ : ∃ z : Int32, z = (Int32.ofInt 1) <<< (y29 &&& 31) := ⟨_, rfl⟩
            rw [← hz34]
            have fz34_0 : 1 ≤ z34.toInt ∧ z34.toInt ≤ 32 := by rw [hz34]; exact pj_shlI5 (by omega) (by omega)
            refine pj_X_of (fun r h => pj_R_to (G32, 82, [(7, .int y29), (4, .int z28), (0, .ref 34), (1, .ref 4), (2, .int th), (3, .int cr), (5, .int v5), (6, .int v6)], [.int (z34 ^^^ (Int32.ofInt (-1))), .int v5], 0, 0) 82 3 (fun _ => rfl) h) ?_
            obtain ⟨z35, hz35⟩ : ∃ z : Int32, z = z34 ^^^ (Int32.ofInt (-1)) := ⟨_, rfl⟩
            rw [← hz35]
            refine pj_X_of (fun r h => pj_R_to (G32, 83, [(7, .int y29), (4, .int z28), (0, .ref 34), (1, .ref 4), (2, .int th), (3, .int cr), (5, .int v5), (6, .int v6)], [.int (v5 &&& z35)], 0, 0) 83 2 (fun _ => rfl) h) ?_
            obtain ⟨z36, hz36⟩ : ∃ z : Int32, z = v5 &&& z35 := ⟨_, rfl⟩
            rw [← hz36]
            refine pj_X_of (fun r h => pj_R_to (G32, 88, [(6, .int (v6 + Int32.ofInt 1)), (5, .int z36), (7, .int y29), (4, .int z28), (0, .ref 34), (1, .ref 4), (2, .int th), (3, .int cr)], [], 0, 0) 88 3 (fun _ => rfl) h) ?_
            obtain ⟨z37, hz37⟩ : ∃ z : Int32, z = v6 + Int32.ofInt 1 := ⟨_, rfl⟩
            rw [← hz37]
            have fz37_0 : z37.toInt = v6.toInt + (Int32.ofInt 1).toInt := by rw [hz37]; exact pj_addI (by have := pj_i32 v6; have := pj_i32 (Int32.ofInt 1); omega) (by have := pj_i32 v6; have := pj_i32 (Int32.ofInt 1); omega)
            refine pj_X_of (fun r h => pj_R_to (G32, 9, [(6, .int z37), (5, .int z36), (7, .int y29), (4, .int z28), (0, .ref 34), (1, .ref 4), (2, .int th), (3, .int cr)], [], 0, 0) 9 2 (fun _ => rfl) h) ?_
            exact pj_X_sub [(0, .ref 34), (1, .ref 4), (2, .int th), (3, .int cr), (4, .int z28), (5, .int z36), (6, .int z37)] (show List.Nodup [0, 1, 2, 3, 4, 5, 6] by decide) ⟨rfl, rfl, rfl, rfl, rfl, rfl, rfl, trivial⟩ (ih G32 iG32 kG32 z28 z36 z37 (pj_i32 _) (pj_i32 _) ⟨by omega, by omega⟩ (by omega))
          | false =>
            have ub33 := pj_u_neF b33
            refine pj_X_of (fun r h => pj_R_icF rfl b33 h) ?_
            refine pj_X_of (fun r h => pj_R_to (G32, 83, [(7, .int y29), (4, .int z28), (0, .ref 34), (1, .ref 4), (2, .int th), (3, .int cr), (5, .int v5), (6, .int v6)], [.int (v5 &&& v5)], 0, 0) 83 4 (fun _ => rfl) h) ?_
            obtain ⟨z38, hz38⟩ : ∃ z : Int32, z = v5 &&& v5 := ⟨_, rfl⟩
            rw [← hz38]
            refine pj_X_of (fun r h => pj_R_to (G32, 88, [(6, .int (v6 + Int32.ofInt 1)), (5, .int z38), (7, .int y29), (4, .int z28), (0, .ref 34), (1, .ref 4), (2, .int th), (3, .int cr)], [], 0, 0) 88 3 (fun _ => rfl) h) ?_
            obtain ⟨z39, hz39⟩ : ∃ z : Int32, z = v6 + Int32.ofInt 1 := ⟨_, rfl⟩
            rw [← hz39]
            have fz39_0 : z39.toInt = v6.toInt + (Int32.ofInt 1).toInt := by rw [hz39]; exact pj_addI (by have := pj_i32 v6; have := pj_i32 (Int32.ofInt 1); omega) (by have := pj_i32 v6; have := pj_i32 (Int32.ofInt 1); omega)
            refine pj_X_of (fun r h => pj_R_to (G32, 9, [(6, .int z39), (5, .int z38), (7, .int y29), (4, .int z28), (0, .ref 34), (1, .ref 4), (2, .int th), (3, .int cr)], [], 0, 0) 9 2 (fun _ => rfl) h) ?_
            exact pj_X_sub [(0, .ref 34), (1, .ref 4), (2, .int th), (3, .int cr), (4, .int z28), (5, .int z38), (6, .int z39)] (show List.Nodup [0, 1, 2, 3, 4, 5, 6] by decide) ⟨rfl, rfl, rfl, rfl, rfl, rfl, rfl, trivial⟩ (ih G32 iG32 kG32 z28 z38 z39 (pj_i32 _) (pj_i32 _) ⟨by omega, by omega⟩ (by omega))
theorem ct_25 (G0 : pj_G) (hI : pj_Inv G0) (th : Int32) (cr : Int32) : pj_Y 4 25 [.ref 34, .ref 4, .int th, .int cr] G0 (fun v G' => v = none ∧ pj_Inv G' ∧ pj_kpt kc_25 G0 G') := by
  have c0_ : (Int32.ofInt (-1)).toInt = -1 := by decide
  have c1_ : (Int32.ofInt 0).toInt = 0 := by decide
  have c2_ : (Int32.ofInt 1).toInt = 1 := by decide
  refine pj_Y_X (M := pj_m25) rfl rfl (Nat.le_of_ble_eq_true rfl) ?_
  have hK : pj_kpt kc_25 G0 G0 := pj_kpt_r _ _
  show pj_X _ _ G0 0 [(0, .ref 34), (1, .ref 4), (2, .int th), (3, .int cr)] [] _
  refine pj_X_of (fun r h => pj_R_to (G0, 9, [(6, .int (Int32.ofInt 0)), (5, .int cr), (4, .int th), (0, .ref 34), (1, .ref 4), (2, .int th), (3, .int cr)], [], 0, 0) 9 7 (fun _ => rfl) h) ?_
  exact pj_X_sub [(0, .ref 34), (1, .ref 4), (2, .int th), (3, .int cr), (4, .int th), (5, .int cr), (6, .int (Int32.ofInt 0))] (show List.Nodup [0, 1, 2, 3, 4, 5, 6] by decide) ⟨rfl, rfl, rfl, rfl, rfl, rfl, rfl, trivial⟩ ((lp_ct_25 G0 hI th cr  11) G0 hI hK th cr (Int32.ofInt 0) (pj_i32 _) (pj_i32 _) ⟨by omega, by omega⟩ (by omega))
def kc_27 : pj_KT := ([(34, 2)], [34, 35], [35])
theorem ct_27 (G0 : pj_G) (hI : pj_Inv G0) (bk : Int32) : pj_Y 1 27 [.ref 34, .int bk] G0 (fun v G' => v = none ∧ pj_Inv G' ∧ pj_kpt kc_27 G0 G') := by
  have c0_ : (Int32.ofInt 0).toInt = 0 := by decide
  have c1_ : (Int32.ofInt 1).toInt = 1 := by decide
  refine pj_Y_X (M := pj_m27) rfl rfl (Nat.le_of_ble_eq_true rfl) ?_
  have hK : pj_kpt kc_27 G0 G0 := pj_kpt_r _ _
  show pj_X _ _ G0 0 [(0, .ref 34), (1, .int bk)] [] _
  refine pj_X_of (fun r h => pj_R_to (G0, 1, [(0, .ref 34), (1, .int bk)], [.ref 34], 0, 0) 1 2 (fun _ => rfl) h) ?_
  refine pj_X_of (fun r h => pj_T_gr hI rfl rfl rfl h) ?_
  refine pj_X_of (fun r h => pj_R_to (G0, 6, [(0, .ref 34), (1, .int bk)], [.int bk, .int (Int32.ofInt 0), .ref 35], 0, 0) 6 3 (fun _ => rfl) h) ?_
  refine pj_X_of (fun r h => pj_T_is hI rfl rfl (by omega) (by omega) h) ?_
  show pj_X _ _ (pj_wa G0 35 (Int32.ofInt 0).toInt.toNat bk) 7 [(0, .ref 34), (1, .int bk)] [] _
  obtain ⟨G1, hG1⟩ : ∃ H, H = pj_wa G0 35 (Int32.ofInt 0).toInt.toNat bk := ⟨_, rfl⟩
  have iG1 : pj_Inv G1 := by rw [hG1]; exact pj_Inv_wa hI rfl (fun q hq => by cases hq) (fun n hn => by cases hn)
  have kG1 : pj_kpt kc_27 G0 G1 := by rw [hG1]; exact pj_kpt_a hK rfl
  rw [← hG1]
  refine pj_X_of (fun r h => pj_R_to (G1, 9, [(0, .ref 34), (1, .int bk)], [.int (Int32.ofInt 1), .ref 34], 0, 0) 9 3 (fun _ => rfl) h) ?_
  refine pj_X_of (fun r h => pj_T_pf iG1 rfl rfl rfl h) ?_
  show pj_X _ _ (pj_wv G1 34 2 (.int (Int32.ofInt 1))) 12 [(0, .ref 34), (1, .int bk)] [] _
  obtain ⟨G2, hG2⟩ : ∃ H, H = pj_wv G1 34 2 (.int (Int32.ofInt 1)) := ⟨_, rfl⟩
  have iG2 : pj_Inv G2 := by rw [hG2]; exact pj_Inv_wi iG1 (ci := 3) rfl (fun q hq => by cases hq; exact ⟨by show (0 : Int) ≤ _; omega, by show _ ≤ (8 : Int); omega⟩)
  have kG2 : pj_kpt kc_27 G0 G2 := by rw [hG2]; exact pj_kpt_v kG1 rfl
  rw [← hG2]
  exact pj_X_rt rfl rfl ⟨rfl, iG2, kG2⟩
theorem lp_ct_29 (G0 : pj_G) (hI : pj_Inv G0) (th : Int32) : ∀ mn : Nat, (∀ (v2 : Int32), ((0 : Int) ≤ v2.toInt ∧ v2.toInt ≤ 8) → 8 - v2.toInt < (mn : Int) → pj_X 3 pj_m29 G0 2 [(0, .ref 34), (1, .int th), (2, .int v2)] [] (fun v G' => ∃ y : Int32, v = some (.int y) ∧ G0 = G' ∧ ((0 : Int) ≤ y.toInt ∧ y.toInt ≤ 1))) := by
  have c0_ : (Int32.ofInt (-1)).toInt = -1 := by decide
  have c1_ : (Int32.ofInt 0).toInt = 0 := by decide
  have c2_ : (Int32.ofInt 1).toInt = 1 := by decide
  have hK : pj_kpt ([], [], []) G0 G0 := pj_kpt_r _ _
  intro mn
  induction mn with
  | zero =>
    intro v2 rv2 hm
    exfalso
    omega
  | succ mn ih =>
    intro v2 rv2 hm
    refine pj_X_of (fun r h => pj_R_to (G0, 4, [(0, .ref 34), (1, .int th), (2, .int v2)], [.ref 34, .int v2], 0, 0) 4 3 (fun _ => rfl) h) ?_
    refine pj_X_of (fun r h => pj_T_gi hI rfl rfl h) ?_
    show pj_X _ _ G0 7 [(0, .ref 34), (1, .int th), (2, .int v2)] [.int (pj_fi G0 34 2), .int v2] _
    obtain ⟨y1, hy1⟩ : ∃ z : Int32, z = pj_fi G0 34 2 := ⟨_, rfl⟩
    rw [← hy1]
    have ey1 : (pj_fi G0 34 2).toInt = y1.toInt := by rw [hy1]
    have ry1 : (0 : Int) ≤ y1.toInt ∧ y1.toInt ≤ 8 := by rw [hy1]; exact hI.2.1 34 2 (0, 8) rfl
    cases b2 : pj_c1 .ge v2 y1 with
    | true =>
      have ub2 := pj_u_geT b2
      refine pj_X_of (fun r h => pj_R_icT 55 rfl rfl b2 h) ?_
      refine pj_X_of (fun r h => pj_R_to (G0, 56, [(0, .ref 34), (1, .int th), (2, .int v2)], [.int (Int32.ofInt 1)], 0, 0) 56 2 (fun _ => rfl) h) ?_
      exact pj_X_rt rfl rfl ⟨_, rfl, rfl, ⟨by omega, by omega⟩⟩
    | false =>
      have ub2 := pj_u_geF b2
      refine pj_X_of (fun r h => pj_R_icF rfl b2 h) ?_
      refine pj_X_of (fun r h => pj_R_to (G0, 11, [(0, .ref 34), (1, .int th), (2, .int v2)], [.ref 34], 0, 0) 11 2 (fun _ => rfl) h) ?_
      refine pj_X_of (fun r h => pj_T_gr hI rfl rfl rfl h) ?_
      refine pj_X_of (fun r h => pj_R_to (G0, 15, [(0, .ref 34), (1, .int th), (2, .int v2)], [.int v2, .ref 35], 0, 0) 15 2 (fun _ => rfl) h) ?_
      refine pj_X_of (fun r h => pj_T_il hI rfl rfl (by omega) (by omega) h) ?_
      show pj_X _ _ G0 16 [(0, .ref 34), (1, .int th), (2, .int v2)] [.int (pj_ai G0 35 v2.toInt.toNat)] _
      obtain ⟨z3, hz3⟩ : ∃ z : Int32, z = pj_ai G0 35 v2.toInt.toNat := ⟨_, rfl⟩
      rw [← hz3]
      have ez3 : (pj_ai G0 35 v2.toInt.toNat).toInt = z3.toInt := by rw [hz3]
      refine pj_X_of (fun r h => pj_R_to (G0, 18, [(3, .int z3), (0, .ref 34), (1, .int th), (2, .int v2)], [.int z3], 0, 0) 18 3 (fun _ => rfl) h) ?_
      refine pj_X_ca (vs := [.int z3]) rfl (fun _ => rfl) ⟨Nat.le_of_ble_eq_true rfl, Nat.le_of_ble_eq_true rfl, rfl⟩ ⟨rfl, rfl⟩ (pj_Y_up (by decide) (ct_286 G0 hI z3)) ?_
      rintro _ _ ⟨y4, rfl, rfl, ry4⟩
      show pj_X _ _ G0 21 [(3, .int z3), (0, .ref 34), (1, .int th), (2, .int v2)] [.int y4] _
      refine pj_X_of (fun r h => pj_R_to (G0, 24, [(4, .int y4), (3, .int z3), (0, .ref 34), (1, .int th), (2, .int v2)], [.int z3], 0, 0) 24 3 (fun _ => rfl) h) ?_
      cases b5 : pj_c1 .eq z3 0 with
      | true =>
        have ub5 := pj_u0_eqT b5
        refine pj_X_of (fun r h => pj_R_ifT 49 rfl rfl b5 h) ?_
        refine pj_X_of (fun r h => pj_R_to (G0, 52, [(2, .int (v2 + Int32.ofInt 1)), (4, .int y4), (3, .int z3), (0, .ref 34), (1, .int th)], [], 0, 0) 52 2 (fun _ => rfl) h) ?_
        obtain ⟨z6, hz6⟩ : ∃ z : Int32, z = v2 + Int32.ofInt 1 := ⟨_, rfl⟩
        rw [← hz6]
        have fz6_0 : z6.toInt = v2.toInt + (Int32.ofInt 1).toInt := by rw [hz6]; exact pj_addI (by have := pj_i32 v2; have := pj_i32 (Int32.ofInt 1); omega) (by have := pj_i32 v2; have := pj_i32 (Int32.ofInt 1); omega)
        refine pj_X_of (fun r h => pj_R_to (G0, 2, [(2, .int z6), (4, .int y4), (3, .int z3), (0, .ref 34), (1, .int th)], [], 0, 0) 2 2 (fun _ => rfl) h) ?_
        exact pj_X_sub [(0, .ref 34), (1, .int th), (2, .int z6)] (show List.Nodup [0, 1, 2] by decide) ⟨rfl, rfl, rfl, trivial⟩ (ih z6 ⟨by omega, by omega⟩ (by omega))
      | false =>
        have ub5 := pj_u0_eqF b5
        refine pj_X_of (fun r h => pj_R_ifF rfl b5 h) ?_
        refine pj_X_of (fun r h => pj_R_to (G0, 29, [(4, .int y4), (3, .int z3), (0, .ref 34), (1, .int th), (2, .int v2)], [.ref 34, .int z3], 0, 0) 29 3 (fun _ => rfl) h) ?_
        refine pj_X_of (fun r h => pj_T_gr hI rfl rfl rfl h) ?_
        refine pj_X_gm hI rfl rfl (fun q7 => ?_) (fun q7 => ?_)
        · refine pj_X_of (fun r h => pj_R_to (G0, 38, [(4, .int y4), (3, .int z3), (0, .ref 34), (1, .int th), (2, .int v2)], [.int th, .int y4, .ref 7, .int z3], 0, 0) 38 3 (fun _ => rfl) h) ?_
          refine pj_X_ca (vs := [.ref 7, .int y4, .int th]) rfl (fun _ => rfl) ⟨Nat.le_of_ble_eq_true rfl, Nat.le_of_ble_eq_true rfl, pj_T_rcv hI rfl⟩ ⟨rfl, rfl⟩ (pj_Y_up (by decide) (ct_47_7 G0 hI y4 th)) ?_
          rintro _ _ ⟨y8, rfl, rfl, ry8⟩
          show pj_X _ _ G0 41 [(4, .int y4), (3, .int z3), (0, .ref 34), (1, .int th), (2, .int v2)] [.int y8, .int z3] _
          refine pj_X_of (fun r h => pj_R_to (G0, 43, [(4, .int y4), (3, .int z3), (0, .ref 34), (1, .int th), (2, .int v2)], [.int (y8 ^^^ (Int32.ofInt (-1))), .int z3], 0, 0) 43 3 (fun _ => rfl) h) ?_
          obtain ⟨z9, hz9⟩ : ∃ z : Int32, z = y8 ^^^ (Int32.ofInt (-1)) := ⟨_, rfl⟩
          rw [← hz9]
          refine pj_X_of (fun r h => pj_R_to (G0, 44, [(4, .int y4), (3, .int z3), (0, .ref 34), (1, .int th), (2, .int v2)], [.int (z3 &&& z9)], 0, 0) 44 2 (fun _ => rfl) h) ?_
          obtain ⟨z10, hz10⟩ : ∃ z : Int32, z = z3 &&& z9 := ⟨_, rfl⟩
          rw [← hz10]
          cases b11 : pj_c1 .eq z10 0 with
          | true =>
            have ub11 := pj_u0_eqT b11
            refine pj_X_of (fun r h => pj_R_ifT 49 rfl rfl b11 h) ?_
            refine pj_X_of (fun r h => pj_R_to (G0, 52, [(2, .int (v2 + Int32.ofInt 1)), (4, .int y4), (3, .int z3), (0, .ref 34), (1, .int th)], [], 0, 0) 52 2 (fun _ => rfl) h) ?_
            obtain ⟨z12, hz12⟩ : ∃ z : Int32, z = v2 + Int32.ofInt 1 := ⟨_, rfl⟩
            rw [← hz12]
            have fz12_0 : z12.toInt = v2.toInt + (Int32.ofInt 1).toInt := by rw [hz12]; exact pj_addI (by have := pj_i32 v2; have := pj_i32 (Int32.ofInt 1); omega) (by have := pj_i32 v2; have := pj_i32 (Int32.ofInt 1); omega)
            refine pj_X_of (fun r h => pj_R_to (G0, 2, [(2, .int z12), (4, .int y4), (3, .int z3), (0, .ref 34), (1, .int th)], [], 0, 0) 2 2 (fun _ => rfl) h) ?_
            exact pj_X_sub [(0, .ref 34), (1, .int th), (2, .int z12)] (show List.Nodup [0, 1, 2] by decide) ⟨rfl, rfl, rfl, trivial⟩ (ih z12 ⟨by omega, by omega⟩ (by omega))
          | false =>
            have ub11 := pj_u0_eqF b11
            refine pj_X_of (fun r h => pj_R_ifF rfl b11 h) ?_
            refine pj_X_of (fun r h => pj_R_to (G0, 48, [(4, .int y4), (3, .int z3), (0, .ref 34), (1, .int th), (2, .int v2)], [.int (Int32.ofInt 0)], 0, 0) 48 2 (fun _ => rfl) h) ?_
            exact pj_X_rt rfl rfl ⟨_, rfl, rfl, ⟨by omega, by omega⟩⟩
        · refine pj_X_of (fun r h => pj_R_to (G0, 38, [(4, .int y4), (3, .int z3), (0, .ref 34), (1, .int th), (2, .int v2)], [.int th, .int y4, .ref 14, .int z3], 0, 0) 38 3 (fun _ => rfl) h) ?_
          refine pj_X_ca (vs := [.ref 14, .int y4, .int th]) rfl (fun _ => rfl) ⟨Nat.le_of_ble_eq_true rfl, Nat.le_of_ble_eq_true rfl, pj_T_rcv hI rfl⟩ ⟨rfl, rfl⟩ (pj_Y_up (by decide) (ct_47_14 G0 hI y4 th)) ?_
          rintro _ _ ⟨y13, rfl, rfl, ry13⟩
          show pj_X _ _ G0 41 [(4, .int y4), (3, .int z3), (0, .ref 34), (1, .int th), (2, .int v2)] [.int y13, .int z3] _
          refine pj_X_of (fun r h => pj_R_to (G0, 43, [(4, .int y4), (3, .int z3), (0, .ref 34), (1, .int th), (2, .int v2)], [.int (y13 ^^^ (Int32.ofInt (-1))), .int z3], 0, 0) 43 3 (fun _ => rfl) h) ?_
          obtain ⟨z14, hz14⟩ : ∃ z : Int32, z = y13 ^^^ (Int32.ofInt (-1)) := ⟨_, rfl⟩
          rw [← hz14]
          refine pj_X_of (fun r h => pj_R_to (G0, 44, [(4, .int y4), (3, .int z3), (0, .ref 34), (1, .int th), (2, .int v2)], [.int (z3 &&& z14)], 0, 0) 44 2 (fun _ => rfl) h) ?_
          obtain ⟨z15, hz15⟩ : ∃ z : Int32, z = z3 &&& z14 := ⟨_, rfl⟩
          rw [← hz15]
          cases b16 : pj_c1 .eq z15 0 with
          | true =>
            have ub16 := pj_u0_eqT b16
            refine pj_X_of (fun r h => pj_R_ifT 49 rfl rfl b16 h) ?_
            refine pj_X_of (fun r h => pj_R_to (G0, 52, [(2, .int (v2 + Int32.ofInt 1)), (4, .int y4), (3, .int z3), (0, .ref 34), (1, .int th)], [], 0, 0) 52 2 (fun _ => rfl) h) ?_
            obtain ⟨z17, hz17⟩ : ∃ z : Int32, z = v2 + Int32.ofInt 1 := ⟨_, rfl⟩
            rw [← hz17]
            have fz17_0 : z17.toInt = v2.toInt + (Int32.ofInt 1).toInt := by rw [hz17]; exact pj_addI (by have := pj_i32 v2; have := pj_i32 (Int32.ofInt 1); omega) (by have := pj_i32 v2; have := pj_i32 (Int32.ofInt 1); omega)
            refine pj_X_of (fun r h => pj_R_to (G0, 2, [(2, .int z17), (4, .int y4), (3, .int z3), (0, .ref 34), (1, .int th)], [], 0, 0) 2 2 (fun _ => rfl) h) ?_
            exact pj_X_sub [(0, .ref 34), (1, .int th), (2, .int z17)] (show List.Nodup [0, 1, 2] by decide) ⟨rfl, rfl, rfl, trivial⟩ (ih z17 ⟨by omega, by omega⟩ (by omega))
          | false =>
            have ub16 := pj_u0_eqF b16
            refine pj_X_of (fun r h => pj_R_ifF rfl b16 h) ?_
            refine pj_X_of (fun r h => pj_R_to (G0, 48, [(4, .int y4), (3, .int z3), (0, .ref 34), (1, .int th), (2, .int v2)], [.int (Int32.ofInt 0)], 0, 0) 48 2 (fun _ => rfl) h) ?_
            exact pj_X_rt rfl rfl ⟨_, rfl, rfl, ⟨by omega, by omega⟩⟩
theorem ct_29 (G0 : pj_G) (hI : pj_Inv G0) (th : Int32) : pj_Y 4 29 [.ref 34, .int th] G0 (fun v G' => ∃ y : Int32, v = some (.int y) ∧ G0 = G' ∧ ((0 : Int) ≤ y.toInt ∧ y.toInt ≤ 1)) := by
  have c0_ : (Int32.ofInt (-1)).toInt = -1 := by decide
  have c1_ : (Int32.ofInt 0).toInt = 0 := by decide
  have c2_ : (Int32.ofInt 1).toInt = 1 := by decide
  refine pj_Y_X (M := pj_m29) rfl rfl (Nat.le_of_ble_eq_true rfl) ?_
  have hK : pj_kpt ([], [], []) G0 G0 := pj_kpt_r _ _
  show pj_X _ _ G0 0 [(0, .ref 34), (1, .int th)] [] _
  refine pj_X_of (fun r h => pj_R_to (G0, 2, [(2, .int (Int32.ofInt 0)), (0, .ref 34), (1, .int th)], [], 0, 0) 2 3 (fun _ => rfl) h) ?_
  exact pj_X_sub [(0, .ref 34), (1, .int th), (2, .int (Int32.ofInt 0))] (show List.Nodup [0, 1, 2] by decide) ⟨rfl, rfl, rfl, trivial⟩ ((lp_ct_29 G0 hI th  9) (Int32.ofInt 0) ⟨by omega, by omega⟩ (by omega))
def kc_30 : pj_KT := ([(4, 1)], [4, 5, 36, 37], [36, 37])
theorem lp_ct_30 (G0 : pj_G) (hI0 : pj_Inv G0) : ∀ mn : Nat, (∀ (G : pj_G) (hI : pj_Inv G) (hK : pj_kpt kc_30 G0 G) (v2 : Int32) (v3 : Int32) (v4 : Int32) (v5 : Int32), ((-2147483648 : Int) ≤ v2.toInt ∧ v2.toInt ≤ 2147483647) → ((-2147483648 : Int) ≤ v3.toInt ∧ v3.toInt ≤ 2147483647) → ((-2147483648 : Int) ≤ v4.toInt ∧ v4.toInt ≤ 2147483647) → ((0 : Int) ≤ v5.toInt ∧ v5.toInt ≤ 1024) → 1024 - v5.toInt < (mn : Int) → pj_X 4 pj_m30 G 14 [(0, .ref 34), (1, .ref 4), (2, .int v2), (3, .int v3), (4, .int v4), (5, .int v5)] [] (fun v G' => ∃ y : Int32, v = some (.int y) ∧ pj_Inv G' ∧ pj_kpt kc_30 G0 G' ∧ ((-2147483648 : Int) ≤ y.toInt ∧ y.toInt ≤ 2147483647))) := by
  have c0_ : ((Int8.ofInt (-2)).toInt32).toInt = -2 := by decide
  have c1_ : ((Int8.ofInt 11).toInt32).toInt = 11 := by decide
  have c2_ : (Int32.ofInt (-1)).toInt = -1 := by decide
  have c3_ : (Int32.ofInt 0).toInt = 0 := by decide
  have c4_ : (Int32.ofInt 1).toInt = 1 := by decide
  intro mn
  induction mn with
  | zero =>
    intro G hI hK v2 v3 v4 v5 rv2 rv3 rv4 rv5 hm
    exfalso
    omega
  | succ mn ih =>
    intro G hI hK v2 v3 v4 v5 rv2 rv3 rv4 rv5 hm
    refine pj_X_of (fun r h => pj_R_to (G, 18, [(0, .ref 34), (1, .ref 4), (2, .int v2), (3, .int v3), (4, .int v4), (5, .int v5)], [.ref 34, .int (Int32.ofInt 1), .int v5], 0, 0) 18 4 (fun _ => rfl) h) ?_
    refine pj_X_of (fun r h => pj_T_gr hI rfl rfl rfl h) ?_
    refine pj_X_gm hI rfl rfl (fun q1 => ?_) (fun q1 => ?_)
    · refine pj_X_of (fun r h => pj_T_gi hI rfl rfl h) ?_
      show pj_X _ _ G 27 [(0, .ref 34), (1, .ref 4), (2, .int v2), (3, .int v3), (4, .int v4), (5, .int v5)] [.int (pj_fi G 7 1), .int (Int32.ofInt 1), .int v5] _
      obtain ⟨y2, hy2⟩ : ∃ z : Int32, z = pj_fi G 7 1 := ⟨_, rfl⟩
      rw [← hy2]
      have ey2 : (pj_fi G 7 1).toInt = y2.toInt := by rw [hy2]
      have ry2 : (0 : Int) ≤ y2.toInt ∧ y2.toInt ≤ 10 := by rw [hy2]; exact hI.2.1 7 1 (0, 10) rfl
      refine pj_X_of (fun r h => pj_R_to (G, 28, [(0, .ref 34), (1, .ref 4), (2, .int v2), (3, .int v3), (4, .int v4), (5, .int v5)], [.int ((Int32.ofInt 1) <<< (y2 &&& 31)), .int v5], 0, 0) 28 2 (fun _ => rfl) h) ?_
      obtain ⟨z3, hz3⟩ : ∃ z : Int32, z = (Int32.ofInt 1) <<< (y2 &&& 31) := ⟨_, rfl⟩
      rw [← hz3]
      have fz3_0 : 1 ≤ z3.toInt ∧ z3.toInt ≤ 1024 := by rw [hz3]; exact pj_shlI10 (by omega) (by omega)
      cases b4 : pj_c1 .ge v5 z3 with
      | true =>
        have ub4 := pj_u_geT b4
        refine pj_X_of (fun r h => pj_R_icT 75 rfl rfl b4 h) ?_
        refine pj_X_of (fun r h => pj_R_to (G, 77, [(0, .ref 34), (1, .ref 4), (2, .int v2), (3, .int v3), (4, .int v4), (5, .int v5)], [.int (Int32.ofInt (-1)), .int v2], 0, 0) 77 3 (fun _ => rfl) h) ?_
        cases b5 : pj_c1 .ne v2 (Int32.ofInt (-1)) with
        | true =>
          have ub5 := pj_u_neT b5
          refine pj_X_of (fun r h => pj_R_icT 83 rfl rfl b5 h) ?_
          refine pj_X_of (fun r h => pj_R_to (G, 86, [(0, .ref 34), (1, .ref 4), (2, .int v2), (3, .int v3), (4, .int v4), (5, .int v5)], [.long v2.toInt64, .ref 4], 0, 0) 86 4 (fun _ => rfl) h) ?_
          have lc6 : (v2.toInt64).toInt = v2.toInt := Int32.toInt_toInt64 _
          refine pj_X_ca (vs := [.ref 4, .long v2.toInt64]) rfl (fun _ => rfl) ⟨Nat.le_of_ble_eq_true rfl, Nat.le_of_ble_eq_true rfl, pj_T_rcv hI rfl⟩ ⟨rfl, rfl⟩ (pj_Y_up (by decide) (ct_55x G hI v2.toInt64)) ?_
          rintro _ G8 ⟨rfl, iG8, jG8, fy7⟩
          have kG8 : pj_kpt kc_30 G0 G8 := pj_kpt_t hK (pj_kpt_s jG8 rfl)
          show pj_X _ _ G8 89 [(0, .ref 34), (1, .ref 4), (2, .int v2), (3, .int v3), (4, .int v4), (5, .int v5)] [] _
          refine pj_X_of (fun r h => pj_R_to (G8, 90, [(0, .ref 34), (1, .ref 4), (2, .int v2), (3, .int v3), (4, .int v4), (5, .int v5)], [.int v3], 0, 0) 90 2 (fun _ => rfl) h) ?_
          exact pj_X_rt rfl rfl ⟨_, rfl, iG8, kG8, pj_i32 _⟩
        | false =>
          have ub5 := pj_u_neF b5
          refine pj_X_of (fun r h => pj_R_icF rfl b5 h) ?_
          refine pj_X_of (fun r h => pj_R_to (G, 82, [(0, .ref 34), (1, .ref 4), (2, .int v2), (3, .int v3), (4, .int v4), (5, .int v5)], [.int ((Int8.ofInt (-2)).toInt32)], 0, 0) 82 2 (fun _ => rfl) h) ?_
          exact pj_X_rt rfl rfl ⟨_, rfl, hI, hK, pj_i32 _⟩
      | false =>
        have ub4 := pj_u_geF b4
        refine pj_X_of (fun r h => pj_R_icF rfl b4 h) ?_
        refine pj_X_of (fun r h => pj_R_to (G, 33, [(0, .ref 34), (1, .ref 4), (2, .int v2), (3, .int v3), (4, .int v4), (5, .int v5)], [.int v5], 0, 0) 33 2 (fun _ => rfl) h) ?_
        refine pj_X_ca (vs := [.int v5]) rfl (fun _ => rfl) ⟨Nat.le_of_ble_eq_true rfl, Nat.le_of_ble_eq_true rfl, rfl⟩ ⟨rfl, rfl⟩ (pj_Y_up (by decide) (ct_287 G hI v5)) ?_
        rintro _ _ ⟨y9, rfl, rfl, ry9⟩
        show pj_X _ _ G 36 [(0, .ref 34), (1, .ref 4), (2, .int v2), (3, .int v3), (4, .int v4), (5, .int v5)] [.int y9] _
        refine pj_X_of (fun r h => pj_R_to (G, 37, [(0, .ref 34), (1, .ref 4), (2, .int v2), (3, .int v3), (4, .int v4), (5, .int v5)], [.int v3, .int y9], 0, 0) 37 2 (fun _ => rfl) h) ?_
        cases b10 : pj_c1 .ge y9 v3 with
        | true =>
          have ub10 := pj_u_geT b10
          refine pj_X_of (fun r h => pj_R_icT 69 rfl rfl b10 h) ?_
          refine pj_X_of (fun r h => pj_R_to (G, 72, [(5, .int (v5 + Int32.ofInt 1)), (0, .ref 34), (1, .ref 4), (2, .int v2), (3, .int v3), (4, .int v4)], [], 0, 0) 72 2 (fun _ => rfl) h) ?_
          obtain ⟨z11, hz11⟩ : ∃ z : Int32, z = v5 + Int32.ofInt 1 := ⟨_, rfl⟩
          rw [← hz11]
          have fz11_0 : z11.toInt = v5.toInt + (Int32.ofInt 1).toInt := by rw [hz11]; exact pj_addI (by have := pj_i32 v5; have := pj_i32 (Int32.ofInt 1); omega) (by have := pj_i32 v5; have := pj_i32 (Int32.ofInt 1); omega)
          refine pj_X_of (fun r h => pj_R_to (G, 14, [(5, .int z11), (0, .ref 34), (1, .ref 4), (2, .int v2), (3, .int v3), (4, .int v4)], [], 0, 0) 14 2 (fun _ => rfl) h) ?_
          exact pj_X_sub [(0, .ref 34), (1, .ref 4), (2, .int v2), (3, .int v3), (4, .int v4), (5, .int z11)] (show List.Nodup [0, 1, 2, 3, 4, 5] by decide) ⟨rfl, rfl, rfl, rfl, rfl, rfl, trivial⟩ (ih G hI hK v2 v3 v4 z11 (pj_i32 _) (pj_i32 _) (pj_i32 _) ⟨by omega, by omega⟩ (by omega))
        | false =>
          have ub10 := pj_u_geF b10
          refine pj_X_of (fun r h => pj_R_icF rfl b10 h) ?_
          refine pj_X_of (fun r h => pj_R_to (G, 45, [(0, .ref 34), (1, .ref 4), (2, .int v2), (3, .int v3), (4, .int v4), (5, .int v5)], [.int v4, .int v5, .ref 34], 0, 0) 45 4 (fun _ => rfl) h) ?_
          refine pj_X_ca (vs := [.ref 34, .int v5, .int v4]) rfl (fun _ => rfl) ⟨Nat.le_of_ble_eq_true rfl, Nat.le_of_ble_eq_true rfl, pj_T_rcv hI rfl⟩ ⟨rfl, rfl⟩ (pj_Y_up (by decide) (ct_24 G hI v5 v4)) ?_
          rintro _ _ ⟨y12, rfl, rfl, ry12⟩
          show pj_X _ _ G 48 [(0, .ref 34), (1, .ref 4), (2, .int v2), (3, .int v3), (4, .int v4), (5, .int v5)] [.int y12] _
          cases b13 : pj_c1 .eq y12 0 with
          | true =>
            have ub13 := pj_u0_eqT b13
            refine pj_X_of (fun r h => pj_R_ifT 69 rfl rfl b13 h) ?_
            refine pj_X_of (fun r h => pj_R_to (G, 72, [(5, .int (v5 + Int32.ofInt 1)), (0, .ref 34), (1, .ref 4), (2, .int v2), (3, .int v3), (4, .int v4)], [], 0, 0) 72 2 (fun _ => rfl) h) ?_
            obtain ⟨z14, hz14⟩ : ∃ z : Int32, z = v5 + Int32.ofInt 1 := ⟨_, rfl⟩
            rw [← hz14]
            have fz14_0 : z14.toInt = v5.toInt + (Int32.ofInt 1).toInt := by rw [hz14]; exact pj_addI (by have := pj_i32 v5; have := pj_i32 (Int32.ofInt 1); omega) (by have := pj_i32 v5; have := pj_i32 (Int32.ofInt 1); omega)
            refine pj_X_of (fun r h => pj_R_to (G, 14, [(5, .int z14), (0, .ref 34), (1, .ref 4), (2, .int v2), (3, .int v3), (4, .int v4)], [], 0, 0) 14 2 (fun _ => rfl) h) ?_
            exact pj_X_sub [(0, .ref 34), (1, .ref 4), (2, .int v2), (3, .int v3), (4, .int v4), (5, .int z14)] (show List.Nodup [0, 1, 2, 3, 4, 5] by decide) ⟨rfl, rfl, rfl, rfl, rfl, rfl, trivial⟩ (ih G hI hK v2 v3 v4 z14 (pj_i32 _) (pj_i32 _) (pj_i32 _) ⟨by omega, by omega⟩ (by omega))
          | false =>
            have ub13 := pj_u0_eqF b13
            refine pj_X_of (fun r h => pj_R_ifF rfl b13 h) ?_
            refine pj_X_of (fun r h => pj_R_to (G, 54, [(0, .ref 34), (1, .ref 4), (2, .int v2), (3, .int v3), (4, .int v4), (5, .int v5)], [.int v5, .ref 34], 0, 0) 54 3 (fun _ => rfl) h) ?_
            refine pj_X_ca (vs := [.ref 34, .int v5]) rfl (fun _ => rfl) ⟨Nat.le_of_ble_eq_true rfl, Nat.le_of_ble_eq_true rfl, pj_T_rcv hI rfl⟩ ⟨rfl, rfl⟩ (pj_Y_up (by decide) (ct_29 G hI v5)) ?_
            rintro _ _ ⟨y15, rfl, rfl, ry15⟩
            show pj_X _ _ G 57 [(0, .ref 34), (1, .ref 4), (2, .int v2), (3, .int v3), (4, .int v4), (5, .int v5)] [.int y15] _
            cases b16 : pj_c1 .eq y15 0 with
            | true =>
              have ub16 := pj_u0_eqT b16
              refine pj_X_of (fun r h => pj_R_ifT 69 rfl rfl b16 h) ?_
              refine pj_X_of (fun r h => pj_R_to (G, 72, [(5, .int (v5 + Int32.ofInt 1)), (0, .ref 34), (1, .ref 4), (2, .int v2), (3, .int v3), (4, .int v4)], [], 0, 0) 72 2 (fun _ => rfl) h) ?_
              obtain ⟨z17, hz17⟩ : ∃ z : Int32, z = v5 + Int32.ofInt 1 := ⟨_, rfl⟩
              rw [← hz17]
              have fz17_0 : z17.toInt = v5.toInt + (Int32.ofInt 1).toInt := by rw [hz17]; exact pj_addI (by have := pj_i32 v5; have := pj_i32 (Int32.ofInt 1); omega) (by have := pj_i32 v5; have := pj_i32 (Int32.ofInt 1); omega)
              refine pj_X_of (fun r h => pj_R_to (G, 14, [(5, .int z17), (0, .ref 34), (1, .ref 4), (2, .int v2), (3, .int v3), (4, .int v4)], [], 0, 0) 14 2 (fun _ => rfl) h) ?_
              exact pj_X_sub [(0, .ref 34), (1, .ref 4), (2, .int v2), (3, .int v3), (4, .int v4), (5, .int z17)] (show List.Nodup [0, 1, 2, 3, 4, 5] by decide) ⟨rfl, rfl, rfl, rfl, rfl, rfl, trivial⟩ (ih G hI hK v2 v3 v4 z17 (pj_i32 _) (pj_i32 _) (pj_i32 _) ⟨by omega, by omega⟩ (by omega))
            | false =>
              have ub16 := pj_u0_eqF b16
              refine pj_X_of (fun r h => pj_R_ifF rfl b16 h) ?_
              refine pj_X_of (fun r h => pj_R_to (G, 65, [(2, .int v5), (0, .ref 34), (1, .ref 4), (3, .int v3), (4, .int v4), (5, .int v5)], [.int v5], 0, 0) 65 4 (fun _ => rfl) h) ?_
              refine pj_X_ca (vs := [.int v5]) rfl (fun _ => rfl) ⟨Nat.le_of_ble_eq_true rfl, Nat.le_of_ble_eq_true rfl, rfl⟩ ⟨rfl, rfl⟩ (pj_Y_up (by decide) (ct_287 G hI v5)) ?_
              rintro _ _ ⟨y18, rfl, rfl, ry18⟩
              show pj_X _ _ G 68 [(2, .int v5), (0, .ref 34), (1, .ref 4), (3, .int v3), (4, .int v4), (5, .int v5)] [.int y18] _
              refine pj_X_of (fun r h => pj_R_to (G, 72, [(5, .int (v5 + Int32.ofInt 1)), (3, .int y18), (2, .int v5), (0, .ref 34), (1, .ref 4), (4, .int v4)], [], 0, 0) 72 3 (fun _ => rfl) h) ?_
              obtain ⟨z19, hz19⟩ : ∃ z : Int32, z = v5 + Int32.ofInt 1 := ⟨_, rfl⟩
              rw [← hz19]
              have fz19_0 : z19.toInt = v5.toInt + (Int32.ofInt 1).toInt := by rw [hz19]; exact pj_addI (by have := pj_i32 v5; have := pj_i32 (Int32.ofInt 1); omega) (by have := pj_i32 v5; have := pj_i32 (Int32.ofInt 1); omega)
              refine pj_X_of (fun r h => pj_R_to (G, 14, [(5, .int z19), (3, .int y18), (2, .int v5), (0, .ref 34), (1, .ref 4), (4, .int v4)], [], 0, 0) 14 2 (fun _ => rfl) h) ?_
              exact pj_X_sub [(0, .ref 34), (1, .ref 4), (2, .int v5), (3, .int y18), (4, .int v4), (5, .int z19)] (show List.Nodup [0, 1, 2, 3, 4, 5] by decide) ⟨rfl, rfl, rfl, rfl, rfl, rfl, trivial⟩ (ih G hI hK v5 y18 v4 z19 (pj_i32 _) (pj_i32 _) (pj_i32 _) ⟨by omega, by omega⟩ (by omega))
    · refine pj_X_of (fun r h => pj_T_gi hI rfl rfl h) ?_
      show pj_X _ _ G 27 [(0, .ref 34), (1, .ref 4), (2, .int v2), (3, .int v3), (4, .int v4), (5, .int v5)] [.int (pj_fi G 14 1), .int (Int32.ofInt 1), .int v5] _
      obtain ⟨y20, hy20⟩ : ∃ z : Int32, z = pj_fi G 14 1 := ⟨_, rfl⟩
      rw [← hy20]
      have ey20 : (pj_fi G 14 1).toInt = y20.toInt := by rw [hy20]
      have ry20 : (0 : Int) ≤ y20.toInt ∧ y20.toInt ≤ 10 := by rw [hy20]; exact hI.2.1 14 1 (0, 10) rfl
      refine pj_X_of (fun r h => pj_R_to (G, 28, [(0, .ref 34), (1, .ref 4), (2, .int v2), (3, .int v3), (4, .int v4), (5, .int v5)], [.int ((Int32.ofInt 1) <<< (y20 &&& 31)), .int v5], 0, 0) 28 2 (fun _ => rfl) h) ?_
      obtain ⟨z21, hz21⟩ : ∃ z : Int32, z = (Int32.ofInt 1) <<< (y20 &&& 31) := ⟨_, rfl⟩
      rw [← hz21]
      have fz21_0 : 1 ≤ z21.toInt ∧ z21.toInt ≤ 1024 := by rw [hz21]; exact pj_shlI10 (by omega) (by omega)
      cases b22 : pj_c1 .ge v5 z21 with
      | true =>
        have ub22 := pj_u_geT b22
        refine pj_X_of (fun r h => pj_R_icT 75 rfl rfl b22 h) ?_
        refine pj_X_of (fun r h => pj_R_to (G, 77, [(0, .ref 34), (1, .ref 4), (2, .int v2), (3, .int v3), (4, .int v4), (5, .int v5)], [.int (Int32.ofInt (-1)), .int v2], 0, 0) 77 3 (fun _ => rfl) h) ?_
        cases b23 : pj_c1 .ne v2 (Int32.ofInt (-1)) with
        | true =>
          have ub23 := pj_u_neT b23
          refine pj_X_of (fun r h => pj_R_icT 83 rfl rfl b23 h) ?_
          refine pj_X_of (fun r h => pj_R_to (G, 86, [(0, .ref 34), (1, .ref 4), (2, .int v2), (3, .int v3), (4, .int v4), (5, .int v5)], [.long v2.toInt64, .ref 4], 0, 0) 86 4 (fun _ => rfl) h) ?_
          have lc24 : (v2.toInt64).toInt = v2.toInt := Int32.toInt_toInt64 _
          refine pj_X_ca (vs := [.ref 4, .long v2.toInt64]) rfl (fun _ => rfl) ⟨Nat.le_of_ble_eq_true rfl, Nat.le_of_ble_eq_true rfl, pj_T_rcv hI rfl⟩ ⟨rfl, rfl⟩ (pj_Y_up (by decide) (ct_55x G hI v2.toInt64)) ?_
          rintro _ G26 ⟨rfl, iG26, jG26, fy25⟩
          have kG26 : pj_kpt kc_30 G0 G26 := pj_kpt_t hK (pj_kpt_s jG26 rfl)
          show pj_X _ _ G26 89 [(0, .ref 34), (1, .ref 4), (2, .int v2), (3, .int v3), (4, .int v4), (5, .int v5)] [] _
          refine pj_X_of (fun r h => pj_R_to (G26, 90, [(0, .ref 34), (1, .ref 4), (2, .int v2), (3, .int v3), (4, .int v4), (5, .int v5)], [.int v3], 0, 0) 90 2 (fun _ => rfl) h) ?_
          exact pj_X_rt rfl rfl ⟨_, rfl, iG26, kG26, pj_i32 _⟩
        | false =>
          have ub23 := pj_u_neF b23
          refine pj_X_of (fun r h => pj_R_icF rfl b23 h) ?_
          refine pj_X_of (fun r h => pj_R_to (G, 82, [(0, .ref 34), (1, .ref 4), (2, .int v2), (3, .int v3), (4, .int v4), (5, .int v5)], [.int ((Int8.ofInt (-2)).toInt32)], 0, 0) 82 2 (fun _ => rfl) h) ?_
          exact pj_X_rt rfl rfl ⟨_, rfl, hI, hK, pj_i32 _⟩
      | false =>
        have ub22 := pj_u_geF b22
        refine pj_X_of (fun r h => pj_R_icF rfl b22 h) ?_
        refine pj_X_of (fun r h => pj_R_to (G, 33, [(0, .ref 34), (1, .ref 4), (2, .int v2), (3, .int v3), (4, .int v4), (5, .int v5)], [.int v5], 0, 0) 33 2 (fun _ => rfl) h) ?_
        refine pj_X_ca (vs := [.int v5]) rfl (fun _ => rfl) ⟨Nat.le_of_ble_eq_true rfl, Nat.le_of_ble_eq_true rfl, rfl⟩ ⟨rfl, rfl⟩ (pj_Y_up (by decide) (ct_287 G hI v5)) ?_
        rintro _ _ ⟨y27, rfl, rfl, ry27⟩
        show pj_X _ _ G 36 [(0, .ref 34), (1, .ref 4), (2, .int v2), (3, .int v3), (4, .int v4), (5, .int v5)] [.int y27] _
        refine pj_X_of (fun r h => pj_R_to (G, 37, [(0, .ref 34), (1, .ref 4), (2, .int v2), (3, .int v3), (4, .int v4), (5, .int v5)], [.int v3, .int y27], 0, 0) 37 2 (fun _ => rfl) h) ?_
        cases b28 : pj_c1 .ge y27 v3 with
        | true =>
          have ub28 := pj_u_geT b28
          refine pj_X_of (fun r h => pj_R_icT 69 rfl rfl b28 h) ?_
          refine pj_X_of (fun r h => pj_R_to (G, 72, [(5, .int (v5 + Int32.ofInt 1)), (0, .ref 34), (1, .ref 4), (2, .int v2), (3, .int v3), (4, .int v4)], [], 0, 0) 72 2 (fun _ => rfl) h) ?_
          obtain ⟨z29, hz29⟩ : ∃ z : Int32, z = v5 + Int32.ofInt 1 := ⟨_, rfl⟩
          rw [← hz29]
          have fz29_0 : z29.toInt = v5.toInt + (Int32.ofInt 1).toInt := by rw [hz29]; exact pj_addI (by have := pj_i32 v5; have := pj_i32 (Int32.ofInt 1); omega) (by have := pj_i32 v5; have := pj_i32 (Int32.ofInt 1); omega)
          refine pj_X_of (fun r h => pj_R_to (G, 14, [(5, .int z29), (0, .ref 34), (1, .ref 4), (2, .int v2), (3, .int v3), (4, .int v4)], [], 0, 0) 14 2 (fun _ => rfl) h) ?_
          exact pj_X_sub [(0, .ref 34), (1, .ref 4), (2, .int v2), (3, .int v3), (4, .int v4), (5, .int z29)] (show List.Nodup [0, 1, 2, 3, 4, 5] by decide) ⟨rfl, rfl, rfl, rfl, rfl, rfl, trivial⟩ (ih G hI hK v2 v3 v4 z29 (pj_i32 _) (pj_i32 _) (pj_i32 _) ⟨by omega, by omega⟩ (by omega))
        | false =>
          have ub28 := pj_u_geF b28
          refine pj_X_of (fun r h => pj_R_icF rfl b28 h) ?_
          refine pj_X_of (fun r h => pj_R_to (G, 45, [(0, .ref 34), (1, .ref 4), (2, .int v2), (3, .int v3), (4, .int v4), (5, .int v5)], [.int v4, .int v5, .ref 34], 0, 0) 45 4 (fun _ => rfl) h) ?_
          refine pj_X_ca (vs := [.ref 34, .int v5, .int v4]) rfl (fun _ => rfl) ⟨Nat.le_of_ble_eq_true rfl, Nat.le_of_ble_eq_true rfl, pj_T_rcv hI rfl⟩ ⟨rfl, rfl⟩ (pj_Y_up (by decide) (ct_24 G hI v5 v4)) ?_
          rintro _ _ ⟨y30, rfl, rfl, ry30⟩
          show pj_X _ _ G 48 [(0, .ref 34), (1, .ref 4), (2, .int v2), (3, .int v3), (4, .int v4), (5, .int v5)] [.int y30] _
          cases b31 : pj_c1 .eq y30 0 with
          | true =>
            have ub31 := pj_u0_eqT b31
            refine pj_X_of (fun r h => pj_R_ifT 69 rfl rfl b31 h) ?_
            refine pj_X_of (fun r h => pj_R_to (G, 72, [(5, .int (v5 + Int32.ofInt 1)), (0, .ref 34), (1, .ref 4), (2, .int v2), (3, .int v3), (4, .int v4)], [], 0, 0) 72 2 (fun _ => rfl) h) ?_
            obtain ⟨z32, hz32⟩ : ∃ z : Int32, z = v5 + Int32.ofInt 1 := ⟨_, rfl⟩
            rw [← hz32]
            have fz32_0 : z32.toInt = v5.toInt + (Int32.ofInt 1).toInt := by rw [hz32]; exact pj_addI (by have := pj_i32 v5; have := pj_i32 (Int32.ofInt 1); omega) (by have := pj_i32 v5; have := pj_i32 (Int32.ofInt 1); omega)
            refine pj_X_of (fun r h => pj_R_to (G, 14, [(5, .int z32), (0, .ref 34), (1, .ref 4), (2, .int v2), (3, .int v3), (4, .int v4)], [], 0, 0) 14 2 (fun _ => rfl) h) ?_
            exact pj_X_sub [(0, .ref 34), (1, .ref 4), (2, .int v2), (3, .int v3), (4, .int v4), (5, .int z32)] (show List.Nodup [0, 1, 2, 3, 4, 5] by decide) ⟨rfl, rfl, rfl, rfl, rfl, rfl, trivial⟩ (ih G hI hK v2 v3 v4 z32 (pj_i32 _) (pj_i32 _) (pj_i32 _) ⟨by omega, by omega⟩ (by omega))
          | false =>
            have ub31 := pj_u0_eqF b31
            refine pj_X_of (fun r h => pj_R_ifF rfl b31 h) ?_
            refine pj_X_of (fun r h => pj_R_to (G, 54, [(0, .ref 34), (1, .ref 4), (2, .int v2), (3, .int v3), (4, .int v4), (5, .int v5)], [.int v5, .ref 34], 0, 0) 54 3 (fun _ => rfl) h) ?_
            refine pj_X_ca (vs := [.ref 34, .int v5]) rfl (fun _ => rfl) ⟨Nat.le_of_ble_eq_true rfl, Nat.le_of_ble_eq_true rfl, pj_T_rcv hI rfl⟩ ⟨rfl, rfl⟩ (pj_Y_up (by decide) (ct_29 G hI v5)) ?_
            rintro _ _ ⟨y33, rfl, rfl, ry33⟩
            show pj_X _ _ G 57 [(0, .ref 34), (1, .ref 4), (2, .int v2), (3, .int v3), (4, .int v4), (5, .int v5)] [.int y33] _
            cases b34 : pj_c1 .eq y33 0 with
            | true =>
              have ub34 := pj_u0_eqT b34
              refine pj_X_of (fun r h => pj_R_ifT 69 rfl rfl b34 h) ?_
              refine pj_X_of (fun r h => pj_R_to (G, 72, [(5, .int (v5 + Int32.ofInt 1)), (0, .ref 34), (1, .ref 4), (2, .int v2), (3, .int v3), (4, .int v4)], [], 0, 0) 72 2 (fun _ => rfl) h) ?_
              obtain ⟨z35, hz35⟩ : ∃ z : Int32, z = v5 + Int32.ofInt 1 := ⟨_, rfl⟩
              rw [← hz35]
              have fz35_0 : z35.toInt = v5.toInt + (Int32.ofInt 1).toInt := by rw [hz35]; exact pj_addI (by have := pj_i32 v5; have := pj_i32 (Int32.ofInt 1); omega) (by have := pj_i32 v5; have := pj_i32 (Int32.ofInt 1); omega)
              refine pj_X_of (fun r h => pj_R_to (G, 14, [(5, .int z35), (0, .ref 34), (1, .ref 4), (2, .int v2), (3, .int v3), (4, .int v4)], [], 0, 0) 14 2 (fun _ => rfl) h) ?_
              exact pj_X_sub [(0, .ref 34), (1, .ref 4), (2, .int v2), (3, .int v3), (4, .int v4), (5, .int z35)] (show List.Nodup [0, 1, 2, 3, 4, 5] by decide) ⟨rfl, rfl, rfl, rfl, rfl, rfl, trivial⟩ (ih G hI hK v2 v3 v4 z35 (pj_i32 _) (pj_i32 _) (pj_i32 _) ⟨by omega, by omega⟩ (by omega))
            | false =>
              have ub34 := pj_u0_eqF b34
              refine pj_X_of (fun r h => pj_R_ifF rfl b34 h) ?_
              refine pj_X_of (fun r h => pj_R_to (G, 65, [(2, .int v5), (0, .ref 34), (1, .ref 4), (3, .int v3), (4, .int v4), (5, .int v5)], [.int v5], 0, 0) 65 4 (fun _ => rfl) h) ?_
              refine pj_X_ca (vs := [.int v5]) rfl (fun _ => rfl) ⟨Nat.le_of_ble_eq_true rfl, Nat.le_of_ble_eq_true rfl, rfl⟩ ⟨rfl, rfl⟩ (pj_Y_up (by decide) (ct_287 G hI v5)) ?_
              rintro _ _ ⟨y36, rfl, rfl, ry36⟩
              show pj_X _ _ G 68 [(2, .int v5), (0, .ref 34), (1, .ref 4), (3, .int v3), (4, .int v4), (5, .int v5)] [.int y36] _
              refine pj_X_of (fun r h => pj_R_to (G, 72, [(5, .int (v5 + Int32.ofInt 1)), (3, .int y36), (2, .int v5), (0, .ref 34), (1, .ref 4), (4, .int v4)], [], 0, 0) 72 3 (fun _ => rfl) h) ?_
              obtain ⟨z37, hz37⟩ : ∃ z : Int32, z = v5 + Int32.ofInt 1 := ⟨_, rfl⟩
              rw [← hz37]
              have fz37_0 : z37.toInt = v5.toInt + (Int32.ofInt 1).toInt := by rw [hz37]; exact pj_addI (by have := pj_i32 v5; have := pj_i32 (Int32.ofInt 1); omega) (by have := pj_i32 v5; have := pj_i32 (Int32.ofInt 1); omega)
              refine pj_X_of (fun r h => pj_R_to (G, 14, [(5, .int z37), (3, .int y36), (2, .int v5), (0, .ref 34), (1, .ref 4), (4, .int v4)], [], 0, 0) 14 2 (fun _ => rfl) h) ?_
              exact pj_X_sub [(0, .ref 34), (1, .ref 4), (2, .int v5), (3, .int y36), (4, .int v4), (5, .int z37)] (show List.Nodup [0, 1, 2, 3, 4, 5] by decide) ⟨rfl, rfl, rfl, rfl, rfl, rfl, trivial⟩ (ih G hI hK v5 y36 v4 z37 (pj_i32 _) (pj_i32 _) (pj_i32 _) ⟨by omega, by omega⟩ (by omega))
theorem ct_30 (G0 : pj_G) (hI : pj_Inv G0) : pj_Y 5 30 [.ref 34, .ref 4] G0 (fun v G' => ∃ y : Int32, v = some (.int y) ∧ pj_Inv G' ∧ pj_kpt kc_30 G0 G' ∧ ((-2147483648 : Int) ≤ y.toInt ∧ y.toInt ≤ 2147483647)) := by
  have c0_ : ((Int8.ofInt (-2)).toInt32).toInt = -2 := by decide
  have c1_ : ((Int8.ofInt 11).toInt32).toInt = 11 := by decide
  have c2_ : (Int32.ofInt (-1)).toInt = -1 := by decide
  have c3_ : (Int32.ofInt 0).toInt = 0 := by decide
  have c4_ : (Int32.ofInt 1).toInt = 1 := by decide
  refine pj_Y_X (M := pj_m30) rfl rfl (Nat.le_of_ble_eq_true rfl) ?_
  have hK : pj_kpt kc_30 G0 G0 := pj_kpt_r _ _
  show pj_X _ _ G0 0 [(0, .ref 34), (1, .ref 4)] [] _
  refine pj_X_of (fun r h => pj_R_to (G0, 6, [(3, .int ((Int8.ofInt 11).toInt32)), (2, .int (Int32.ofInt (-1))), (0, .ref 34), (1, .ref 4)], [.ref 34], 0, 0) 6 6 (fun _ => rfl) h) ?_
  refine pj_X_ca (vs := [.ref 34]) rfl (fun _ => rfl) ⟨Nat.le_of_ble_eq_true rfl, Nat.le_of_ble_eq_true rfl, pj_T_rcv hI rfl⟩ ⟨rfl, rfl⟩ (pj_Y_up (by decide) (ct_23 G0 hI)) ?_
  rintro _ G39 ⟨y38, rfl, iG39, jG39, ry38⟩
  have kG39 : pj_kpt kc_30 G0 G39 := pj_kpt_t hK (pj_kpt_s jG39 rfl)
  show pj_X _ _ G39 9 [(3, .int ((Int8.ofInt 11).toInt32)), (2, .int (Int32.ofInt (-1))), (0, .ref 34), (1, .ref 4)] [.int y38] _
  refine pj_X_of (fun r h => pj_R_to (G39, 14, [(5, .int (Int32.ofInt 0)), (4, .int y38), (3, .int ((Int8.ofInt 11).toInt32)), (2, .int (Int32.ofInt (-1))), (0, .ref 34), (1, .ref 4)], [], 0, 0) 14 4 (fun _ => rfl) h) ?_
  exact pj_X_sub [(0, .ref 34), (1, .ref 4), (2, .int (Int32.ofInt (-1))), (3, .int ((Int8.ofInt 11).toInt32)), (4, .int y38), (5, .int (Int32.ofInt 0))] (show List.Nodup [0, 1, 2, 3, 4, 5] by decide) ⟨rfl, rfl, rfl, rfl, rfl, rfl, trivial⟩ ((lp_ct_30 G0 hI   1025) G39 iG39 kG39 (Int32.ofInt (-1)) ((Int8.ofInt 11).toInt32) y38 (Int32.ofInt 0) (pj_i32 _) (pj_i32 _) (pj_i32 _) ⟨by omega, by omega⟩ (by omega))
def kc_31 : pj_KT := ([(4, 1)], [4, 5, 36, 37], [36, 37])
theorem lp_ct_31 (G0 : pj_G) (hI0 : pj_Inv G0) : ∀ mn : Nat, (∀ (G : pj_G) (hI : pj_Inv G) (hK : pj_kpt kc_31 G0 G) (v2 : Int32) (v3 : Int32) (v4 : Int32) (v5 : Int32), ((-2147483648 : Int) ≤ v2.toInt ∧ v2.toInt ≤ 2147483647) → ((-2147483648 : Int) ≤ v3.toInt ∧ v3.toInt ≤ 2147483647) → ((-2147483648 : Int) ≤ v4.toInt ∧ v4.toInt ≤ 2147483647) → ((0 : Int) ≤ v5.toInt ∧ v5.toInt ≤ 1024) → 1024 - v5.toInt < (mn : Int) → pj_X 4 pj_m31 G 13 [(0, .ref 34), (1, .ref 4), (2, .int v2), (3, .int v3), (4, .int v4), (5, .int v5)] [] (fun v G' => ∃ y : Int32, v = some (.int y) ∧ pj_Inv G' ∧ pj_kpt kc_31 G0 G' ∧ ((-2147483648 : Int) ≤ y.toInt ∧ y.toInt ≤ 2147483647))) := by
  have c0_ : (Int32.ofInt 0).toInt = 0 := by decide
  have c1_ : (Int32.ofInt 1).toInt = 1 := by decide
  intro mn
  induction mn with
  | zero =>
    intro G hI hK v2 v3 v4 v5 rv2 rv3 rv4 rv5 hm
    exfalso
    omega
  | succ mn ih =>
    intro G hI hK v2 v3 v4 v5 rv2 rv3 rv4 rv5 hm
    refine pj_X_of (fun r h => pj_R_to (G, 17, [(0, .ref 34), (1, .ref 4), (2, .int v2), (3, .int v3), (4, .int v4), (5, .int v5)], [.ref 34, .int (Int32.ofInt 1), .int v5], 0, 0) 17 4 (fun _ => rfl) h) ?_
    refine pj_X_of (fun r h => pj_T_gr hI rfl rfl rfl h) ?_
    refine pj_X_gm hI rfl rfl (fun q1 => ?_) (fun q1 => ?_)
    · refine pj_X_of (fun r h => pj_T_gi hI rfl rfl h) ?_
      show pj_X _ _ G 26 [(0, .ref 34), (1, .ref 4), (2, .int v2), (3, .int v3), (4, .int v4), (5, .int v5)] [.int (pj_fi G 7 1), .int (Int32.ofInt 1), .int v5] _
      obtain ⟨y2, hy2⟩ : ∃ z : Int32, z = pj_fi G 7 1 := ⟨_, rfl⟩
      rw [← hy2]
      have ey2 : (pj_fi G 7 1).toInt = y2.toInt := by rw [hy2]
      have ry2 : (0 : Int) ≤ y2.toInt ∧ y2.toInt ≤ 10 := by rw [hy2]; exact hI.2.1 7 1 (0, 10) rfl
      refine pj_X_of (fun r h => pj_R_to (G, 27, [(0, .ref 34), (1, .ref 4), (2, .int v2), (3, .int v3), (4, .int v4), (5, .int v5)], [.int ((Int32.ofInt 1) <<< (y2 &&& 31)), .int v5], 0, 0) 27 2 (fun _ => rfl) h) ?_
      obtain ⟨z3, hz3⟩ : ∃ z : Int32, z = (Int32.ofInt 1) <<< (y2 &&& 31) := ⟨_, rfl⟩
      rw [← hz3]
      have fz3_0 : 1 ≤ z3.toInt ∧ z3.toInt ≤ 1024 := by rw [hz3]; exact pj_shlI10 (by omega) (by omega)
      cases b4 : pj_c1 .ge v5 z3 with
      | true =>
        have ub4 := pj_u_geT b4
        refine pj_X_of (fun r h => pj_R_icT 91 rfl rfl b4 h) ?_
        refine pj_X_of (fun r h => pj_R_to (G, 94, [(0, .ref 34), (1, .ref 4), (2, .int v2), (3, .int v3), (4, .int v4), (5, .int v5)], [.long v2.toInt64, .ref 4], 0, 0) 94 4 (fun _ => rfl) h) ?_
        have lc5 : (v2.toInt64).toInt = v2.toInt := Int32.toInt_toInt64 _
        refine pj_X_ca (vs := [.ref 4, .long v2.toInt64]) rfl (fun _ => rfl) ⟨Nat.le_of_ble_eq_true rfl, Nat.le_of_ble_eq_true rfl, pj_T_rcv hI rfl⟩ ⟨rfl, rfl⟩ (pj_Y_up (by decide) (ct_55x G hI v2.toInt64)) ?_
        rintro _ G7 ⟨rfl, iG7, jG7, fy6⟩
        have kG7 : pj_kpt kc_31 G0 G7 := pj_kpt_t hK (pj_kpt_s jG7 rfl)
        show pj_X _ _ G7 97 [(0, .ref 34), (1, .ref 4), (2, .int v2), (3, .int v3), (4, .int v4), (5, .int v5)] [] _
        refine pj_X_of (fun r h => pj_R_to (G7, 98, [(0, .ref 34), (1, .ref 4), (2, .int v2), (3, .int v3), (4, .int v4), (5, .int v5)], [.int v3], 0, 0) 98 2 (fun _ => rfl) h) ?_
        exact pj_X_rt rfl rfl ⟨_, rfl, iG7, kG7, pj_i32 _⟩
      | false =>
        have ub4 := pj_u_geF b4
        refine pj_X_of (fun r h => pj_R_icF rfl b4 h) ?_
        refine pj_X_of (fun r h => pj_R_to (G, 35, [(0, .ref 34), (1, .ref 4), (2, .int v2), (3, .int v3), (4, .int v4), (5, .int v5)], [.int v4, .int v5, .ref 34], 0, 0) 35 4 (fun _ => rfl) h) ?_
        refine pj_X_ca (vs := [.ref 34, .int v5, .int v4]) rfl (fun _ => rfl) ⟨Nat.le_of_ble_eq_true rfl, Nat.le_of_ble_eq_true rfl, pj_T_rcv hI rfl⟩ ⟨rfl, rfl⟩ (pj_Y_up (by decide) (ct_24 G hI v5 v4)) ?_
        rintro _ _ ⟨y8, rfl, rfl, ry8⟩
        show pj_X _ _ G 38 [(0, .ref 34), (1, .ref 4), (2, .int v2), (3, .int v3), (4, .int v4), (5, .int v5)] [.int y8] _
        cases b9 : pj_c1 .eq y8 0 with
        | true =>
          have ub9 := pj_u0_eqT b9
          refine pj_X_of (fun r h => pj_R_ifT 85 rfl rfl b9 h) ?_
          refine pj_X_of (fun r h => pj_R_to (G, 88, [(5, .int (v5 + Int32.ofInt 1)), (0, .ref 34), (1, .ref 4), (2, .int v2), (3, .int v3), (4, .int v4)], [], 0, 0) 88 2 (fun _ => rfl) h) ?_
          obtain ⟨z10, hz10⟩ : ∃ z : Int32, z = v5 + Int32.ofInt 1 := ⟨_, rfl⟩
          rw [← hz10]
          have fz10_0 : z10.toInt = v5.toInt + (Int32.ofInt 1).toInt := by rw [hz10]; exact pj_addI (by have := pj_i32 v5; have := pj_i32 (Int32.ofInt 1); omega) (by have := pj_i32 v5; have := pj_i32 (Int32.ofInt 1); omega)
          refine pj_X_of (fun r h => pj_R_to (G, 13, [(5, .int z10), (0, .ref 34), (1, .ref 4), (2, .int v2), (3, .int v3), (4, .int v4)], [], 0, 0) 13 2 (fun _ => rfl) h) ?_
          exact pj_X_sub [(0, .ref 34), (1, .ref 4), (2, .int v2), (3, .int v3), (4, .int v4), (5, .int z10)] (show List.Nodup [0, 1, 2, 3, 4, 5] by decide) ⟨rfl, rfl, rfl, rfl, rfl, rfl, trivial⟩ (ih G hI hK v2 v3 v4 z10 (pj_i32 _) (pj_i32 _) (pj_i32 _) ⟨by omega, by omega⟩ (by omega))
        | false =>
          have ub9 := pj_u0_eqF b9
          refine pj_X_of (fun r h => pj_R_ifF rfl b9 h) ?_
          refine pj_X_of (fun r h => pj_R_to (G, 42, [(0, .ref 34), (1, .ref 4), (2, .int v2), (3, .int v3), (4, .int v4), (5, .int v5)], [.ref 34], 0, 0) 42 2 (fun _ => rfl) h) ?_
          refine pj_X_of (fun r h => pj_T_gr hI rfl rfl rfl h) ?_
          refine pj_X_gk hI rfl rfl q1 ?_
          refine pj_X_of (fun r h => pj_R_to (G, 50, [(0, .ref 34), (1, .ref 4), (2, .int v2), (3, .int v3), (4, .int v4), (5, .int v5)], [.int v5, .ref 7], 0, 0) 50 2 (fun _ => rfl) h) ?_
          refine pj_X_ca (vs := [.ref 7, .int v5]) rfl (fun _ => rfl) ⟨Nat.le_of_ble_eq_true rfl, Nat.le_of_ble_eq_true rfl, pj_T_rcv hI rfl⟩ ⟨rfl, rfl⟩ (pj_Y_up (by decide) (ct_49_7 G hI v5)) ?_
          rintro _ _ ⟨y11, rfl, rfl, ry11⟩
          show pj_X _ _ G 53 [(0, .ref 34), (1, .ref 4), (2, .int v2), (3, .int v3), (4, .int v4), (5, .int v5)] [.int y11] _
          refine pj_X_of (fun r h => pj_R_to (G, 58, [(6, .int y11), (0, .ref 34), (1, .ref 4), (2, .int v2), (3, .int v3), (4, .int v4), (5, .int v5)], [.int v3, .int y11], 0, 0) 58 4 (fun _ => rfl) h) ?_
          cases b12 : pj_c1 .gt y11 v3 with
          | true =>
            have ub12 := pj_u_gtT b12
            refine pj_X_of (fun r h => pj_R_icT 79 rfl rfl b12 h) ?_
            refine pj_X_of (fun r h => pj_R_to (G, 88, [(5, .int (v5 + Int32.ofInt 1)), (2, .int v5), (3, .int y11), (6, .int y11), (0, .ref 34), (1, .ref 4), (4, .int v4)], [], 0, 0) 88 6 (fun _ => rfl) h) ?_
            obtain ⟨z13, hz13⟩ : ∃ z : Int32, z = v5 + Int32.ofInt 1 := ⟨_, rfl⟩
            rw [← hz13]
            have fz13_0 : z13.toInt = v5.toInt + (Int32.ofInt 1).toInt := by rw [hz13]; exact pj_addI (by have := pj_i32 v5; have := pj_i32 (Int32.ofInt 1); omega) (by have := pj_i32 v5; have := pj_i32 (Int32.ofInt 1); omega)
            refine pj_X_of (fun r h => pj_R_to (G, 13, [(5, .int z13), (2, .int v5), (3, .int y11), (6, .int y11), (0, .ref 34), (1, .ref 4), (4, .int v4)], [], 0, 0) 13 2 (fun _ => rfl) h) ?_
            exact pj_X_sub [(0, .ref 34), (1, .ref 4), (2, .int v5), (3, .int y11), (4, .int v4), (5, .int z13)] (show List.Nodup [0, 1, 2, 3, 4, 5] by decide) ⟨rfl, rfl, rfl, rfl, rfl, rfl, trivial⟩ (ih G hI hK v5 y11 v4 z13 (pj_i32 _) (pj_i32 _) (pj_i32 _) ⟨by omega, by omega⟩ (by omega))
          | false =>
            have ub12 := pj_u_gtF b12
            refine pj_X_of (fun r h => pj_R_icF rfl b12 h) ?_
            refine pj_X_of (fun r h => pj_R_to (G, 64, [(6, .int y11), (0, .ref 34), (1, .ref 4), (2, .int v2), (3, .int v3), (4, .int v4), (5, .int v5)], [.int v3, .int y11], 0, 0) 64 3 (fun _ => rfl) h) ?_
            cases b14 : pj_c1 .ne y11 v3 with
            | true =>
              have ub14 := pj_u_neT b14
              refine pj_X_of (fun r h => pj_R_icT 85 rfl rfl b14 h) ?_
              refine pj_X_of (fun r h => pj_R_to (G, 88, [(5, .int (v5 + Int32.ofInt 1)), (6, .int y11), (0, .ref 34), (1, .ref 4), (2, .int v2), (3, .int v3), (4, .int v4)], [], 0, 0) 88 2 (fun _ => rfl) h) ?_
              obtain ⟨z15, hz15⟩ : ∃ z : Int32, z = v5 + Int32.ofInt 1 := ⟨_, rfl⟩
              rw [← hz15]
              have fz15_0 : z15.toInt = v5.toInt + (Int32.ofInt 1).toInt := by rw [hz15]; exact pj_addI (by have := pj_i32 v5; have := pj_i32 (Int32.ofInt 1); omega) (by have := pj_i32 v5; have := pj_i32 (Int32.ofInt 1); omega)
              refine pj_X_of (fun r h => pj_R_to (G, 13, [(5, .int z15), (6, .int y11), (0, .ref 34), (1, .ref 4), (2, .int v2), (3, .int v3), (4, .int v4)], [], 0, 0) 13 2 (fun _ => rfl) h) ?_
              exact pj_X_sub [(0, .ref 34), (1, .ref 4), (2, .int v2), (3, .int v3), (4, .int v4), (5, .int z15)] (show List.Nodup [0, 1, 2, 3, 4, 5] by decide) ⟨rfl, rfl, rfl, rfl, rfl, rfl, trivial⟩ (ih G hI hK v2 v3 v4 z15 (pj_i32 _) (pj_i32 _) (pj_i32 _) ⟨by omega, by omega⟩ (by omega))
            | false =>
              have ub14 := pj_u_neF b14
              refine pj_X_of (fun r h => pj_R_icF rfl b14 h) ?_
              refine pj_X_of (fun r h => pj_R_to (G, 69, [(6, .int y11), (0, .ref 34), (1, .ref 4), (2, .int v2), (3, .int v3), (4, .int v4), (5, .int v5)], [.int v5], 0, 0) 69 2 (fun _ => rfl) h) ?_
              refine pj_X_ca (vs := [.int v5]) rfl (fun _ => rfl) ⟨Nat.le_of_ble_eq_true rfl, Nat.le_of_ble_eq_true rfl, rfl⟩ ⟨rfl, rfl⟩ (pj_Y_up (by decide) (ct_287 G hI v5)) ?_
              rintro _ _ ⟨y16, rfl, rfl, ry16⟩
              show pj_X _ _ G 72 [(6, .int y11), (0, .ref 34), (1, .ref 4), (2, .int v2), (3, .int v3), (4, .int v4), (5, .int v5)] [.int y16] _
              refine pj_X_of (fun r h => pj_R_to (G, 73, [(6, .int y11), (0, .ref 34), (1, .ref 4), (2, .int v2), (3, .int v3), (4, .int v4), (5, .int v5)], [.int v2, .int y16], 0, 0) 73 2 (fun _ => rfl) h) ?_
              refine pj_X_ca (vs := [.int v2]) rfl (fun _ => rfl) ⟨Nat.le_of_ble_eq_true rfl, Nat.le_of_ble_eq_true rfl, rfl⟩ ⟨rfl, rfl⟩ (pj_Y_up (by decide) (ct_287 G hI v2)) ?_
              rintro _ _ ⟨y17, rfl, rfl, ry17⟩
              show pj_X _ _ G 76 [(6, .int y11), (0, .ref 34), (1, .ref 4), (2, .int v2), (3, .int v3), (4, .int v4), (5, .int v5)] [.int y17, .int y16] _
              cases b18 : pj_c1 .ge y16 y17 with
              | true =>
                have ub18 := pj_u_geT b18
                refine pj_X_of (fun r h => pj_R_icT 85 rfl rfl b18 h) ?_
                refine pj_X_of (fun r h => pj_R_to (G, 88, [(5, .int (v5 + Int32.ofInt 1)), (6, .int y11), (0, .ref 34), (1, .ref 4), (2, .int v2), (3, .int v3), (4, .int v4)], [], 0, 0) 88 2 (fun _ => rfl) h) ?_
                obtain ⟨z19, hz19⟩ : ∃ z : Int32, z = v5 + Int32.ofInt 1 := ⟨_, rfl⟩
                rw [← hz19]
                have fz19_0 : z19.toInt = v5.toInt + (Int32.ofInt 1).toInt := by rw [hz19]; exact pj_addI (by have := pj_i32 v5; have := pj_i32 (Int32.ofInt 1); omega) (by have := pj_i32 v5; have := pj_i32 (Int32.ofInt 1); omega)
                refine pj_X_of (fun r h => pj_R_to (G, 13, [(5, .int z19), (6, .int y11), (0, .ref 34), (1, .ref 4), (2, .int v2), (3, .int v3), (4, .int v4)], [], 0, 0) 13 2 (fun _ => rfl) h) ?_
                exact pj_X_sub [(0, .ref 34), (1, .ref 4), (2, .int v2), (3, .int v3), (4, .int v4), (5, .int z19)] (show List.Nodup [0, 1, 2, 3, 4, 5] by decide) ⟨rfl, rfl, rfl, rfl, rfl, rfl, trivial⟩ (ih G hI hK v2 v3 v4 z19 (pj_i32 _) (pj_i32 _) (pj_i32 _) ⟨by omega, by omega⟩ (by omega))
              | false =>
                have ub18 := pj_u_geF b18
                refine pj_X_of (fun r h => pj_R_icF rfl b18 h) ?_
                refine pj_X_of (fun r h => pj_R_to (G, 88, [(5, .int (v5 + Int32.ofInt 1)), (2, .int v5), (3, .int y11), (6, .int y11), (0, .ref 34), (1, .ref 4), (4, .int v4)], [], 0, 0) 88 6 (fun _ => rfl) h) ?_
                obtain ⟨z20, hz20⟩ : ∃ z : Int32, z = v5 + Int32.ofInt 1 := ⟨_, rfl⟩
                rw [← hz20]
                have fz20_0 : z20.toInt = v5.toInt + (Int32.ofInt 1).toInt := by rw [hz20]; exact pj_addI (by have := pj_i32 v5; have := pj_i32 (Int32.ofInt 1); omega) (by have := pj_i32 v5; have := pj_i32 (Int32.ofInt 1); omega)
                refine pj_X_of (fun r h => pj_R_to (G, 13, [(5, .int z20), (2, .int v5), (3, .int y11), (6, .int y11), (0, .ref 34), (1, .ref 4), (4, .int v4)], [], 0, 0) 13 2 (fun _ => rfl) h) ?_
                exact pj_X_sub [(0, .ref 34), (1, .ref 4), (2, .int v5), (3, .int y11), (4, .int v4), (5, .int z20)] (show List.Nodup [0, 1, 2, 3, 4, 5] by decide) ⟨rfl, rfl, rfl, rfl, rfl, rfl, trivial⟩ (ih G hI hK v5 y11 v4 z20 (pj_i32 _) (pj_i32 _) (pj_i32 _) ⟨by omega, by omega⟩ (by omega))
    · refine pj_X_of (fun r h => pj_T_gi hI rfl rfl h) ?_
      show pj_X _ _ G 26 [(0, .ref 34), (1, .ref 4), (2, .int v2), (3, .int v3), (4, .int v4), (5, .int v5)] [.int (pj_fi G 14 1), .int (Int32.ofInt 1), .int v5] _
      obtain ⟨y21, hy21⟩ : ∃ z : Int32, z = pj_fi G 14 1 := ⟨_, rfl⟩
      rw [← hy21]
      have ey21 : (pj_fi G 14 1).toInt = y21.toInt := by rw [hy21]
      have ry21 : (0 : Int) ≤ y21.toInt ∧ y21.toInt ≤ 10 := by rw [hy21]; exact hI.2.1 14 1 (0, 10) rfl
      refine pj_X_of (fun r h => pj_R_to (G, 27, [(0, .ref 34), (1, .ref 4), (2, .int v2), (3, .int v3), (4, .int v4), (5, .int v5)], [.int ((Int32.ofInt 1) <<< (y21 &&& 31)), .int v5], 0, 0) 27 2 (fun _ => rfl) h) ?_
      obtain ⟨z22, hz22⟩ : ∃ z : Int32, z = (Int32.ofInt 1) <<< (y21 &&& 31) := ⟨_, rfl⟩
      rw [← hz22]
      have fz22_0 : 1 ≤ z22.toInt ∧ z22.toInt ≤ 1024 := by rw [hz22]; exact pj_shlI10 (by omega) (by omega)
      cases b23 : pj_c1 .ge v5 z22 with
      | true =>
        have ub23 := pj_u_geT b23
        refine pj_X_of (fun r h => pj_R_icT 91 rfl rfl b23 h) ?_
        refine pj_X_of (fun r h => pj_R_to (G, 94, [(0, .ref 34), (1, .ref 4), (2, .int v2), (3, .int v3), (4, .int v4), (5, .int v5)], [.long v2.toInt64, .ref 4], 0, 0) 94 4 (fun _ => rfl) h) ?_
        have lc24 : (v2.toInt64).toInt = v2.toInt := Int32.toInt_toInt64 _
        refine pj_X_ca (vs := [.ref 4, .long v2.toInt64]) rfl (fun _ => rfl) ⟨Nat.le_of_ble_eq_true rfl, Nat.le_of_ble_eq_true rfl, pj_T_rcv hI rfl⟩ ⟨rfl, rfl⟩ (pj_Y_up (by decide) (ct_55x G hI v2.toInt64)) ?_
        rintro _ G26 ⟨rfl, iG26, jG26, fy25⟩
        have kG26 : pj_kpt kc_31 G0 G26 := pj_kpt_t hK (pj_kpt_s jG26 rfl)
        show pj_X _ _ G26 97 [(0, .ref 34), (1, .ref 4), (2, .int v2), (3, .int v3), (4, .int v4), (5, .int v5)] [] _
        refine pj_X_of (fun r h => pj_R_to (G26, 98, [(0, .ref 34), (1, .ref 4), (2, .int v2), (3, .int v3), (4, .int v4), (5, .int v5)], [.int v3], 0, 0) 98 2 (fun _ => rfl) h) ?_
        exact pj_X_rt rfl rfl ⟨_, rfl, iG26, kG26, pj_i32 _⟩
      | false =>
        have ub23 := pj_u_geF b23
        refine pj_X_of (fun r h => pj_R_icF rfl b23 h) ?_
        refine pj_X_of (fun r h => pj_R_to (G, 35, [(0, .ref 34), (1, .ref 4), (2, .int v2), (3, .int v3), (4, .int v4), (5, .int v5)], [.int v4, .int v5, .ref 34], 0, 0) 35 4 (fun _ => rfl) h) ?_
        refine pj_X_ca (vs := [.ref 34, .int v5, .int v4]) rfl (fun _ => rfl) ⟨Nat.le_of_ble_eq_true rfl, Nat.le_of_ble_eq_true rfl, pj_T_rcv hI rfl⟩ ⟨rfl, rfl⟩ (pj_Y_up (by decide) (ct_24 G hI v5 v4)) ?_
        rintro _ _ ⟨y27, rfl, rfl, ry27⟩
        show pj_X _ _ G 38 [(0, .ref 34), (1, .ref 4), (2, .int v2), (3, .int v3), (4, .int v4), (5, .int v5)] [.int y27] _
        cases b28 : pj_c1 .eq y27 0 with
        | true =>
          have ub28 := pj_u0_eqT b28
          refine pj_X_of (fun r h => pj_R_ifT 85 rfl rfl b28 h) ?_
          refine pj_X_of (fun r h => pj_R_to (G, 88, [(5, .int (v5 + Int32.ofInt 1)), (0, .ref 34), (1, .ref 4), (2, .int v2), (3, .int v3), (4, .int v4)], [], 0, 0) 88 2 (fun _ => rfl) h) ?_
          obtain ⟨z29, hz29⟩ : ∃ z : Int32, z = v5 + Int32.ofInt 1 := ⟨_, rfl⟩
          rw [← hz29]
          have fz29_0 : z29.toInt = v5.toInt + (Int32.ofInt 1).toInt := by rw [hz29]; exact pj_addI (by have := pj_i32 v5; have := pj_i32 (Int32.ofInt 1); omega) (by have := pj_i32 v5; have := pj_i32 (Int32.ofInt 1); omega)
          refine pj_X_of (fun r h => pj_R_to (G, 13, [(5, .int z29), (0, .ref 34), (1, .ref 4), (2, .int v2), (3, .int v3), (4, .int v4)], [], 0, 0) 13 2 (fun _ => rfl) h) ?_
          exact pj_X_sub [(0, .ref 34), (1, .ref 4), (2, .int v2), (3, .int v3), (4, .int v4), (5, .int z29)] (show List.Nodup [0, 1, 2, 3, 4, 5] by decide) ⟨rfl, rfl, rfl, rfl, rfl, rfl, trivial⟩ (ih G hI hK v2 v3 v4 z29 (pj_i32 _) (pj_i32 _) (pj_i32 _) ⟨by omega, by omega⟩ (by omega))
        | false =>
          have ub28 := pj_u0_eqF b28
          refine pj_X_of (fun r h => pj_R_ifF rfl b28 h) ?_
          refine pj_X_of (fun r h => pj_R_to (G, 42, [(0, .ref 34), (1, .ref 4), (2, .int v2), (3, .int v3), (4, .int v4), (5, .int v5)], [.ref 34], 0, 0) 42 2 (fun _ => rfl) h) ?_
          refine pj_X_of (fun r h => pj_T_gr hI rfl rfl rfl h) ?_
          refine pj_X_gk hI rfl rfl q1 ?_
          refine pj_X_of (fun r h => pj_R_to (G, 50, [(0, .ref 34), (1, .ref 4), (2, .int v2), (3, .int v3), (4, .int v4), (5, .int v5)], [.int v5, .ref 14], 0, 0) 50 2 (fun _ => rfl) h) ?_
          refine pj_X_ca (vs := [.ref 14, .int v5]) rfl (fun _ => rfl) ⟨Nat.le_of_ble_eq_true rfl, Nat.le_of_ble_eq_true rfl, pj_T_rcv hI rfl⟩ ⟨rfl, rfl⟩ (pj_Y_up (by decide) (ct_49_14 G hI v5)) ?_
          rintro _ _ ⟨y30, rfl, rfl, ry30⟩
          show pj_X _ _ G 53 [(0, .ref 34), (1, .ref 4), (2, .int v2), (3, .int v3), (4, .int v4), (5, .int v5)] [.int y30] _
          refine pj_X_of (fun r h => pj_R_to (G, 58, [(6, .int y30), (0, .ref 34), (1, .ref 4), (2, .int v2), (3, .int v3), (4, .int v4), (5, .int v5)], [.int v3, .int y30], 0, 0) 58 4 (fun _ => rfl) h) ?_
          cases b31 : pj_c1 .gt y30 v3 with
          | true =>
            have ub31 := pj_u_gtT b31
            refine pj_X_of (fun r h => pj_R_icT 79 rfl rfl b31 h) ?_
            refine pj_X_of (fun r h => pj_R_to (G, 88, [(5, .int (v5 + Int32.ofInt 1)), (2, .int v5), (3, .int y30), (6, .int y30), (0, .ref 34), (1, .ref 4), (4, .int v4)], [], 0, 0) 88 6 (fun _ => rfl) h) ?_
            obtain ⟨z32, hz32⟩ : ∃ z : Int32, z = v5 + Int32.ofInt 1 := ⟨_, rfl⟩
            rw [← hz32]
            have fz32_0 : z32.toInt = v5.toInt + (Int32.ofInt 1).toInt := by rw [hz32]; exact pj_addI (by have := pj_i32 v5; have := pj_i32 (Int32.ofInt 1); omega) (by have := pj_i32 v5; have := pj_i32 (Int32.ofInt 1); omega)
            refine pj_X_of (fun r h => pj_R_to (G, 13, [(5, .int z32), (2, .int v5), (3, .int y30), (6, .int y30), (0, .ref 34), (1, .ref 4), (4, .int v4)], [], 0, 0) 13 2 (fun _ => rfl) h) ?_
            exact pj_X_sub [(0, .ref 34), (1, .ref 4), (2, .int v5), (3, .int y30), (4, .int v4), (5, .int z32)] (show List.Nodup [0, 1, 2, 3, 4, 5] by decide) ⟨rfl, rfl, rfl, rfl, rfl, rfl, trivial⟩ (ih G hI hK v5 y30 v4 z32 (pj_i32 _) (pj_i32 _) (pj_i32 _) ⟨by omega, by omega⟩ (by omega))
          | false =>
            have ub31 := pj_u_gtF b31
            refine pj_X_of (fun r h => pj_R_icF rfl b31 h) ?_
            refine pj_X_of (fun r h => pj_R_to (G, 64, [(6, .int y30), (0, .ref 34), (1, .ref 4), (2, .int v2), (3, .int v3), (4, .int v4), (5, .int v5)], [.int v3, .int y30], 0, 0) 64 3 (fun _ => rfl) h) ?_
            cases b33 : pj_c1 .ne y30 v3 with
            | true =>
              have ub33 := pj_u_neT b33
              refine pj_X_of (fun r h => pj_R_icT 85 rfl rfl b33 h) ?_
              refine pj_X_of (fun r h => pj_R_to (G, 88, [(5, .int (v5 + Int32.ofInt 1)), (6, .int y30), (0, .ref 34), (1, .ref 4), (2, .int v2), (3, .int v3), (4, .int v4)], [], 0, 0) 88 2 (fun _ => rfl) h) ?_
              obtain ⟨z34, hz34⟩ : ∃ z : Int32, z = v5 + Int32.ofInt 1 := ⟨_, rfl⟩
              rw [← hz34]
              have fz34_0 : z34.toInt = v5.toInt + (Int32.ofInt 1).toInt := by rw [hz34]; exact pj_addI (by have := pj_i32 v5; have := pj_i32 (Int32.ofInt 1); omega) (by have := pj_i32 v5; have := pj_i32 (Int32.ofInt 1); omega)
              refine pj_X_of (fun r h => pj_R_to (G, 13, [(5, .int z34), (6, .int y30), (0, .ref 34), (1, .ref 4), (2, .int v2), (3, .int v3), (4, .int v4)], [], 0, 0) 13 2 (fun _ => rfl) h) ?_
              exact pj_X_sub [(0, .ref 34), (1, .ref 4), (2, .int v2), (3, .int v3), (4, .int v4), (5, .int z34)] (show List.Nodup [0, 1, 2, 3, 4, 5] by decide) ⟨rfl, rfl, rfl, rfl, rfl, rfl, trivial⟩ (ih G hI hK v2 v3 v4 z34 (pj_i32 _) (pj_i32 _) (pj_i32 _) ⟨by omega, by omega⟩ (by omega))
            | false =>
              have ub33 := pj_u_neF b33
              refine pj_X_of (fun r h => pj_R_icF rfl b33 h) ?_
              refine pj_X_of (fun r h => pj_R_to (G, 69, [(6, .int y30), (0, .ref 34), (1, .ref 4), (2, .int v2), (3, .int v3), (4, .int v4), (5, .int v5)], [.int v5], 0, 0) 69 2 (fun _ => rfl) h) ?_
              refine pj_X_ca (vs := [.int v5]) rfl (fun _ => rfl) ⟨Nat.le_of_ble_eq_true rfl, Nat.le_of_ble_eq_true rfl, rfl⟩ ⟨rfl, rfl⟩ (pj_Y_up (by decide) (ct_287 G hI v5)) ?_
              rintro _ _ ⟨y35, rfl, rfl, ry35⟩
              show pj_X _ _ G 72 [(6, .int y30), (0, .ref 34), (1, .ref 4), (2, .int v2), (3, .int v3), (4, .int v4), (5, .int v5)] [.int y35] _
              refine pj_X_of (fun r h => pj_R_to (G, 73, [(6, .int y30), (0, .ref 34), (1, .ref 4), (2, .int v2), (3, .int v3), (4, .int v4), (5, .int v5)], [.int v2, .int y35], 0, 0) 73 2 (fun _ => rfl) h) ?_
              refine pj_X_ca (vs := [.int v2]) rfl (fun _ => rfl) ⟨Nat.le_of_ble_eq_true rfl, Nat.le_of_ble_eq_true rfl, rfl⟩ ⟨rfl, rfl⟩ (pj_Y_up (by decide) (ct_287 G hI v2)) ?_
              rintro _ _ ⟨y36, rfl, rfl, ry36⟩
              show pj_X _ _ G 76 [(6, .int y30), (0, .ref 34), (1, .ref 4), (2, .int v2), (3, .int v3), (4, .int v4), (5, .int v5)] [.int y36, .int y35] _
              cases b37 : pj_c1 .ge y35 y36 with
              | true =>
                have ub37 := pj_u_geT b37
                refine pj_X_of (fun r h => pj_R_icT 85 rfl rfl b37 h) ?_
                refine pj_X_of (fun r h => pj_R_to (G, 88, [(5, .int (v5 + Int32.ofInt 1)), (6, .int y30), (0, .ref 34), (1, .ref 4), (2, .int v2), (3, .int v3), (4, .int v4)], [], 0, 0) 88 2 (fun _ => rfl) h) ?_
                obtain ⟨z38, hz38⟩ : ∃ z : Int32, z = v5 + Int32.ofInt 1 := ⟨_, rfl⟩
                rw [← hz38]
                have fz38_0 : z38.toInt = v5.toInt + (Int32.ofInt 1).toInt := by rw [hz38]; exact pj_addI (by have := pj_i32 v5; have := pj_i32 (Int32.ofInt 1); omega) (by have := pj_i32 v5; have := pj_i32 (Int32.ofInt 1); omega)
                refine pj_X_of (fun r h => pj_R_to (G, 13, [(5, .int z38), (6, .int y30), (0, .ref 34), (1, .ref 4), (2, .int v2), (3, .int v3), (4, .int v4)], [], 0, 0) 13 2 (fun _ => rfl) h) ?_
                exact pj_X_sub [(0, .ref 34), (1, .ref 4), (2, .int v2), (3, .int v3), (4, .int v4), (5, .int z38)] (show List.Nodup [0, 1, 2, 3, 4, 5] by decide) ⟨rfl, rfl, rfl, rfl, rfl, rfl, trivial⟩ (ih G hI hK v2 v3 v4 z38 (pj_i32 _) (pj_i32 _) (pj_i32 _) ⟨by omega, by omega⟩ (by omega))
              | false =>
                have ub37 := pj_u_geF b37
                refine pj_X_of (fun r h => pj_R_icF rfl b37 h) ?_
                refine pj_X_of (fun r h => pj_R_to (G, 88, [(5, .int (v5 + Int32.ofInt 1)), (2, .int v5), (3, .int y30), (6, .int y30), (0, .ref 34), (1, .ref 4), (4, .int v4)], [], 0, 0) 88 6 (fun _ => rfl) h) ?_
                obtain ⟨z39, hz39⟩ : ∃ z : Int32, z = v5 + Int32.ofInt 1 := ⟨_, rfl⟩
                rw [← hz39]
                have fz39_0 : z39.toInt = v5.toInt + (Int32.ofInt 1).toInt := by rw [hz39]; exact pj_addI (by have := pj_i32 v5; have := pj_i32 (Int32.ofInt 1); omega) (by have := pj_i32 v5; have := pj_i32 (Int32.ofInt 1); omega)
                refine pj_X_of (fun r h => pj_R_to (G, 13, [(5, .int z39), (2, .int v5), (3, .int y30), (6, .int y30), (0, .ref 34), (1, .ref 4), (4, .int v4)], [], 0, 0) 13 2 (fun _ => rfl) h) ?_
                exact pj_X_sub [(0, .ref 34), (1, .ref 4), (2, .int v5), (3, .int y30), (4, .int v4), (5, .int z39)] (show List.Nodup [0, 1, 2, 3, 4, 5] by decide) ⟨rfl, rfl, rfl, rfl, rfl, rfl, trivial⟩ (ih G hI hK v5 y30 v4 z39 (pj_i32 _) (pj_i32 _) (pj_i32 _) ⟨by omega, by omega⟩ (by omega))
theorem ct_31 (G0 : pj_G) (hI : pj_Inv G0) : pj_Y 5 31 [.ref 34, .ref 4] G0 (fun v G' => ∃ y : Int32, v = some (.int y) ∧ pj_Inv G' ∧ pj_kpt kc_31 G0 G' ∧ ((-2147483648 : Int) ≤ y.toInt ∧ y.toInt ≤ 2147483647)) := by
  have c0_ : (Int32.ofInt 0).toInt = 0 := by decide
  have c1_ : (Int32.ofInt 1).toInt = 1 := by decide
  refine pj_Y_X (M := pj_m31) rfl rfl (Nat.le_of_ble_eq_true rfl) ?_
  have hK : pj_kpt kc_31 G0 G0 := pj_kpt_r _ _
  show pj_X _ _ G0 0 [(0, .ref 34), (1, .ref 4)] [] _
  refine pj_X_of (fun r h => pj_R_to (G0, 5, [(3, .int (Int32.ofInt 0)), (2, .int (Int32.ofInt 0)), (0, .ref 34), (1, .ref 4)], [.ref 34], 0, 0) 5 6 (fun _ => rfl) h) ?_
  refine pj_X_ca (vs := [.ref 34]) rfl (fun _ => rfl) ⟨Nat.le_of_ble_eq_true rfl, Nat.le_of_ble_eq_true rfl, pj_T_rcv hI rfl⟩ ⟨rfl, rfl⟩ (pj_Y_up (by decide) (ct_23 G0 hI)) ?_
  rintro _ G41 ⟨y40, rfl, iG41, jG41, ry40⟩
  have kG41 : pj_kpt kc_31 G0 G41 := pj_kpt_t hK (pj_kpt_s jG41 rfl)
  show pj_X _ _ G41 8 [(3, .int (Int32.ofInt 0)), (2, .int (Int32.ofInt 0)), (0, .ref 34), (1, .ref 4)] [.int y40] _
  refine pj_X_of (fun r h => pj_R_to (G41, 13, [(5, .int (Int32.ofInt 0)), (4, .int y40), (3, .int (Int32.ofInt 0)), (2, .int (Int32.ofInt 0)), (0, .ref 34), (1, .ref 4)], [], 0, 0) 13 4 (fun _ => rfl) h) ?_
  exact pj_X_sub [(0, .ref 34), (1, .ref 4), (2, .int (Int32.ofInt 0)), (3, .int (Int32.ofInt 0)), (4, .int y40), (5, .int (Int32.ofInt 0))] (show List.Nodup [0, 1, 2, 3, 4, 5] by decide) ⟨rfl, rfl, rfl, rfl, rfl, rfl, trivial⟩ ((lp_ct_31 G0 hI   1025) G41 iG41 kG41 (Int32.ofInt 0) (Int32.ofInt 0) y40 (Int32.ofInt 0) (pj_i32 _) (pj_i32 _) (pj_i32 _) ⟨by omega, by omega⟩ (by omega))
def kc_34 : pj_KT := ([(53, 1), (53, 2)], [53], [])
theorem ct_34 (G0 : pj_G) (hI : pj_Inv G0) (dn : Int32) (rdn : (0 : Int) ≤ dn.toInt ∧ dn.toInt ≤ 1) : pj_Y 1 34 [.ref 53, .int dn] G0 (fun v G' => v = none ∧ pj_Inv G' ∧ pj_kpt kc_34 G0 G') := by
  have c0_ : ((Int8.ofInt 15).toInt32).toInt = 15 := by decide
  have c1_ : (Int32.ofInt 1).toInt = 1 := by decide
  have c2_ : (Int32.ofNat 16).toInt = 16 := by decide
  refine pj_Y_X (M := pj_m34) rfl rfl (Nat.le_of_ble_eq_true rfl) ?_
  have hK : pj_kpt kc_34 G0 G0 := pj_kpt_r _ _
  show pj_X _ _ G0 0 [(0, .ref 53), (1, .int dn)] [] _
  refine pj_X_of (fun r h => pj_R_to (G0, 1, [(0, .ref 53), (1, .int dn)], [.int dn], 0, 0) 1 2 (fun _ => rfl) h) ?_
  cases b1 : pj_c1 .eq dn 0 with
  | true =>
    have ub1 := pj_u0_eqT b1
    refine pj_X_of (fun r h => pj_R_ifT 35 rfl rfl b1 h) ?_
    exact pj_X_rt rfl rfl ⟨rfl, hI, hK⟩
  | false =>
    have ub1 := pj_u0_eqF b1
    refine pj_X_of (fun r h => pj_R_ifF rfl b1 h) ?_
    refine pj_X_of (fun r h => pj_R_to (G0, 6, [(0, .ref 53), (1, .int dn)], [.ref 53, .ref 53], 0, 0) 6 3 (fun _ => rfl) h) ?_
    refine pj_X_of (fun r h => pj_T_gi hI rfl rfl h) ?_
    show pj_X _ _ G0 9 [(0, .ref 53), (1, .int dn)] [.int (pj_fi G0 53 1), .ref 53] _
    obtain ⟨y2, hy2⟩ : ∃ z : Int32, z = pj_fi G0 53 1 := ⟨_, rfl⟩
    rw [← hy2]
    have ey2 : (pj_fi G0 53 1).toInt = y2.toInt := by rw [hy2]
    have ry2 : (0 : Int) ≤ y2.toInt ∧ y2.toInt ≤ 15 := by rw [hy2]; exact hI.2.1 53 1 (0, 15) rfl
    refine pj_X_of (fun r h => pj_R_to (G0, 11, [(0, .ref 53), (1, .int dn)], [.int (y2 + (Int32.ofInt 1)), .ref 53], 0, 0) 11 3 (fun _ => rfl) h) ?_
    obtain ⟨z3, hz3⟩ : ∃ z : Int32, z = y2 + (Int32.ofInt 1) := ⟨_, rfl⟩
    rw [← hz3]
    have fz3_0 : z3.toInt = y2.toInt + (Int32.ofInt 1).toInt := by rw [hz3]; exact pj_addI (by have := pj_i32 y2; have := pj_i32 (Int32.ofInt 1); omega) (by have := pj_i32 y2; have := pj_i32 (Int32.ofInt 1); omega)
    refine pj_X_of (fun r h => pj_R_to (G0, 12, [(0, .ref 53), (1, .int dn)], [.ref 53, .int z3, .ref 53], 0, 0) 12 2 (fun _ => rfl) h) ?_
    refine pj_X_of (fun r h => pj_T_gr hI rfl rfl rfl h) ?_
    refine pj_X_of (fun r h => pj_T_al hI rfl rfl (by decide) h) ?_
    refine pj_X_of (fun r h => pj_R_rm rfl (pj_nz (by omega)) h) ?_
    show pj_X _ _ G0 17 [(0, .ref 53), (1, .int dn)] [.int (z3 - z3 / (Int32.ofNat 16) * (Int32.ofNat 16)), .ref 53] _
    obtain ⟨z4, hz4⟩ : ∃ z : Int32, z = z3 - z3 / (Int32.ofNat 16) * (Int32.ofNat 16) := ⟨_, rfl⟩
    rw [← hz4]
    have fz4_0 : 0 ≤ z4.toInt ∧ z4.toInt < (Int32.ofNat 16).toInt := by rw [hz4]; exact pj_remI (by omega) (by omega)
    refine pj_X_of (fun r h => pj_T_pf hI rfl rfl rfl h) ?_
    show pj_X _ _ (pj_wv G0 53 1 (.int z4)) 20 [(0, .ref 53), (1, .int dn)] [] _
    obtain ⟨G5, hG5⟩ : ∃ H, H = pj_wv G0 53 1 (.int z4) := ⟨_, rfl⟩
    have iG5 : pj_Inv G5 := by rw [hG5]; exact pj_Inv_wi hI (ci := 4) rfl (fun q hq => by cases hq; exact ⟨by show (0 : Int) ≤ _; omega, by show _ ≤ (15 : Int); omega⟩)
    have kG5 : pj_kpt kc_34 G0 G5 := by rw [hG5]; exact pj_kpt_v hK rfl
    rw [← hG5]
    refine pj_X_of (fun r h => pj_R_to (G5, 22, [(0, .ref 53), (1, .int dn)], [.ref 53, .ref 53], 0, 0) 22 3 (fun _ => rfl) h) ?_
    refine pj_X_of (fun r h => pj_T_gi iG5 rfl rfl h) ?_
    show pj_X _ _ G5 25 [(0, .ref 53), (1, .int dn)] [.int (pj_fi G5 53 2), .ref 53] _
    obtain ⟨y6, hy6⟩ : ∃ z : Int32, z = pj_fi G5 53 2 := ⟨_, rfl⟩
    rw [← hy6]
    have ey6 : (pj_fi G5 53 2).toInt = y6.toInt := by rw [hy6]
    have ry6 : (0 : Int) ≤ y6.toInt ∧ y6.toInt ≤ 15 := by rw [hy6]; exact iG5.2.1 53 2 (0, 15) rfl
    refine pj_X_of (fun r h => pj_R_to (G5, 27, [(0, .ref 53), (1, .int dn)], [.int (y6 + (Int32.ofInt 1)), .ref 53], 0, 0) 27 3 (fun _ => rfl) h) ?_
    obtain ⟨z7, hz7⟩ : ∃ z : Int32, z = y6 + (Int32.ofInt 1) := ⟨_, rfl⟩
    rw [← hz7]
    have fz7_0 : z7.toInt = y6.toInt + (Int32.ofInt 1).toInt := by rw [hz7]; exact pj_addI (by have := pj_i32 y6; have := pj_i32 (Int32.ofInt 1); omega) (by have := pj_i32 y6; have := pj_i32 (Int32.ofInt 1); omega)
    refine pj_X_of (fun r h => pj_R_to (G5, 29, [(0, .ref 53), (1, .int dn)], [.int ((Int8.ofInt 15).toInt32), .int z7, .ref 53], 0, 0) 29 2 (fun _ => rfl) h) ?_
    refine pj_X_of (fun r h => pj_R_mn (v := (if ((Int8.ofInt 15).toInt32) < z7 then ((Int8.ofInt 15).toInt32) else z7)) rfl rfl rfl (Nat.le_of_ble_eq_true rfl) h) ?_
    show pj_X _ _ G5 32 [(0, .ref 53), (1, .int dn)] [.int (if ((Int8.ofInt 15).toInt32) < z7 then ((Int8.ofInt 15).toInt32) else z7), .ref 53] _
    obtain ⟨z8, hz8⟩ : ∃ z : Int32, z = (if ((Int8.ofInt 15).toInt32) < z7 then ((Int8.ofInt 15).toInt32) else z7) := ⟨_, rfl⟩
    rw [← hz8]
    have fz8_0 : z8.toInt ≤ z7.toInt ∧ z8.toInt ≤ ((Int8.ofInt 15).toInt32).toInt ∧ (z8.toInt = z7.toInt ∨ z8.toInt = ((Int8.ofInt 15).toInt32).toInt) := by rw [hz8]; exact pj_minI
    refine pj_X_of (fun r h => pj_T_pf iG5 rfl rfl rfl h) ?_
    show pj_X _ _ (pj_wv G5 53 2 (.int z8)) 35 [(0, .ref 53), (1, .int dn)] [] _
    obtain ⟨G9, hG9⟩ : ∃ H, H = pj_wv G5 53 2 (.int z8) := ⟨_, rfl⟩
    have iG9 : pj_Inv G9 := by rw [hG9]; exact pj_Inv_wi iG5 (ci := 4) rfl (fun q hq => by cases hq; exact ⟨by show (0 : Int) ≤ _; omega, by show _ ≤ (15 : Int); omega⟩)
    have kG9 : pj_kpt kc_34 G0 G9 := by rw [hG9]; exact pj_kpt_v kG5 rfl
    rw [← hG9]
    exact pj_X_rt rfl rfl ⟨rfl, iG9, kG9⟩
def kc_36 : pj_KT := ([(53, 2)], [53], [])
theorem ct_36 (G0 : pj_G) (hI : pj_Inv G0) : pj_Y 1 36 [.ref 53] G0 (fun v G' => v = none ∧ pj_Inv G' ∧ pj_kpt kc_36 G0 G') := by
  have c0_ : (Int32.ofInt 0).toInt = 0 := by decide
  refine pj_Y_X (M := pj_m36) rfl rfl (Nat.le_of_ble_eq_true rfl) ?_
  have hK : pj_kpt kc_36 G0 G0 := pj_kpt_r _ _
  show pj_X _ _ G0 0 [(0, .ref 53)] [] _
  refine pj_X_of (fun r h => pj_R_to (G0, 2, [(0, .ref 53)], [.int (Int32.ofInt 0), .ref 53], 0, 0) 2 3 (fun _ => rfl) h) ?_
  refine pj_X_of (fun r h => pj_T_pf hI rfl rfl rfl h) ?_
  show pj_X _ _ (pj_wv G0 53 2 (.int (Int32.ofInt 0))) 5 [(0, .ref 53)] [] _
  obtain ⟨G1, hG1⟩ : ∃ H, H = pj_wv G0 53 2 (.int (Int32.ofInt 0)) := ⟨_, rfl⟩
  have iG1 : pj_Inv G1 := by rw [hG1]; exact pj_Inv_wi hI (ci := 4) rfl (fun q hq => by cases hq; exact ⟨by show (0 : Int) ≤ _; omega, by show _ ≤ (15 : Int); omega⟩)
  have kG1 : pj_kpt kc_36 G0 G1 := by rw [hG1]; exact pj_kpt_v hK rfl
  rw [← hG1]
  exact pj_X_rt rfl rfl ⟨rfl, iG1, kG1⟩
def kc_37 : pj_KT := ([(53, 2)], [53, 56], [56])
theorem lp_ct_37 (G0 : pj_G) (hI0 : pj_Inv G0) : ∀ mn : Nat, (∀ (G : pj_G) (hI : pj_Inv G) (hK : pj_kpt kc_37 G0 G) (v1 : Int32), ((0 : Int) ≤ v1.toInt ∧ v1.toInt ≤ 3) → 3 - v1.toInt < (mn : Int) → pj_X 1 pj_m37 G 6 [(0, .ref 53), (1, .int v1)] [] (fun v G' => v = none ∧ pj_Inv G' ∧ pj_kpt kc_37 G0 G')) := by
  have c0_ : (Int32.ofInt 0).toInt = 0 := by decide
  have c1_ : (Int32.ofInt 1).toInt = 1 := by decide
  have c2_ : (Int32.ofInt 3).toInt = 3 := by decide
  intro mn
  induction mn with
  | zero =>
    intro G hI hK v1 rv1 hm
    exfalso
    omega
  | succ mn ih =>
    intro G hI hK v1 rv1 hm
    refine pj_X_of (fun r h => pj_R_to (G, 8, [(0, .ref 53), (1, .int v1)], [.int (Int32.ofInt 3), .int v1], 0, 0) 8 3 (fun _ => rfl) h) ?_
    cases b1 : pj_c1 .ge v1 (Int32.ofInt 3) with
    | true =>
      have ub1 := pj_u_geT b1
      refine pj_X_of (fun r h => pj_R_icT 24 rfl rfl b1 h) ?_
      exact pj_X_rt rfl rfl ⟨rfl, hI, hK⟩
    | false =>
      have ub1 := pj_u_geF b1
      refine pj_X_of (fun r h => pj_R_icF rfl b1 h) ?_
      refine pj_X_of (fun r h => pj_R_to (G, 12, [(0, .ref 53), (1, .int v1)], [.ref 53], 0, 0) 12 2 (fun _ => rfl) h) ?_
      refine pj_X_of (fun r h => pj_T_gr hI rfl rfl rfl h) ?_
      refine pj_X_of (fun r h => pj_R_to (G, 17, [(0, .ref 53), (1, .int v1)], [.int (Int32.ofInt 0), .int v1, .ref 56], 0, 0) 17 3 (fun _ => rfl) h) ?_
      refine pj_X_of (fun r h => pj_T_bs hI rfl rfl (by omega) (by omega) h) ?_
      show pj_X _ _ (pj_wa G 56 v1.toInt.toNat (vp_nar .boolean (Int32.ofInt 0))) 18 [(0, .ref 53), (1, .int v1)] [] _
      obtain ⟨G2, hG2⟩ : ∃ H, H = pj_wa G 56 v1.toInt.toNat (vp_nar .boolean (Int32.ofInt 0)) := ⟨_, rfl⟩
      have iG2 : pj_Inv G2 := by rw [hG2]; exact pj_Inv_wb hI rfl rfl rfl
      have kG2 : pj_kpt kc_37 G0 G2 := by rw [hG2]; exact pj_kpt_a hK rfl
      rw [← hG2]
      refine pj_X_of (fun r h => pj_R_to (G2, 21, [(1, .int (v1 + Int32.ofInt 1)), (0, .ref 53)], [], 0, 0) 21 2 (fun _ => rfl) h) ?_
      obtain ⟨z3, hz3⟩ : ∃ z : Int32, z = v1 + Int32.ofInt 1 := ⟨_, rfl⟩
      rw [← hz3]
      have fz3_0 : z3.toInt = v1.toInt + (Int32.ofInt 1).toInt := by rw [hz3]; exact pj_addI (by have := pj_i32 v1; have := pj_i32 (Int32.ofInt 1); omega) (by have := pj_i32 v1; have := pj_i32 (Int32.ofInt 1); omega)
      refine pj_X_of (fun r h => pj_R_to (G2, 6, [(1, .int z3), (0, .ref 53)], [], 0, 0) 6 2 (fun _ => rfl) h) ?_
      exact pj_X_sub [(0, .ref 53), (1, .int z3)] (show List.Nodup [0, 1] by decide) ⟨rfl, rfl, trivial⟩ (ih G2 iG2 kG2 z3 ⟨by omega, by omega⟩ (by omega))
theorem ct_37 (G0 : pj_G) (hI : pj_Inv G0) : pj_Y 2 37 [.ref 53] G0 (fun v G' => v = none ∧ pj_Inv G' ∧ pj_kpt kc_37 G0 G') := by
  have c0_ : (Int32.ofInt 0).toInt = 0 := by decide
  have c1_ : (Int32.ofInt 1).toInt = 1 := by decide
  have c2_ : (Int32.ofInt 3).toInt = 3 := by decide
  refine pj_Y_X (M := pj_m37) rfl rfl (Nat.le_of_ble_eq_true rfl) ?_
  have hK : pj_kpt kc_37 G0 G0 := pj_kpt_r _ _
  show pj_X _ _ G0 0 [(0, .ref 53)] [] _
  refine pj_X_of (fun r h => pj_R_to (G0, 1, [(0, .ref 53)], [.ref 53], 0, 0) 1 2 (fun _ => rfl) h) ?_
  refine pj_X_ca (vs := [.ref 53]) rfl (fun _ => rfl) ⟨Nat.le_of_ble_eq_true rfl, Nat.le_of_ble_eq_true rfl, pj_T_rcv hI rfl⟩ ⟨rfl, rfl⟩ (pj_Y_up (by decide) (ct_36 G0 hI)) ?_
  rintro _ G5 ⟨rfl, iG5, jG5⟩
  have kG5 : pj_kpt kc_37 G0 G5 := pj_kpt_t hK (pj_kpt_s jG5 rfl)
  show pj_X _ _ G5 4 [(0, .ref 53)] [] _
  refine pj_X_of (fun r h => pj_R_to (G5, 6, [(1, .int (Int32.ofInt 0)), (0, .ref 53)], [], 0, 0) 6 3 (fun _ => rfl) h) ?_
  exact pj_X_sub [(0, .ref 53), (1, .int (Int32.ofInt 0))] (show List.Nodup [0, 1] by decide) ⟨rfl, rfl, trivial⟩ ((lp_ct_37 G0 hI   4) G5 iG5 kG5 (Int32.ofInt 0) ⟨by omega, by omega⟩ (by omega))
def kc_8 : pj_KT := ([], [45], [])
theorem lp_ct_8 (G0 : pj_G) (hI0 : pj_Inv G0) (p : Int32) : ∀ mn : Nat, (∀ (G : pj_G) (hI : pj_Inv G) (hK : pj_kpt kc_8 G0 G) (v2 : Int32) (v3 : Int32), ((-2147483648 : Int) ≤ v2.toInt ∧ v2.toInt ≤ 2147483647) → ((-1 : Int) ≤ v3.toInt ∧ v3.toInt ≤ 9) → v3.toInt - (-1) < (mn : Int) → pj_X 0 pj_m8 G 15 [(0, .ref 38), (1, .int p), (2, .int v2), (3, .int v3)] [] (fun v G' => v = none ∧ pj_Inv G' ∧ pj_kpt kc_8 G0 G')) := by
  have c0_ : ((Int8.ofInt 10).toInt32).toInt = 10 := by decide
  have c1_ : (Int32.ofInt (-1)).toInt = -1 := by decide
  have c2_ : (Int32.ofInt 1).toInt = 1 := by decide
  intro mn
  induction mn with
  | zero =>
    intro G hI hK v2 v3 rv2 rv3 hm
    exfalso
    omega
  | succ mn ih =>
    intro G hI hK v2 v3 rv2 rv3 hm
    refine pj_X_of (fun r h => pj_R_to (G, 16, [(0, .ref 38), (1, .int p), (2, .int v2), (3, .int v3)], [.int v3], 0, 0) 16 2 (fun _ => rfl) h) ?_
    cases b1 : pj_c1 .lt v3 0 with
    | true =>
      have ub1 := pj_u0_ltT b1
      refine pj_X_of (fun r h => pj_R_ifT 81 rfl rfl b1 h) ?_
      exact pj_X_rt rfl rfl ⟨rfl, hI, hK⟩
    | false =>
      have ub1 := pj_u0_ltF b1
      refine pj_X_of (fun r h => pj_R_ifF rfl b1 h) ?_
      refine pj_X_of (fun r h => pj_R_to (G, 21, [(0, .ref 38), (1, .int p), (2, .int v2), (3, .int v3)], [.int v2, .int v3], 0, 0) 21 3 (fun _ => rfl) h) ?_
      cases b2 : pj_c1 .ne v3 v2 with
      | true =>
        have ub2 := pj_u_neT b2
        refine pj_X_of (fun r h => pj_R_icT 29 rfl rfl b2 h) ?_
        refine pj_X_of (fun r h => pj_R_to (G, 33, [(0, .ref 38), (1, .int p), (2, .int v2), (3, .int v3)], [.int (((Int8.ofInt 10).toInt32) - p)], 0, 0) 33 4 (fun _ => rfl) h) ?_
        obtain ⟨z3, hz3⟩ : ∃ z : Int32, z = ((Int8.ofInt 10).toInt32) - p := ⟨_, rfl⟩
        rw [← hz3]
        refine pj_X_of (fun r h => pj_R_to (G, 36, [(4, .int z3), (0, .ref 38), (1, .int p), (2, .int v2), (3, .int v3)], [.int v3], 0, 0) 36 3 (fun _ => rfl) h) ?_
        cases b4 : pj_c1 .le v3 0 with
        | true =>
          have ub4 := pj_u0_leT b4
          refine pj_X_of (fun r h => pj_R_ifT 53 rfl rfl b4 h) ?_
          refine pj_X_of (fun r h => pj_R_to (G, 57, [(5, .long (Int64.ofNat 0)), (4, .int z3), (0, .ref 38), (1, .int p), (2, .int v2), (3, .int v3)], [.ref 38], 0, 0) 57 4 (fun _ => rfl) h) ?_
          refine pj_X_of (fun r h => pj_T_gr hI rfl rfl rfl h) ?_
          refine pj_X_of (fun r h => pj_R_to (G, 62, [(5, .long (Int64.ofNat 0)), (4, .int z3), (0, .ref 38), (1, .int p), (2, .int v2), (3, .int v3)], [.ref 38, .int v3, .ref 45], 0, 0) 62 3 (fun _ => rfl) h) ?_
          refine pj_X_of (fun r h => pj_T_gr hI rfl rfl rfl h) ?_
          refine pj_X_of (fun r h => pj_R_to (G, 66, [(5, .long (Int64.ofNat 0)), (4, .int z3), (0, .ref 38), (1, .int p), (2, .int v2), (3, .int v3)], [.int v3, .ref 45, .int v3, .ref 45], 0, 0) 66 2 (fun _ => rfl) h) ?_
          refine pj_X_ll hI rfl rfl (by omega) (by omega) (fun w5 => ?_)
          show pj_X _ _ G 67 [(5, .long (Int64.ofNat 0)), (4, .int z3), (0, .ref 38), (1, .int p), (2, .int v2), (3, .int v3)] [.long w5, .int v3, .ref 45] _
          refine pj_X_of (fun r h => pj_R_to (G, 74, [(5, .long (Int64.ofNat 0)), (4, .int z3), (0, .ref 38), (1, .int p), (2, .int v2), (3, .int v3)], [.long ((w5 * z3.toInt64) + (Int64.ofNat 0)), .int v3, .ref 45], 0, 0) 74 6 (fun _ => rfl) h) ?_
          refine pj_X_of (fun r h => pj_T_ls hI rfl rfl (by omega) (by omega) h) ?_
          show pj_X _ _ (pj_wl G 45 v3.toInt.toNat ((w5 * z3.toInt64) + (Int64.ofNat 0))) 75 [(5, .long (Int64.ofNat 0)), (4, .int z3), (0, .ref 38), (1, .int p), (2, .int v2), (3, .int v3)] [] _
          obtain ⟨G6, hG6⟩ : ∃ H, H = pj_wl G 45 v3.toInt.toNat ((w5 * z3.toInt64) + (Int64.ofNat 0)) := ⟨_, rfl⟩
          have iG6 : pj_Inv G6 := by rw [hG6]; exact pj_Inv_wl hI rfl
          have kG6 : pj_kpt kc_8 G0 G6 := by rw [hG6]; exact pj_kpt_l hK rfl
          rw [← hG6]
          refine pj_X_of (fun r h => pj_R_to (G6, 78, [(3, .int (v3 + Int32.ofInt (-1))), (5, .long (Int64.ofNat 0)), (4, .int z3), (0, .ref 38), (1, .int p), (2, .int v2)], [], 0, 0) 78 2 (fun _ => rfl) h) ?_
          obtain ⟨z7, hz7⟩ : ∃ z : Int32, z = v3 + Int32.ofInt (-1) := ⟨_, rfl⟩
          rw [← hz7]
          have fz7_0 : z7.toInt = v3.toInt + (Int32.ofInt (-1)).toInt := by rw [hz7]; exact pj_addI (by have := pj_i32 v3; have := pj_i32 (Int32.ofInt (-1)); omega) (by have := pj_i32 v3; have := pj_i32 (Int32.ofInt (-1)); omega)
          refine pj_X_of (fun r h => pj_R_to (G6, 15, [(3, .int z7), (5, .long (Int64.ofNat 0)), (4, .int z3), (0, .ref 38), (1, .int p), (2, .int v2)], [], 0, 0) 15 2 (fun _ => rfl) h) ?_
          exact pj_X_sub [(0, .ref 38), (1, .int p), (2, .int v2), (3, .int z7)] (show List.Nodup [0, 1, 2, 3] by decide) ⟨rfl, rfl, rfl, rfl, trivial⟩ (ih G6 iG6 kG6 v2 z7 (pj_i32 _) ⟨by omega, by omega⟩ (by omega))
        | false =>
          have ub4 := pj_u0_leF b4
          refine pj_X_of (fun r h => pj_R_ifF rfl b4 h) ?_
          refine pj_X_of (fun r h => pj_R_to (G, 40, [(4, .int z3), (0, .ref 38), (1, .int p), (2, .int v2), (3, .int v3)], [.ref 38], 0, 0) 40 2 (fun _ => rfl) h) ?_
          refine pj_X_of (fun r h => pj_T_gr hI rfl rfl rfl h) ?_
          refine pj_X_of (fun r h => pj_R_to (G, 46, [(4, .int z3), (0, .ref 38), (1, .int p), (2, .int v2), (3, .int v3)], [.int (v3 - (Int32.ofInt 1)), .ref 45], 0, 0) 46 4 (fun _ => rfl) h) ?_
          obtain ⟨z8, hz8⟩ : ∃ z : Int32, z = v3 - (Int32.ofInt 1) := ⟨_, rfl⟩
          rw [← hz8]
          have fz8_0 : z8.toInt = v3.toInt - (Int32.ofInt 1).toInt := by rw [hz8]; exact pj_subI (by have := pj_i32 v3; have := pj_i32 (Int32.ofInt 1); omega) (by have := pj_i32 v3; have := pj_i32 (Int32.ofInt 1); omega)
          refine pj_X_ll hI rfl rfl (by omega) (by omega) (fun w9 => ?_)
          show pj_X _ _ G 47 [(4, .int z3), (0, .ref 38), (1, .int p), (2, .int v2), (3, .int v3)] [.long w9] _
          refine pj_X_of (fun r h => pj_R_to (G, 57, [(5, .long (w9 * p.toInt64)), (4, .int z3), (0, .ref 38), (1, .int p), (2, .int v2), (3, .int v3)], [.ref 38], 0, 0) 57 7 (fun _ => rfl) h) ?_
          refine pj_X_of (fun r h => pj_T_gr hI rfl rfl rfl h) ?_
          refine pj_X_of (fun r h => pj_R_to (G, 62, [(5, .long (w9 * p.toInt64)), (4, .int z3), (0, .ref 38), (1, .int p), (2, .int v2), (3, .int v3)], [.ref 38, .int v3, .ref 45], 0, 0) 62 3 (fun _ => rfl) h) ?_
          refine pj_X_of (fun r h => pj_T_gr hI rfl rfl rfl h) ?_
          refine pj_X_of (fun r h => pj_R_to (G, 66, [(5, .long (w9 * p.toInt64)), (4, .int z3), (0, .ref 38), (1, .int p), (2, .int v2), (3, .int v3)], [.int v3, .ref 45, .int v3, .ref 45], 0, 0) 66 2 (fun _ => rfl) h) ?_
          refine pj_X_ll hI rfl rfl (by omega) (by omega) (fun w10 => ?_)
          show pj_X _ _ G 67 [(5, .long (w9 * p.toInt64)), (4, .int z3), (0, .ref 38), (1, .int p), (2, .int v2), (3, .int v3)] [.long w10, .int v3, .ref 45] _
          refine pj_X_of (fun r h => pj_R_to (G, 74, [(5, .long (w9 * p.toInt64)), (4, .int z3), (0, .ref 38), (1, .int p), (2, .int v2), (3, .int v3)], [.long ((w10 * z3.toInt64) + (w9 * p.toInt64)), .int v3, .ref 45], 0, 0) 74 6 (fun _ => rfl) h) ?_
          refine pj_X_of (fun r h => pj_T_ls hI rfl rfl (by omega) (by omega) h) ?_
          show pj_X _ _ (pj_wl G 45 v3.toInt.toNat ((w10 * z3.toInt64) + (w9 * p.toInt64))) 75 [(5, .long (w9 * p.toInt64)), (4, .int z3), (0, .ref 38), (1, .int p), (2, .int v2), (3, .int v3)] [] _
          obtain ⟨G11, hG11⟩ : ∃ H, H = pj_wl G 45 v3.toInt.toNat ((w10 * z3.toInt64) + (w9 * p.toInt64)) := ⟨_, rfl⟩
          have iG11 : pj_Inv G11 := by rw [hG11]; exact pj_Inv_wl hI rfl
          have kG11 : pj_kpt kc_8 G0 G11 := by rw [hG11]; exact pj_kpt_l hK rfl
          rw [← hG11]
          refine pj_X_of (fun r h => pj_R_to (G11, 78, [(3, .int (v3 + Int32.ofInt (-1))), (5, .long (w9 * p.toInt64)), (4, .int z3), (0, .ref 38), (1, .int p), (2, .int v2)], [], 0, 0) 78 2 (fun _ => rfl) h) ?_
          obtain ⟨z12, hz12⟩ : ∃ z : Int32, z = v3 + Int32.ofInt (-1) := ⟨_, rfl⟩
          rw [← hz12]
          have fz12_0 : z12.toInt = v3.toInt + (Int32.ofInt (-1)).toInt := by rw [hz12]; exact pj_addI (by have := pj_i32 v3; have := pj_i32 (Int32.ofInt (-1)); omega) (by have := pj_i32 v3; have := pj_i32 (Int32.ofInt (-1)); omega)
          refine pj_X_of (fun r h => pj_R_to (G11, 15, [(3, .int z12), (5, .long (w9 * p.toInt64)), (4, .int z3), (0, .ref 38), (1, .int p), (2, .int v2)], [], 0, 0) 15 2 (fun _ => rfl) h) ?_
          exact pj_X_sub [(0, .ref 38), (1, .int p), (2, .int v2), (3, .int z12)] (show List.Nodup [0, 1, 2, 3] by decide) ⟨rfl, rfl, rfl, rfl, trivial⟩ (ih G11 iG11 kG11 v2 z12 (pj_i32 _) ⟨by omega, by omega⟩ (by omega))
      | false =>
        have ub2 := pj_u_neF b2
        refine pj_X_of (fun r h => pj_R_icF rfl b2 h) ?_
        refine pj_X_of (fun r h => pj_R_to (G, 36, [(4, .int ((Int8.ofInt 10).toInt32)), (0, .ref 38), (1, .int p), (2, .int v2), (3, .int v3)], [.int v3], 0, 0) 36 5 (fun _ => rfl) h) ?_
        cases b13 : pj_c1 .le v3 0 with
        | true =>
          have ub13 := pj_u0_leT b13
          refine pj_X_of (fun r h => pj_R_ifT 53 rfl rfl b13 h) ?_
          refine pj_X_of (fun r h => pj_R_to (G, 57, [(5, .long (Int64.ofNat 0)), (4, .int ((Int8.ofInt 10).toInt32)), (0, .ref 38), (1, .int p), (2, .int v2), (3, .int v3)], [.ref 38], 0, 0) 57 4 (fun _ => rfl) h) ?_
          refine pj_X_of (fun r h => pj_T_gr hI rfl rfl rfl h) ?_
          refine pj_X_of (fun r h => pj_R_to (G, 62, [(5, .long (Int64.ofNat 0)), (4, .int ((Int8.ofInt 10).toInt32)), (0, .ref 38), (1, .int p), (2, .int v2), (3, .int v3)], [.ref 38, .int v3, .ref 45], 0, 0) 62 3 (fun _ => rfl) h) ?_
          refine pj_X_of (fun r h => pj_T_gr hI rfl rfl rfl h) ?_
          refine pj_X_of (fun r h => pj_R_to (G, 66, [(5, .long (Int64.ofNat 0)), (4, .int ((Int8.ofInt 10).toInt32)), (0, .ref 38), (1, .int p), (2, .int v2), (3, .int v3)], [.int v3, .ref 45, .int v3, .ref 45], 0, 0) 66 2 (fun _ => rfl) h) ?_
          refine pj_X_ll hI rfl rfl (by omega) (by omega) (fun w14 => ?_)
          show pj_X _ _ G 67 [(5, .long (Int64.ofNat 0)), (4, .int ((Int8.ofInt 10).toInt32)), (0, .ref 38), (1, .int p), (2, .int v2), (3, .int v3)] [.long w14, .int v3, .ref 45] _
          refine pj_X_of (fun r h => pj_R_to (G, 74, [(5, .long (Int64.ofNat 0)), (4, .int ((Int8.ofInt 10).toInt32)), (0, .ref 38), (1, .int p), (2, .int v2), (3, .int v3)], [.long ((w14 * (((Int8.ofInt 10).toInt32).toInt64)) + (Int64.ofNat 0)), .int v3, .ref 45], 0, 0) 74 6 (fun _ => rfl) h) ?_
          refine pj_X_of (fun r h => pj_T_ls hI rfl rfl (by omega) (by omega) h) ?_
          show pj_X _ _ (pj_wl G 45 v3.toInt.toNat ((w14 * (((Int8.ofInt 10).toInt32).toInt64)) + (Int64.ofNat 0))) 75 [(5, .long (Int64.ofNat 0)), (4, .int ((Int8.ofInt 10).toInt32)), (0, .ref 38), (1, .int p), (2, .int v2), (3, .int v3)] [] _
          obtain ⟨G15, hG15⟩ : ∃ H, H = pj_wl G 45 v3.toInt.toNat ((w14 * (((Int8.ofInt 10).toInt32).toInt64)) + (Int64.ofNat 0)) := ⟨_, rfl⟩
          have iG15 : pj_Inv G15 := by rw [hG15]; exact pj_Inv_wl hI rfl
          have kG15 : pj_kpt kc_8 G0 G15 := by rw [hG15]; exact pj_kpt_l hK rfl
          rw [← hG15]
          refine pj_X_of (fun r h => pj_R_to (G15, 78, [(3, .int (v3 + Int32.ofInt (-1))), (5, .long (Int64.ofNat 0)), (4, .int ((Int8.ofInt 10).toInt32)), (0, .ref 38), (1, .int p), (2, .int v2)], [], 0, 0) 78 2 (fun _ => rfl) h) ?_
          obtain ⟨z16, hz16⟩ : ∃ z : Int32, z = v3 + Int32.ofInt (-1) := ⟨_, rfl⟩
          rw [← hz16]
          have fz16_0 : z16.toInt = v3.toInt + (Int32.ofInt (-1)).toInt := by rw [hz16]; exact pj_addI (by have := pj_i32 v3; have := pj_i32 (Int32.ofInt (-1)); omega) (by have := pj_i32 v3; have := pj_i32 (Int32.ofInt (-1)); omega)
          refine pj_X_of (fun r h => pj_R_to (G15, 15, [(3, .int z16), (5, .long (Int64.ofNat 0)), (4, .int ((Int8.ofInt 10).toInt32)), (0, .ref 38), (1, .int p), (2, .int v2)], [], 0, 0) 15 2 (fun _ => rfl) h) ?_
          exact pj_X_sub [(0, .ref 38), (1, .int p), (2, .int v2), (3, .int z16)] (show List.Nodup [0, 1, 2, 3] by decide) ⟨rfl, rfl, rfl, rfl, trivial⟩ (ih G15 iG15 kG15 v2 z16 (pj_i32 _) ⟨by omega, by omega⟩ (by omega))
        | false =>
          have ub13 := pj_u0_leF b13
          refine pj_X_of (fun r h => pj_R_ifF rfl b13 h) ?_
          refine pj_X_of (fun r h => pj_R_to (G, 40, [(4, .int ((Int8.ofInt 10).toInt32)), (0, .ref 38), (1, .int p), (2, .int v2), (3, .int v3)], [.ref 38], 0, 0) 40 2 (fun _ => rfl) h) ?_
          refine pj_X_of (fun r h => pj_T_gr hI rfl rfl rfl h) ?_
          refine pj_X_of (fun r h => pj_R_to (G, 46, [(4, .int ((Int8.ofInt 10).toInt32)), (0, .ref 38), (1, .int p), (2, .int v2), (3, .int v3)], [.int (v3 - (Int32.ofInt 1)), .ref 45], 0, 0) 46 4 (fun _ => rfl) h) ?_
          obtain ⟨z17, hz17⟩ : ∃ z : Int32, z = v3 - (Int32.ofInt 1) := ⟨_, rfl⟩
          rw [← hz17]
          have fz17_0 : z17.toInt = v3.toInt - (Int32.ofInt 1).toInt := by rw [hz17]; exact pj_subI (by have := pj_i32 v3; have := pj_i32 (Int32.ofInt 1); omega) (by have := pj_i32 v3; have := pj_i32 (Int32.ofInt 1); omega)
          refine pj_X_ll hI rfl rfl (by omega) (by omega) (fun w18 => ?_)
          show pj_X _ _ G 47 [(4, .int ((Int8.ofInt 10).toInt32)), (0, .ref 38), (1, .int p), (2, .int v2), (3, .int v3)] [.long w18] _
          refine pj_X_of (fun r h => pj_R_to (G, 57, [(5, .long (w18 * p.toInt64)), (4, .int ((Int8.ofInt 10).toInt32)), (0, .ref 38), (1, .int p), (2, .int v2), (3, .int v3)], [.ref 38], 0, 0) 57 7 (fun _ => rfl) h) ?_
          refine pj_X_of (fun r h => pj_T_gr hI rfl rfl rfl h) ?_
          refine pj_X_of (fun r h => pj_R_to (G, 62, [(5, .long (w18 * p.toInt64)), (4, .int ((Int8.ofInt 10).toInt32)), (0, .ref 38), (1, .int p), (2, .int v2), (3, .int v3)], [.ref 38, .int v3, .ref 45], 0, 0) 62 3 (fun _ => rfl) h) ?_
          refine pj_X_of (fun r h => pj_T_gr hI rfl rfl rfl h) ?_
          refine pj_X_of (fun r h => pj_R_to (G, 66, [(5, .long (w18 * p.toInt64)), (4, .int ((Int8.ofInt 10).toInt32)), (0, .ref 38), (1, .int p), (2, .int v2), (3, .int v3)], [.int v3, .ref 45, .int v3, .ref 45], 0, 0) 66 2 (fun _ => rfl) h) ?_
          refine pj_X_ll hI rfl rfl (by omega) (by omega) (fun w19 => ?_)
          show pj_X _ _ G 67 [(5, .long (w18 * p.toInt64)), (4, .int ((Int8.ofInt 10).toInt32)), (0, .ref 38), (1, .int p), (2, .int v2), (3, .int v3)] [.long w19, .int v3, .ref 45] _
          refine pj_X_of (fun r h => pj_R_to (G, 74, [(5, .long (w18 * p.toInt64)), (4, .int ((Int8.ofInt 10).toInt32)), (0, .ref 38), (1, .int p), (2, .int v2), (3, .int v3)], [.long ((w19 * (((Int8.ofInt 10).toInt32).toInt64)) + (w18 * p.toInt64)), .int v3, .ref 45], 0, 0) 74 6 (fun _ => rfl) h) ?_
          refine pj_X_of (fun r h => pj_T_ls hI rfl rfl (by omega) (by omega) h) ?_
          show pj_X _ _ (pj_wl G 45 v3.toInt.toNat ((w19 * (((Int8.ofInt 10).toInt32).toInt64)) + (w18 * p.toInt64))) 75 [(5, .long (w18 * p.toInt64)), (4, .int ((Int8.ofInt 10).toInt32)), (0, .ref 38), (1, .int p), (2, .int v2), (3, .int v3)] [] _
          obtain ⟨G20, hG20⟩ : ∃ H, H = pj_wl G 45 v3.toInt.toNat ((w19 * (((Int8.ofInt 10).toInt32).toInt64)) + (w18 * p.toInt64)) := ⟨_, rfl⟩
          have iG20 : pj_Inv G20 := by rw [hG20]; exact pj_Inv_wl hI rfl
          have kG20 : pj_kpt kc_8 G0 G20 := by rw [hG20]; exact pj_kpt_l hK rfl
          rw [← hG20]
          refine pj_X_of (fun r h => pj_R_to (G20, 78, [(3, .int (v3 + Int32.ofInt (-1))), (5, .long (w18 * p.toInt64)), (4, .int ((Int8.ofInt 10).toInt32)), (0, .ref 38), (1, .int p), (2, .int v2)], [], 0, 0) 78 2 (fun _ => rfl) h) ?_
          obtain ⟨z21, hz21⟩ : ∃ z : Int32, z = v3 + Int32.ofInt (-1) := ⟨_, rfl⟩
          rw [← hz21]
          have fz21_0 : z21.toInt = v3.toInt + (Int32.ofInt (-1)).toInt := by rw [hz21]; exact pj_addI (by have := pj_i32 v3; have := pj_i32 (Int32.ofInt (-1)); omega) (by have := pj_i32 v3; have := pj_i32 (Int32.ofInt (-1)); omega)
          refine pj_X_of (fun r h => pj_R_to (G20, 15, [(3, .int z21), (5, .long (w18 * p.toInt64)), (4, .int ((Int8.ofInt 10).toInt32)), (0, .ref 38), (1, .int p), (2, .int v2)], [], 0, 0) 15 2 (fun _ => rfl) h) ?_
          exact pj_X_sub [(0, .ref 38), (1, .int p), (2, .int v2), (3, .int z21)] (show List.Nodup [0, 1, 2, 3] by decide) ⟨rfl, rfl, rfl, rfl, trivial⟩ (ih G20 iG20 kG20 v2 z21 (pj_i32 _) ⟨by omega, by omega⟩ (by omega))
theorem ct_8 (G0 : pj_G) (hI : pj_Inv G0) (p : Int32) : pj_Y 1 8 [.ref 38, .int p] G0 (fun v G' => v = none ∧ pj_Inv G' ∧ pj_kpt kc_8 G0 G') := by
  have c0_ : ((Int8.ofInt 10).toInt32).toInt = 10 := by decide
  have c1_ : (Int32.ofInt (-1)).toInt = -1 := by decide
  have c2_ : (Int32.ofInt 1).toInt = 1 := by decide
  refine pj_Y_X (M := pj_m8) rfl rfl (Nat.le_of_ble_eq_true rfl) ?_
  have hK : pj_kpt kc_8 G0 G0 := pj_kpt_r _ _
  show pj_X _ _ G0 0 [(0, .ref 38), (1, .int p)] [] _
  refine pj_X_of (fun r h => pj_R_to (G0, 1, [(0, .ref 38), (1, .int p)], [.ref 38], 0, 0) 1 2 (fun _ => rfl) h) ?_
  refine pj_X_of (fun r h => pj_T_gr hI rfl rfl rfl h) ?_
  refine pj_X_gm hI rfl rfl (fun q22 => ?_) (fun q22 => ?_)
  · refine pj_X_of (fun r h => pj_T_gi hI rfl rfl h) ?_
    show pj_X _ _ G0 10 [(0, .ref 38), (1, .int p)] [.int (pj_fi G0 7 1)] _
    obtain ⟨y23, hy23⟩ : ∃ z : Int32, z = pj_fi G0 7 1 := ⟨_, rfl⟩
    rw [← hy23]
    have ey23 : (pj_fi G0 7 1).toInt = y23.toInt := by rw [hy23]
    have ry23 : (0 : Int) ≤ y23.toInt ∧ y23.toInt ≤ 10 := by rw [hy23]; exact hI.2.1 7 1 (0, 10) rfl
    refine pj_X_of (fun r h => pj_R_to (G0, 12, [(0, .ref 38), (1, .int p)], [.int (y23 - (Int32.ofInt 1))], 0, 0) 12 3 (fun _ => rfl) h) ?_
    obtain ⟨z24, hz24⟩ : ∃ z : Int32, z = y23 - (Int32.ofInt 1) := ⟨_, rfl⟩
    rw [← hz24]
    have fz24_0 : z24.toInt = y23.toInt - (Int32.ofInt 1).toInt := by rw [hz24]; exact pj_subI (by have := pj_i32 y23; have := pj_i32 (Int32.ofInt 1); omega) (by have := pj_i32 y23; have := pj_i32 (Int32.ofInt 1); omega)
    refine pj_X_of (fun r h => pj_R_to (G0, 15, [(3, .int z24), (2, .int z24), (0, .ref 38), (1, .int p)], [], 0, 0) 15 4 (fun _ => rfl) h) ?_
    exact pj_X_sub [(0, .ref 38), (1, .int p), (2, .int z24), (3, .int z24)] (show List.Nodup [0, 1, 2, 3] by decide) ⟨rfl, rfl, rfl, rfl, trivial⟩ ((lp_ct_8 G0 hI p  13) G0 hI hK z24 z24 (pj_i32 _) ⟨by omega, by omega⟩ (by omega))
  · refine pj_X_of (fun r h => pj_T_gi hI rfl rfl h) ?_
    show pj_X _ _ G0 10 [(0, .ref 38), (1, .int p)] [.int (pj_fi G0 14 1)] _
    obtain ⟨y25, hy25⟩ : ∃ z : Int32, z = pj_fi G0 14 1 := ⟨_, rfl⟩
    rw [← hy25]
    have ey25 : (pj_fi G0 14 1).toInt = y25.toInt := by rw [hy25]
    have ry25 : (0 : Int) ≤ y25.toInt ∧ y25.toInt ≤ 10 := by rw [hy25]; exact hI.2.1 14 1 (0, 10) rfl
    refine pj_X_of (fun r h => pj_R_to (G0, 12, [(0, .ref 38), (1, .int p)], [.int (y25 - (Int32.ofInt 1))], 0, 0) 12 3 (fun _ => rfl) h) ?_
    obtain ⟨z26, hz26⟩ : ∃ z : Int32, z = y25 - (Int32.ofInt 1) := ⟨_, rfl⟩
    rw [← hz26]
    have fz26_0 : z26.toInt = y25.toInt - (Int32.ofInt 1).toInt := by rw [hz26]; exact pj_subI (by have := pj_i32 y25; have := pj_i32 (Int32.ofInt 1); omega) (by have := pj_i32 y25; have := pj_i32 (Int32.ofInt 1); omega)
    refine pj_X_of (fun r h => pj_R_to (G0, 15, [(3, .int z26), (2, .int z26), (0, .ref 38), (1, .int p)], [], 0, 0) 15 4 (fun _ => rfl) h) ?_
    exact pj_X_sub [(0, .ref 38), (1, .int p), (2, .int z26), (3, .int z26)] (show List.Nodup [0, 1, 2, 3] by decide) ⟨rfl, rfl, rfl, rfl, trivial⟩ ((lp_ct_8 G0 hI p  13) G0 hI hK z26 z26 (pj_i32 _) ⟨by omega, by omega⟩ (by omega))
def kc_7 : pj_KT := ([(38, 3)], [38, 45], [])
theorem lp_ct_7 (G0 : pj_G) (hI0 : pj_Inv G0) (c : Int32) (p : Int32) (n : Int32) (rc : (0 : Int) ≤ c.toInt ∧ c.toInt ≤ 9) (rn : (0 : Int) ≤ n.toInt ∧ n.toInt ≤ 12) : ∀ mn : Nat, (∀ (G : pj_G) (hI : pj_Inv G) (hK : pj_kpt kc_7 G0 G) (v4 : Int32), ((0 : Int) ≤ v4.toInt ∧ v4.toInt ≤ 10) → 40 - v4.toInt < (mn : Int) → pj_X 1 pj_m7 G 3 [(0, .ref 38), (1, .int c), (2, .int p), (3, .int n), (4, .int v4)] [] (fun v G' => v = none ∧ pj_Inv G' ∧ pj_kpt kc_7 G0 G')) ∧ (∀ (G : pj_G) (hI : pj_Inv G) (hK : pj_kpt kc_7 G0 G) (v4 : Int32), ((0 : Int) ≤ v4.toInt ∧ v4.toInt ≤ 12) → 12 - v4.toInt < (mn : Int) → pj_X 1 pj_m7 G 50 [(0, .ref 38), (1, .int c), (2, .int p), (3, .int n), (4, .int v4)] [] (fun v G' => v = none ∧ pj_Inv G' ∧ pj_kpt kc_7 G0 G')) := by
  have c0_ : ((Int8.ofInt 10).toInt32).toInt = 10 := by decide
  have c1_ : (Int32.ofInt 0).toInt = 0 := by decide
  have c2_ : (Int32.ofInt 1).toInt = 1 := by decide
  intro mn
  induction mn with
  | zero =>
    refine ⟨?_, ?_⟩
    · intro G hI hK v4 rv4 hm
      exfalso
      omega
    · intro G hI hK v4 rv4 hm
      exfalso
      omega
  | succ mn ih =>
    refine ⟨?_, ?_⟩
    · intro G hI hK v4 rv4 hm
      refine pj_X_of (fun r h => pj_R_to (G, 7, [(0, .ref 38), (1, .int c), (2, .int p), (3, .int n), (4, .int v4)], [.int ((Int8.ofInt 10).toInt32), .int v4], 0, 0) 7 3 (fun _ => rfl) h) ?_
      cases b1 : pj_c1 .ge v4 ((Int8.ofInt 10).toInt32) with
      | true =>
        have ub1 := pj_u_geT b1
        refine pj_X_of (fun r h => pj_R_icT 24 rfl rfl b1 h) ?_
        refine pj_X_of (fun r h => pj_R_to (G, 25, [(0, .ref 38), (1, .int c), (2, .int p), (3, .int n), (4, .int v4)], [.ref 38], 0, 0) 25 2 (fun _ => rfl) h) ?_
        refine pj_X_of (fun r h => pj_T_gr hI rfl rfl rfl h) ?_
        refine pj_X_of (fun r h => pj_R_to (G, 29, [(0, .ref 38), (1, .int c), (2, .int p), (3, .int n), (4, .int v4)], [.ref 38, .ref 45], 0, 0) 29 2 (fun _ => rfl) h) ?_
        refine pj_X_of (fun r h => pj_T_gr hI rfl rfl rfl h) ?_
        refine pj_X_gm hI rfl rfl (fun q2 => ?_) (fun q2 => ?_)
        · refine pj_X_of (fun r h => pj_T_gr hI rfl rfl rfl h) ?_
          refine pj_X_of (fun r h => pj_R_to (G, 39, [(0, .ref 38), (1, .int c), (2, .int p), (3, .int n), (4, .int v4)], [.int c, .ref 12, .ref 45], 0, 0) 39 2 (fun _ => rfl) h) ?_
          refine pj_X_of (fun r h => pj_T_il hI rfl rfl (by omega) (by omega) h) ?_
          show pj_X _ _ G 40 [(0, .ref 38), (1, .int c), (2, .int p), (3, .int n), (4, .int v4)] [.int (pj_ai G 12 c.toInt.toNat), .ref 45] _
          obtain ⟨z3, hz3⟩ : ∃ z : Int32, z = pj_ai G 12 c.toInt.toNat := ⟨_, rfl⟩
          rw [← hz3]
          have ez3 : (pj_ai G 12 c.toInt.toNat).toInt = z3.toInt := by rw [hz3]
          have fz3_0 : (0 : Int) ≤ z3.toInt ∧ z3.toInt ≤ 9 ∧ (z3.toInt ≤ 0 ∨ 0 ≤ z3.toInt) := by rw [hz3]; exact hI.2.2.1 12 (10, 0, 9, 0, 0) rfl _ (by show _ < 10; omega)
          refine pj_X_of (fun r h => pj_R_to (G, 41, [(0, .ref 38), (1, .int c), (2, .int p), (3, .int n), (4, .int v4)], [.long (Int64.ofNat 1), .int z3, .ref 45], 0, 0) 41 2 (fun _ => rfl) h) ?_
          refine pj_X_of (fun r h => pj_T_ls hI rfl rfl (by omega) (by omega) h) ?_
          show pj_X _ _ (pj_wl G 45 z3.toInt.toNat (Int64.ofNat 1)) 42 [(0, .ref 38), (1, .int c), (2, .int p), (3, .int n), (4, .int v4)] [] _
          obtain ⟨G4, hG4⟩ : ∃ H, H = pj_wl G 45 z3.toInt.toNat (Int64.ofNat 1) := ⟨_, rfl⟩
          have iG4 : pj_Inv G4 := by rw [hG4]; exact pj_Inv_wl hI rfl
          have kG4 : pj_kpt kc_7 G0 G4 := by rw [hG4]; exact pj_kpt_l hK rfl
          rw [← hG4]
          refine pj_X_of (fun r h => pj_R_to (G4, 44, [(0, .ref 38), (1, .int c), (2, .int p), (3, .int n), (4, .int v4)], [.long (Int64.ofNat 1), .ref 38], 0, 0) 44 3 (fun _ => rfl) h) ?_
          refine pj_X_of (fun r h => pj_T_pf iG4 rfl rfl rfl h) ?_
          show pj_X _ _ (pj_wv G4 38 3 (.long (Int64.ofNat 1))) 47 [(0, .ref 38), (1, .int c), (2, .int p), (3, .int n), (4, .int v4)] [] _
          obtain ⟨G5, hG5⟩ : ∃ H, H = pj_wv G4 38 3 (.long (Int64.ofNat 1)) := ⟨_, rfl⟩
          have iG5 : pj_Inv G5 := by rw [hG5]; exact pj_Inv_wv iG4 (ci := 1) rfl rfl rfl
          have kG5 : pj_kpt kc_7 G0 G5 := by rw [hG5]; exact pj_kpt_v kG4 rfl
          rw [← hG5]
          refine pj_X_of (fun r h => pj_R_to (G5, 50, [(4, .int (Int32.ofInt 0)), (0, .ref 38), (1, .int c), (2, .int p), (3, .int n)], [], 0, 0) 50 3 (fun _ => rfl) h) ?_
          exact pj_X_sub [(0, .ref 38), (1, .int c), (2, .int p), (3, .int n), (4, .int (Int32.ofInt 0))] (show List.Nodup [0, 1, 2, 3, 4] by decide) ⟨rfl, rfl, rfl, rfl, rfl, trivial⟩ (ih.2 G5 iG5 kG5 (Int32.ofInt 0) ⟨by omega, by omega⟩ (by omega))
        · refine pj_X_of (fun r h => pj_T_gr hI rfl rfl rfl h) ?_
          refine pj_X_of (fun r h => pj_R_to (G, 39, [(0, .ref 38), (1, .int c), (2, .int p), (3, .int n), (4, .int v4)], [.int c, .ref 19, .ref 45], 0, 0) 39 2 (fun _ => rfl) h) ?_
          refine pj_X_of (fun r h => pj_T_il hI rfl rfl (by omega) (by omega) h) ?_
          show pj_X _ _ G 40 [(0, .ref 38), (1, .int c), (2, .int p), (3, .int n), (4, .int v4)] [.int (pj_ai G 19 c.toInt.toNat), .ref 45] _
          obtain ⟨z6, hz6⟩ : ∃ z : Int32, z = pj_ai G 19 c.toInt.toNat := ⟨_, rfl⟩
          rw [← hz6]
          have ez6 : (pj_ai G 19 c.toInt.toNat).toInt = z6.toInt := by rw [hz6]
          have fz6_0 : (0 : Int) ≤ z6.toInt ∧ z6.toInt ≤ 9 ∧ (z6.toInt ≤ 0 ∨ 0 ≤ z6.toInt) := by rw [hz6]; exact hI.2.2.1 19 (10, 0, 9, 0, 0) rfl _ (by show _ < 10; omega)
          refine pj_X_of (fun r h => pj_R_to (G, 41, [(0, .ref 38), (1, .int c), (2, .int p), (3, .int n), (4, .int v4)], [.long (Int64.ofNat 1), .int z6, .ref 45], 0, 0) 41 2 (fun _ => rfl) h) ?_
          refine pj_X_of (fun r h => pj_T_ls hI rfl rfl (by omega) (by omega) h) ?_
          show pj_X _ _ (pj_wl G 45 z6.toInt.toNat (Int64.ofNat 1)) 42 [(0, .ref 38), (1, .int c), (2, .int p), (3, .int n), (4, .int v4)] [] _
          obtain ⟨G7, hG7⟩ : ∃ H, H = pj_wl G 45 z6.toInt.toNat (Int64.ofNat 1) := ⟨_, rfl⟩
          have iG7 : pj_Inv G7 := by rw [hG7]; exact pj_Inv_wl hI rfl
          have kG7 : pj_kpt kc_7 G0 G7 := by rw [hG7]; exact pj_kpt_l hK rfl
          rw [← hG7]
          refine pj_X_of (fun r h => pj_R_to (G7, 44, [(0, .ref 38), (1, .int c), (2, .int p), (3, .int n), (4, .int v4)], [.long (Int64.ofNat 1), .ref 38], 0, 0) 44 3 (fun _ => rfl) h) ?_
          refine pj_X_of (fun r h => pj_T_pf iG7 rfl rfl rfl h) ?_
          show pj_X _ _ (pj_wv G7 38 3 (.long (Int64.ofNat 1))) 47 [(0, .ref 38), (1, .int c), (2, .int p), (3, .int n), (4, .int v4)] [] _
          obtain ⟨G8, hG8⟩ : ∃ H, H = pj_wv G7 38 3 (.long (Int64.ofNat 1)) := ⟨_, rfl⟩
          have iG8 : pj_Inv G8 := by rw [hG8]; exact pj_Inv_wv iG7 (ci := 1) rfl rfl rfl
          have kG8 : pj_kpt kc_7 G0 G8 := by rw [hG8]; exact pj_kpt_v kG7 rfl
          rw [← hG8]
          refine pj_X_of (fun r h => pj_R_to (G8, 50, [(4, .int (Int32.ofInt 0)), (0, .ref 38), (1, .int c), (2, .int p), (3, .int n)], [], 0, 0) 50 3 (fun _ => rfl) h) ?_
          exact pj_X_sub [(0, .ref 38), (1, .int c), (2, .int p), (3, .int n), (4, .int (Int32.ofInt 0))] (show List.Nodup [0, 1, 2, 3, 4] by decide) ⟨rfl, rfl, rfl, rfl, rfl, trivial⟩ (ih.2 G8 iG8 kG8 (Int32.ofInt 0) ⟨by omega, by omega⟩ (by omega))
      | false =>
        have ub1 := pj_u_geF b1
        refine pj_X_of (fun r h => pj_R_icF rfl b1 h) ?_
        refine pj_X_of (fun r h => pj_R_to (G, 11, [(0, .ref 38), (1, .int c), (2, .int p), (3, .int n), (4, .int v4)], [.ref 38], 0, 0) 11 2 (fun _ => rfl) h) ?_
        refine pj_X_of (fun r h => pj_T_gr hI rfl rfl rfl h) ?_
        refine pj_X_of (fun r h => pj_R_to (G, 17, [(0, .ref 38), (1, .int c), (2, .int p), (3, .int n), (4, .int v4)], [.long (Int64.ofNat 0), .int v4, .ref 45], 0, 0) 17 3 (fun _ => rfl) h) ?_
        refine pj_X_of (fun r h => pj_T_ls hI rfl rfl (by omega) (by omega) h) ?_
        show pj_X _ _ (pj_wl G 45 v4.toInt.toNat (Int64.ofNat 0)) 18 [(0, .ref 38), (1, .int c), (2, .int p), (3, .int n), (4, .int v4)] [] _
        obtain ⟨G9, hG9⟩ : ∃ H, H = pj_wl G 45 v4.toInt.toNat (Int64.ofNat 0) := ⟨_, rfl⟩
        have iG9 : pj_Inv G9 := by rw [hG9]; exact pj_Inv_wl hI rfl
        have kG9 : pj_kpt kc_7 G0 G9 := by rw [hG9]; exact pj_kpt_l hK rfl
        rw [← hG9]
        refine pj_X_of (fun r h => pj_R_to (G9, 21, [(4, .int (v4 + Int32.ofInt 1)), (0, .ref 38), (1, .int c), (2, .int p), (3, .int n)], [], 0, 0) 21 2 (fun _ => rfl) h) ?_
        obtain ⟨z10, hz10⟩ : ∃ z : Int32, z = v4 + Int32.ofInt 1 := ⟨_, rfl⟩
        rw [← hz10]
        have fz10_0 : z10.toInt = v4.toInt + (Int32.ofInt 1).toInt := by rw [hz10]; exact pj_addI (by have := pj_i32 v4; have := pj_i32 (Int32.ofInt 1); omega) (by have := pj_i32 v4; have := pj_i32 (Int32.ofInt 1); omega)
        refine pj_X_of (fun r h => pj_R_to (G9, 3, [(4, .int z10), (0, .ref 38), (1, .int c), (2, .int p), (3, .int n)], [], 0, 0) 3 2 (fun _ => rfl) h) ?_
        exact pj_X_sub [(0, .ref 38), (1, .int c), (2, .int p), (3, .int n), (4, .int z10)] (show List.Nodup [0, 1, 2, 3, 4] by decide) ⟨rfl, rfl, rfl, rfl, rfl, trivial⟩ (ih.1 G9 iG9 kG9 z10 ⟨by omega, by omega⟩ (by omega))
    · intro G hI hK v4 rv4 hm
      refine pj_X_of (fun r h => pj_R_to (G, 53, [(0, .ref 38), (1, .int c), (2, .int p), (3, .int n), (4, .int v4)], [.int n, .int v4], 0, 0) 53 3 (fun _ => rfl) h) ?_
      cases b11 : pj_c1 .ge v4 n with
      | true =>
        have ub11 := pj_u_geT b11
        refine pj_X_of (fun r h => pj_R_icT 79 rfl rfl b11 h) ?_
        exact pj_X_rt rfl rfl ⟨rfl, hI, hK⟩
      | false =>
        have ub11 := pj_u_geF b11
        refine pj_X_of (fun r h => pj_R_icF rfl b11 h) ?_
        refine pj_X_of (fun r h => pj_R_to (G, 58, [(0, .ref 38), (1, .int c), (2, .int p), (3, .int n), (4, .int v4)], [.int p, .ref 38], 0, 0) 58 3 (fun _ => rfl) h) ?_
        refine pj_X_ca (vs := [.ref 38, .int p]) rfl (fun _ => rfl) ⟨Nat.le_of_ble_eq_true rfl, Nat.le_of_ble_eq_true rfl, pj_T_rcv hI rfl⟩ ⟨rfl, rfl⟩ (pj_Y_up (by decide) (ct_8 G hI p)) ?_
        rintro _ G13 ⟨rfl, iG13, jG13⟩
        have kG13 : pj_kpt kc_7 G0 G13 := pj_kpt_t hK (pj_kpt_s jG13 rfl)
        show pj_X _ _ G13 61 [(0, .ref 38), (1, .int c), (2, .int p), (3, .int n), (4, .int v4)] [] _
        refine pj_X_of (fun r h => pj_R_to (G13, 63, [(0, .ref 38), (1, .int c), (2, .int p), (3, .int n), (4, .int v4)], [.ref 38, .ref 38], 0, 0) 63 3 (fun _ => rfl) h) ?_
        refine pj_X_gl iG13 rfl rfl (fun w14 => ?_)
        show pj_X _ _ G13 66 [(0, .ref 38), (1, .int c), (2, .int p), (3, .int n), (4, .int v4)] [.long w14, .ref 38] _
        refine pj_X_of (fun r h => pj_R_to (G13, 70, [(0, .ref 38), (1, .int c), (2, .int p), (3, .int n), (4, .int v4)], [.long (w14 * (Int64.ofInt 10)), .ref 38], 0, 0) 70 3 (fun _ => rfl) h) ?_
        refine pj_X_of (fun r h => pj_T_pf iG13 rfl rfl rfl h) ?_
        show pj_X _ _ (pj_wv G13 38 3 (.long (w14 * (Int64.ofInt 10)))) 73 [(0, .ref 38), (1, .int c), (2, .int p), (3, .int n), (4, .int v4)] [] _
        obtain ⟨G15, hG15⟩ : ∃ H, H = pj_wv G13 38 3 (.long (w14 * (Int64.ofInt 10))) := ⟨_, rfl⟩
        have iG15 : pj_Inv G15 := by rw [hG15]; exact pj_Inv_wv iG13 (ci := 1) rfl rfl rfl
        have kG15 : pj_kpt kc_7 G0 G15 := by rw [hG15]; exact pj_kpt_v kG13 rfl
        rw [← hG15]
        refine pj_X_of (fun r h => pj_R_to (G15, 76, [(4, .int (v4 + Int32.ofInt 1)), (0, .ref 38), (1, .int c), (2, .int p), (3, .int n)], [], 0, 0) 76 2 (fun _ => rfl) h) ?_
        obtain ⟨z16, hz16⟩ : ∃ z : Int32, z = v4 + Int32.ofInt 1 := ⟨_, rfl⟩
        rw [← hz16]
        have fz16_0 : z16.toInt = v4.toInt + (Int32.ofInt 1).toInt := by rw [hz16]; exact pj_addI (by have := pj_i32 v4; have := pj_i32 (Int32.ofInt 1); omega) (by have := pj_i32 v4; have := pj_i32 (Int32.ofInt 1); omega)
        refine pj_X_of (fun r h => pj_R_to (G15, 50, [(4, .int z16), (0, .ref 38), (1, .int c), (2, .int p), (3, .int n)], [], 0, 0) 50 2 (fun _ => rfl) h) ?_
        exact pj_X_sub [(0, .ref 38), (1, .int c), (2, .int p), (3, .int n), (4, .int z16)] (show List.Nodup [0, 1, 2, 3, 4] by decide) ⟨rfl, rfl, rfl, rfl, rfl, trivial⟩ (ih.2 G15 iG15 kG15 z16 ⟨by omega, by omega⟩ (by omega))
theorem ct_7 (G0 : pj_G) (hI : pj_Inv G0) (c : Int32) (p : Int32) (n : Int32) (rc : (0 : Int) ≤ c.toInt ∧ c.toInt ≤ 9) (rn : (0 : Int) ≤ n.toInt ∧ n.toInt ≤ 12) : pj_Y 2 7 [.ref 38, .int c, .int p, .int n] G0 (fun v G' => v = none ∧ pj_Inv G' ∧ pj_kpt kc_7 G0 G') := by
  have c0_ : ((Int8.ofInt 10).toInt32).toInt = 10 := by decide
  have c1_ : (Int32.ofInt 0).toInt = 0 := by decide
  have c2_ : (Int32.ofInt 1).toInt = 1 := by decide
  refine pj_Y_X (M := pj_m7) rfl rfl (Nat.le_of_ble_eq_true rfl) ?_
  have hK : pj_kpt kc_7 G0 G0 := pj_kpt_r _ _
  show pj_X _ _ G0 0 [(0, .ref 38), (1, .int c), (2, .int p), (3, .int n)] [] _
  refine pj_X_of (fun r h => pj_R_to (G0, 3, [(4, .int (Int32.ofInt 0)), (0, .ref 38), (1, .int c), (2, .int p), (3, .int n)], [], 0, 0) 3 3 (fun _ => rfl) h) ?_
  exact pj_X_sub [(0, .ref 38), (1, .int c), (2, .int p), (3, .int n), (4, .int (Int32.ofInt 0))] (show List.Nodup [0, 1, 2, 3, 4] by decide) ⟨rfl, rfl, rfl, rfl, rfl, trivial⟩ ((lp_ct_7 G0 hI c p n rc rn 51).1 G0 hI hK (Int32.ofInt 0) ⟨by omega, by omega⟩ (by omega))
theorem lp_ct_9 (G0 : pj_G) (hI : pj_Inv G0) : ∀ mn : Nat, (∀ (v1 : Int32) (v2 : Int32), ((0 : Int) ≤ v1.toInt ∧ v1.toInt ≤ 9) → ((1 : Int) ≤ v2.toInt ∧ v2.toInt ≤ 10) → 10 - v2.toInt < (mn : Int) → pj_X 0 pj_m9 G0 4 [(0, .ref 38), (1, .int v1), (2, .int v2)] [] (fun v G' => ∃ y : Int32, v = some (.int y) ∧ G0 = G' ∧ ((0 : Int) ≤ y.toInt ∧ y.toInt ≤ 9))) := by
  have c0_ : (Int32.ofInt 0).toInt = 0 := by decide
  have c1_ : (Int32.ofInt 1).toInt = 1 := by decide
  have hK : pj_kpt ([], [], []) G0 G0 := pj_kpt_r _ _
  intro mn
  induction mn with
  | zero =>
    intro v1 v2 rv1 rv2 hm
    exfalso
    omega
  | succ mn ih =>
    intro v1 v2 rv1 rv2 hm
    refine pj_X_of (fun r h => pj_R_to (G0, 6, [(0, .ref 38), (1, .int v1), (2, .int v2)], [.ref 38, .int v2], 0, 0) 6 3 (fun _ => rfl) h) ?_
    refine pj_X_of (fun r h => pj_T_gr hI rfl rfl rfl h) ?_
    refine pj_X_gm hI rfl rfl (fun q1 => ?_) (fun q1 => ?_)
    · refine pj_X_of (fun r h => pj_T_gi hI rfl rfl h) ?_
      show pj_X _ _ G0 15 [(0, .ref 38), (1, .int v1), (2, .int v2)] [.int (pj_fi G0 7 1), .int v2] _
      obtain ⟨y2, hy2⟩ : ∃ z : Int32, z = pj_fi G0 7 1 := ⟨_, rfl⟩
      rw [← hy2]
      have ey2 : (pj_fi G0 7 1).toInt = y2.toInt := by rw [hy2]
      have ry2 : (0 : Int) ≤ y2.toInt ∧ y2.toInt ≤ 10 := by rw [hy2]; exact hI.2.1 7 1 (0, 10) rfl
      cases b3 : pj_c1 .ge v2 y2 with
      | true =>
        have ub3 := pj_u_geT b3
        refine pj_X_of (fun r h => pj_R_icT 42 rfl rfl b3 h) ?_
        refine pj_X_of (fun r h => pj_R_to (G0, 43, [(0, .ref 38), (1, .int v1), (2, .int v2)], [.ref 38], 0, 0) 43 2 (fun _ => rfl) h) ?_
        refine pj_X_of (fun r h => pj_T_gr hI rfl rfl rfl h) ?_
        refine pj_X_gk hI rfl rfl q1 ?_
        refine pj_X_of (fun r h => pj_T_gr hI rfl rfl rfl h) ?_
        refine pj_X_of (fun r h => pj_R_to (G0, 53, [(0, .ref 38), (1, .int v1), (2, .int v2)], [.int v1, .ref 13], 0, 0) 53 2 (fun _ => rfl) h) ?_
        refine pj_X_of (fun r h => pj_T_il hI rfl rfl (by omega) (by omega) h) ?_
        show pj_X _ _ G0 54 [(0, .ref 38), (1, .int v1), (2, .int v2)] [.int (pj_ai G0 13 v1.toInt.toNat)] _
        obtain ⟨z4, hz4⟩ : ∃ z : Int32, z = pj_ai G0 13 v1.toInt.toNat := ⟨_, rfl⟩
        rw [← hz4]
        have ez4 : (pj_ai G0 13 v1.toInt.toNat).toInt = z4.toInt := by rw [hz4]
        have fz4_0 : (0 : Int) ≤ z4.toInt ∧ z4.toInt ≤ 9 ∧ (z4.toInt ≤ 0 ∨ 0 ≤ z4.toInt) := by rw [hz4]; exact hI.2.2.1 13 (10, 0, 9, 0, 0) rfl _ (by show _ < 10; omega)
        exact pj_X_rt rfl rfl ⟨_, rfl, rfl, ⟨by omega, by omega⟩⟩
      | false =>
        have ub3 := pj_u_geF b3
        refine pj_X_of (fun r h => pj_R_icF rfl b3 h) ?_
        refine pj_X_of (fun r h => pj_R_to (G0, 19, [(0, .ref 38), (1, .int v1), (2, .int v2)], [.ref 38], 0, 0) 19 2 (fun _ => rfl) h) ?_
        refine pj_X_of (fun r h => pj_T_gr hI rfl rfl rfl h) ?_
        refine pj_X_of (fun r h => pj_R_to (G0, 23, [(0, .ref 38), (1, .int v1), (2, .int v2)], [.int v2, .ref 45], 0, 0) 23 2 (fun _ => rfl) h) ?_
        refine pj_X_ll hI rfl rfl (by omega) (by omega) (fun w5 => ?_)
        show pj_X _ _ G0 24 [(0, .ref 38), (1, .int v1), (2, .int v2)] [.long w5] _
        refine pj_X_of (fun r h => pj_R_to (G0, 25, [(0, .ref 38), (1, .int v1), (2, .int v2)], [.ref 38, .long w5], 0, 0) 25 2 (fun _ => rfl) h) ?_
        refine pj_X_of (fun r h => pj_T_gr hI rfl rfl rfl h) ?_
        refine pj_X_of (fun r h => pj_R_to (G0, 29, [(0, .ref 38), (1, .int v1), (2, .int v2)], [.int v1, .ref 45, .long w5], 0, 0) 29 2 (fun _ => rfl) h) ?_
        refine pj_X_ll hI rfl rfl (by omega) (by omega) (fun w6 => ?_)
        show pj_X _ _ G0 30 [(0, .ref 38), (1, .int v1), (2, .int v2)] [.long w6, .long w5] _
        refine pj_X_of (fun r h => pj_R_to (G0, 31, [(0, .ref 38), (1, .int v1), (2, .int v2)], [.int (lg_cmp w5 w6)], 0, 0) 31 2 (fun _ => rfl) h) ?_
        obtain ⟨z7, hz7⟩ : ∃ z : Int32, z = lg_cmp w5 w6 := ⟨_, rfl⟩
        rw [← hz7]
        have fz7_0 : (-1 ≤ z7.toInt ∧ z7.toInt ≤ 1) ∧ (z7.toInt < 0 ↔ w5.toInt < w6.toInt) ∧ (0 < z7.toInt ↔ w6.toInt < w5.toInt) := by rw [hz7]; exact pj_lcI
        cases b8 : pj_c1 .le z7 0 with
        | true =>
          have ub8 := pj_u0_leT b8
          refine pj_X_of (fun r h => pj_R_ifT 36 rfl rfl b8 h) ?_
          refine pj_X_of (fun r h => pj_R_to (G0, 39, [(2, .int (v2 + Int32.ofInt 1)), (0, .ref 38), (1, .int v1)], [], 0, 0) 39 2 (fun _ => rfl) h) ?_
          obtain ⟨z9, hz9⟩ : ∃ z : Int32, z = v2 + Int32.ofInt 1 := ⟨_, rfl⟩
          rw [← hz9]
          have fz9_0 : z9.toInt = v2.toInt + (Int32.ofInt 1).toInt := by rw [hz9]; exact pj_addI (by have := pj_i32 v2; have := pj_i32 (Int32.ofInt 1); omega) (by have := pj_i32 v2; have := pj_i32 (Int32.ofInt 1); omega)
          refine pj_X_of (fun r h => pj_R_to (G0, 4, [(2, .int z9), (0, .ref 38), (1, .int v1)], [], 0, 0) 4 2 (fun _ => rfl) h) ?_
          exact pj_X_sub [(0, .ref 38), (1, .int v1), (2, .int z9)] (show List.Nodup [0, 1, 2] by decide) ⟨rfl, rfl, rfl, trivial⟩ (ih v1 z9 ⟨by omega, by omega⟩ ⟨by omega, by omega⟩ (by omega))
        | false =>
          have ub8 := pj_u0_leF b8
          refine pj_X_of (fun r h => pj_R_ifF rfl b8 h) ?_
          refine pj_X_of (fun r h => pj_R_to (G0, 39, [(2, .int (v2 + Int32.ofInt 1)), (1, .int v2), (0, .ref 38)], [], 0, 0) 39 4 (fun _ => rfl) h) ?_
          obtain ⟨z10, hz10⟩ : ∃ z : Int32, z = v2 + Int32.ofInt 1 := ⟨_, rfl⟩
          rw [← hz10]
          have fz10_0 : z10.toInt = v2.toInt + (Int32.ofInt 1).toInt := by rw [hz10]; exact pj_addI (by have := pj_i32 v2; have := pj_i32 (Int32.ofInt 1); omega) (by have := pj_i32 v2; have := pj_i32 (Int32.ofInt 1); omega)
          refine pj_X_of (fun r h => pj_R_to (G0, 4, [(2, .int z10), (1, .int v2), (0, .ref 38)], [], 0, 0) 4 2 (fun _ => rfl) h) ?_
          exact pj_X_sub [(0, .ref 38), (1, .int v2), (2, .int z10)] (show List.Nodup [0, 1, 2] by decide) ⟨rfl, rfl, rfl, trivial⟩ (ih v2 z10 ⟨by omega, by omega⟩ ⟨by omega, by omega⟩ (by omega))
    · refine pj_X_of (fun r h => pj_T_gi hI rfl rfl h) ?_
      show pj_X _ _ G0 15 [(0, .ref 38), (1, .int v1), (2, .int v2)] [.int (pj_fi G0 14 1), .int v2] _
      obtain ⟨y11, hy11⟩ : ∃ z : Int32, z = pj_fi G0 14 1 := ⟨_, rfl⟩
      rw [← hy11]
      have ey11 : (pj_fi G0 14 1).toInt = y11.toInt := by rw [hy11]
      have ry11 : (0 : Int) ≤ y11.toInt ∧ y11.toInt ≤ 10 := by rw [hy11]; exact hI.2.1 14 1 (0, 10) rfl
      cases b12 : pj_c1 .ge v2 y11 with
      | true =>
        have ub12 := pj_u_geT b12
        refine pj_X_of (fun r h => pj_R_icT 42 rfl rfl b12 h) ?_
        refine pj_X_of (fun r h => pj_R_to (G0, 43, [(0, .ref 38), (1, .int v1), (2, .int v2)], [.ref 38], 0, 0) 43 2 (fun _ => rfl) h) ?_
        refine pj_X_of (fun r h => pj_T_gr hI rfl rfl rfl h) ?_
        refine pj_X_gk hI rfl rfl q1 ?_
        refine pj_X_of (fun r h => pj_T_gr hI rfl rfl rfl h) ?_
        refine pj_X_of (fun r h => pj_R_to (G0, 53, [(0, .ref 38), (1, .int v1), (2, .int v2)], [.int v1, .ref 20], 0, 0) 53 2 (fun _ => rfl) h) ?_
        refine pj_X_of (fun r h => pj_T_il hI rfl rfl (by omega) (by omega) h) ?_
        show pj_X _ _ G0 54 [(0, .ref 38), (1, .int v1), (2, .int v2)] [.int (pj_ai G0 20 v1.toInt.toNat)] _
        obtain ⟨z13, hz13⟩ : ∃ z : Int32, z = pj_ai G0 20 v1.toInt.toNat := ⟨_, rfl⟩
        rw [← hz13]
        have ez13 : (pj_ai G0 20 v1.toInt.toNat).toInt = z13.toInt := by rw [hz13]
        have fz13_0 : (0 : Int) ≤ z13.toInt ∧ z13.toInt ≤ 9 ∧ (z13.toInt ≤ 0 ∨ 0 ≤ z13.toInt) := by rw [hz13]; exact hI.2.2.1 20 (10, 0, 9, 0, 0) rfl _ (by show _ < 10; omega)
        exact pj_X_rt rfl rfl ⟨_, rfl, rfl, ⟨by omega, by omega⟩⟩
      | false =>
        have ub12 := pj_u_geF b12
        refine pj_X_of (fun r h => pj_R_icF rfl b12 h) ?_
        refine pj_X_of (fun r h => pj_R_to (G0, 19, [(0, .ref 38), (1, .int v1), (2, .int v2)], [.ref 38], 0, 0) 19 2 (fun _ => rfl) h) ?_
        refine pj_X_of (fun r h => pj_T_gr hI rfl rfl rfl h) ?_
        refine pj_X_of (fun r h => pj_R_to (G0, 23, [(0, .ref 38), (1, .int v1), (2, .int v2)], [.int v2, .ref 45], 0, 0) 23 2 (fun _ => rfl) h) ?_
        refine pj_X_ll hI rfl rfl (by omega) (by omega) (fun w14 => ?_)
        show pj_X _ _ G0 24 [(0, .ref 38), (1, .int v1), (2, .int v2)] [.long w14] _
        refine pj_X_of (fun r h => pj_R_to (G0, 25, [(0, .ref 38), (1, .int v1), (2, .int v2)], [.ref 38, .long w14], 0, 0) 25 2 (fun _ => rfl) h) ?_
        refine pj_X_of (fun r h => pj_T_gr hI rfl rfl rfl h) ?_
        refine pj_X_of (fun r h => pj_R_to (G0, 29, [(0, .ref 38), (1, .int v1), (2, .int v2)], [.int v1, .ref 45, .long w14], 0, 0) 29 2 (fun _ => rfl) h) ?_
        refine pj_X_ll hI rfl rfl (by omega) (by omega) (fun w15 => ?_)
        show pj_X _ _ G0 30 [(0, .ref 38), (1, .int v1), (2, .int v2)] [.long w15, .long w14] _
        refine pj_X_of (fun r h => pj_R_to (G0, 31, [(0, .ref 38), (1, .int v1), (2, .int v2)], [.int (lg_cmp w14 w15)], 0, 0) 31 2 (fun _ => rfl) h) ?_
        obtain ⟨z16, hz16⟩ : ∃ z : Int32, z = lg_cmp w14 w15 := ⟨_, rfl⟩
        rw [← hz16]
        have fz16_0 : (-1 ≤ z16.toInt ∧ z16.toInt ≤ 1) ∧ (z16.toInt < 0 ↔ w14.toInt < w15.toInt) ∧ (0 < z16.toInt ↔ w15.toInt < w14.toInt) := by rw [hz16]; exact pj_lcI
        cases b17 : pj_c1 .le z16 0 with
        | true =>
          have ub17 := pj_u0_leT b17
          refine pj_X_of (fun r h => pj_R_ifT 36 rfl rfl b17 h) ?_
          refine pj_X_of (fun r h => pj_R_to (G0, 39, [(2, .int (v2 + Int32.ofInt 1)), (0, .ref 38), (1, .int v1)], [], 0, 0) 39 2 (fun _ => rfl) h) ?_
          obtain ⟨z18, hz18⟩ : ∃ z : Int32, z = v2 + Int32.ofInt 1 := ⟨_, rfl⟩
          rw [← hz18]
          have fz18_0 : z18.toInt = v2.toInt + (Int32.ofInt 1).toInt := by rw [hz18]; exact pj_addI (by have := pj_i32 v2; have := pj_i32 (Int32.ofInt 1); omega) (by have := pj_i32 v2; have := pj_i32 (Int32.ofInt 1); omega)
          refine pj_X_of (fun r h => pj_R_to (G0, 4, [(2, .int z18), (0, .ref 38), (1, .int v1)], [], 0, 0) 4 2 (fun _ => rfl) h) ?_
          exact pj_X_sub [(0, .ref 38), (1, .int v1), (2, .int z18)] (show List.Nodup [0, 1, 2] by decide) ⟨rfl, rfl, rfl, trivial⟩ (ih v1 z18 ⟨by omega, by omega⟩ ⟨by omega, by omega⟩ (by omega))
        | false =>
          have ub17 := pj_u0_leF b17
          refine pj_X_of (fun r h => pj_R_ifF rfl b17 h) ?_
          refine pj_X_of (fun r h => pj_R_to (G0, 39, [(2, .int (v2 + Int32.ofInt 1)), (1, .int v2), (0, .ref 38)], [], 0, 0) 39 4 (fun _ => rfl) h) ?_
          obtain ⟨z19, hz19⟩ : ∃ z : Int32, z = v2 + Int32.ofInt 1 := ⟨_, rfl⟩
          rw [← hz19]
          have fz19_0 : z19.toInt = v2.toInt + (Int32.ofInt 1).toInt := by rw [hz19]; exact pj_addI (by have := pj_i32 v2; have := pj_i32 (Int32.ofInt 1); omega) (by have := pj_i32 v2; have := pj_i32 (Int32.ofInt 1); omega)
          refine pj_X_of (fun r h => pj_R_to (G0, 4, [(2, .int z19), (1, .int v2), (0, .ref 38)], [], 0, 0) 4 2 (fun _ => rfl) h) ?_
          exact pj_X_sub [(0, .ref 38), (1, .int v2), (2, .int z19)] (show List.Nodup [0, 1, 2] by decide) ⟨rfl, rfl, rfl, trivial⟩ (ih v2 z19 ⟨by omega, by omega⟩ ⟨by omega, by omega⟩ (by omega))
theorem ct_9 (G0 : pj_G) (hI : pj_Inv G0) : pj_Y 1 9 [.ref 38] G0 (fun v G' => ∃ y : Int32, v = some (.int y) ∧ G0 = G' ∧ ((0 : Int) ≤ y.toInt ∧ y.toInt ≤ 9)) := by
  have c0_ : (Int32.ofInt 0).toInt = 0 := by decide
  have c1_ : (Int32.ofInt 1).toInt = 1 := by decide
  refine pj_Y_X (M := pj_m9) rfl rfl (Nat.le_of_ble_eq_true rfl) ?_
  have hK : pj_kpt ([], [], []) G0 G0 := pj_kpt_r _ _
  show pj_X _ _ G0 0 [(0, .ref 38)] [] _
  refine pj_X_of (fun r h => pj_R_to (G0, 4, [(2, .int (Int32.ofInt 1)), (1, .int (Int32.ofInt 0)), (0, .ref 38)], [], 0, 0) 4 5 (fun _ => rfl) h) ?_
  exact pj_X_sub [(0, .ref 38), (1, .int (Int32.ofInt 0)), (2, .int (Int32.ofInt 1))] (show List.Nodup [0, 1, 2] by decide) ⟨rfl, rfl, rfl, trivial⟩ ((lp_ct_9 G0 hI   10) (Int32.ofInt 0) (Int32.ofInt 1) ⟨by omega, by omega⟩ ⟨by omega, by omega⟩ (by omega))
