def kc_229 : pj_KT := ([(171, 17), (171, 39)], [171, 187, 188, 189], [187, 188, 189])
theorem ct_229 (G0 : pj_G) (hI : pj_Inv G0) (p0_ : (pj_fi G0 171 39).toInt ≤ 59) : pj_Y 17 229 [.ref 171] G0 (fun v G' => ∃ y : Int32, v = some (.int y) ∧ pj_Inv G' ∧ pj_kpt kc_229 G0 G' ∧ ((0 : Int) ≤ y.toInt ∧ y.toInt ≤ 1) ∧ ((pj_fi G' 171 39).toInt = (pj_fi G0 171 39).toInt + 1 ∧ (pj_fi G0 171 17).toInt ≤ (pj_fi G' 171 17).toInt ∧ (1 ≤ y.toInt → (pj_fi G0 171 17).toInt + 1 ≤ (pj_fi G' 171 17).toInt))) := by
  have c0_ : ((Int8.ofInt 45).toInt32).toInt = 45 := by decide
  have c1_ : ((Int8.ofInt 6).toInt32).toInt = 6 := by decide
  have c2_ : (Int32.ofInt (-1)).toInt = -1 := by decide
  have c3_ : (Int32.ofInt 0).toInt = 0 := by decide
  have c4_ : (Int32.ofInt 1).toInt = 1 := by decide
  have c5_ : (Int32.ofInt 2).toInt = 2 := by decide
  have c6_ : (Int32.ofInt 3).toInt = 3 := by decide
  refine pj_Y_X (M := pj_m229) rfl rfl (Nat.le_of_ble_eq_true rfl) ?_
  have hK : pj_kpt kc_229 G0 G0 := pj_kpt_r _ _
  show pj_X _ _ G0 0 [(0, .ref 171)] [] _
  obtain ⟨y1, hy1⟩ : ∃ z : Int32, z = pj_fi G0 171 39 := ⟨_, rfl⟩
  have ey1 : (pj_fi G0 171 39).toInt = y1.toInt := by rw [hy1]
  have ry1 : (0 : Int) ≤ y1.toInt ∧ y1.toInt ≤ 60 := by rw [hy1]; exact hI.2.1 171 39 (0, 60) rfl
  obtain ⟨y2, hy2⟩ : ∃ z : Int32, z = pj_fi G0 171 17 := ⟨_, rfl⟩
  have ey2 : (pj_fi G0 171 17).toInt = y2.toInt := by rw [hy2]
  have ry2 : (0 : Int) ≤ y2.toInt ∧ y2.toInt ≤ 80 := by rw [hy2]; exact hI.2.1 171 17 (0, 80) rfl
  refine pj_X_of (fun r h => pj_R_to (G0, 1, [(0, .ref 171)], [.ref 171], 0, 0) 1 2 (fun _ => rfl) h) ?_
  refine pj_X_of (fun r h => pj_T_gi hI rfl rfl h) ?_
  show pj_X _ _ G0 4 [(0, .ref 171)] [.int (pj_fi G0 171 39)] _
  refine pj_X_eqi (show pj_fi G0 171 39 = y1 from hy1.symm) ?_
  refine pj_X_of (fun r h => pj_R_to (G0, 6, [(1, .int y1), (0, .ref 171)], [.ref 171], 0, 0) 6 3 (fun _ => rfl) h) ?_
  refine pj_X_of (fun r h => pj_T_gr hI rfl rfl rfl h) ?_
  refine pj_X_of (fun r h => pj_R_to (G0, 14, [(1, .int y1), (0, .ref 171)], [.retAddr 15, .ref 171, .int y1, .ref 187], 0, 0) 14 4 (fun _ => rfl) h) ?_
  have q3 : (pj_fi G0 171 39).toInt = y1.toInt := by rw [show pj_fi G0 171 39 = y1 from hy1.symm]
  have q4 : (pj_fi G0 171 17).toInt = y2.toInt := by rw [show pj_fi G0 171 17 = y2 from hy2.symm]
  refine pj_X_ca (vs := [.ref 171, .retAddr 15]) rfl (fun _ => rfl) ⟨Nat.le_of_ble_eq_true rfl, Nat.le_of_ble_eq_true rfl, pj_T_rcv hI rfl⟩ ⟨rfl, rfl⟩ (pj_Y_up (by decide) (ct_185_s15 G0 hI)) ?_
  rintro _ G6 ⟨y5, rfl, iG6, jG6, ry5, ey5⟩
  have kG6 : pj_kpt kc_229 G0 G6 := pj_kpt_t hK (pj_kpt_s jG6 rfl)
  have q7 : (pj_fi G6 171 39).toInt = (pj_fi G0 171 39).toInt := by rw [jG6.1 (171, 39) (by decide)]
  obtain ⟨y8, hy8⟩ : ∃ z : Int32, z = pj_fi G6 171 39 := ⟨_, rfl⟩
  have ey8 : (pj_fi G6 171 39).toInt = y8.toInt := by rw [hy8]
  have ry8 : (0 : Int) ≤ y8.toInt ∧ y8.toInt ≤ 60 := by rw [hy8]; exact iG6.2.1 171 39 (0, 60) rfl
  obtain ⟨y9, hy9⟩ : ∃ z : Int32, z = pj_fi G6 171 17 := ⟨_, rfl⟩
  have ey9 : (pj_fi G6 171 17).toInt = y9.toInt := by rw [hy9]
  have ry9 : (0 : Int) ≤ y9.toInt ∧ y9.toInt ≤ 80 := by rw [hy9]; exact iG6.2.1 171 17 (0, 80) rfl
  show pj_X _ _ G6 17 [(1, .int y1), (0, .ref 171)] [.int y5, .int y1, .ref 187] _
  refine pj_X_of (fun r h => pj_T_is iG6 rfl rfl (by omega) (by omega) h) ?_
  show pj_X _ _ (pj_wa G6 187 y1.toInt.toNat y5) 18 [(1, .int y1), (0, .ref 171)] [] _
  obtain ⟨G10, hG10⟩ : ∃ H, H = pj_wa G6 187 y1.toInt.toNat y5 := ⟨_, rfl⟩
  have iG10 : pj_Inv G10 := by rw [hG10]; exact pj_Inv_wa iG6 rfl (fun q hq => by cases hq) (fun n hn => by cases hn)
  have kG10 : pj_kpt kc_229 G0 G10 := by rw [hG10]; exact pj_kpt_a kG6 rfl
  rw [← hG10]
  refine pj_X_of (fun r h => pj_R_to (G10, 20, [(1, .int y1), (0, .ref 171)], [.ref 171, .ref 171], 0, 0) 20 3 (fun _ => rfl) h) ?_
  refine pj_X_of (fun r h => pj_T_gi iG10 rfl rfl h) ?_
  show pj_X _ _ G10 23 [(1, .int y1), (0, .ref 171)] [.int (pj_fi G10 171 39), .ref 171] _
  refine pj_X_eqi (show pj_fi G10 171 39 = y8 from by rw [hG10, pj_fi_wa]; exact hy8.symm) ?_
  refine pj_X_of (fun r h => pj_R_to (G10, 25, [(1, .int y1), (0, .ref 171)], [.int (y8 + (Int32.ofInt 1)), .ref 171], 0, 0) 25 3 (fun _ => rfl) h) ?_
  obtain ⟨z11, hz11⟩ : ∃ z : Int32, z = y8 + (Int32.ofInt 1) := ⟨_, rfl⟩
  refine pj_X_eqi hz11.symm ?_
  have fz11_0 : z11.toInt = y8.toInt + (Int32.ofInt 1).toInt := by rw [hz11]; exact pj_addI (by have := pj_i32 y8; have := pj_i32 (Int32.ofInt 1); omega) (by have := pj_i32 y8; have := pj_i32 (Int32.ofInt 1); omega)
  refine pj_X_of (fun r h => pj_T_pf iG10 rfl rfl rfl h) ?_
  show pj_X _ _ (pj_wv G10 171 39 (.int z11)) 28 [(1, .int y1), (0, .ref 171)] [] _
  obtain ⟨G12, hG12⟩ : ∃ H, H = pj_wv G10 171 39 (.int z11) := ⟨_, rfl⟩
  have iG12 : pj_Inv G12 := by rw [hG12]; exact pj_Inv_wi iG10 (ci := 12) rfl (fun q hq => by cases hq; exact ⟨by show (0 : Int) ≤ _; omega, by show _ ≤ (60 : Int); omega⟩)
  have kG12 : pj_kpt kc_229 G0 G12 := by rw [hG12]; exact pj_kpt_v kG10 rfl
  rw [← hG12]
  refine pj_X_of (fun r h => pj_R_to (G12, 29, [(1, .int y1), (0, .ref 171)], [.ref 171], 0, 0) 29 2 (fun _ => rfl) h) ?_
  refine pj_X_of (fun r h => pj_T_gr iG12 rfl rfl rfl h) ?_
  refine pj_X_of (fun r h => pj_R_to (G12, 33, [(1, .int y1), (0, .ref 171)], [.int y1, .ref 187], 0, 0) 33 2 (fun _ => rfl) h) ?_
  refine pj_X_of (fun r h => pj_T_il iG12 rfl rfl (by omega) (by omega) h) ?_
  show pj_X _ _ G12 34 [(1, .int y1), (0, .ref 171)] [.int (pj_ai G12 187 y1.toInt.toNat)] _
  obtain ⟨z13, hz13⟩ : ∃ z : Int32, z = pj_ai G12 187 y1.toInt.toNat := ⟨_, rfl⟩
  refine pj_X_eqi hz13.symm ?_
  have ez13 : (pj_ai G12 187 y1.toInt.toNat).toInt = z13.toInt := by rw [hz13]
  have x14 : z13.toInt = y5.toInt := by rw [hz13, hG12, pj_ai_wv, show y1.toInt.toNat = y1.toInt.toNat by omega, hG10, pj_ai_wa_eq iG6.1 rfl]
  cases b15 : pj_c1 .ge z13 0 with
  | true =>
    have ub15 := pj_u0_geT b15
    refine pj_X_of (fun r h => pj_R_ifT 39 rfl rfl b15 h) ?_
    refine pj_X_of (fun r h => pj_R_to (G12, 40, [(1, .int y1), (0, .ref 171)], [.ref 171], 0, 0) 40 2 (fun _ => rfl) h) ?_
    refine pj_X_of (fun r h => pj_T_gr iG12 rfl rfl rfl h) ?_
    refine pj_X_of (fun r h => pj_R_to (G12, 45, [(1, .int y1), (0, .ref 171)], [.ref 171, .int y1, .ref 188], 0, 0) 45 3 (fun _ => rfl) h) ?_
    refine pj_X_of (fun r h => pj_T_gr iG12 rfl rfl rfl h) ?_
    refine pj_X_of (fun r h => pj_R_to (G12, 49, [(1, .int y1), (0, .ref 171)], [.int y1, .ref 187, .int y1, .ref 188], 0, 0) 49 2 (fun _ => rfl) h) ?_
    refine pj_X_of (fun r h => pj_T_il iG12 rfl rfl (by omega) (by omega) h) ?_
    show pj_X _ _ G12 50 [(1, .int y1), (0, .ref 171)] [.int (pj_ai G12 187 y1.toInt.toNat), .int y1, .ref 188] _
    refine pj_X_eqi hz13.symm ?_
    refine pj_X_of (fun r h => pj_R_to (G12, 51, [(1, .int y1), (0, .ref 171)], [.int (Int32.ofInt 2), .int z13, .int y1, .ref 188], 0, 0) 51 2 (fun _ => rfl) h) ?_
    cases b16 : pj_c1 .ne z13 (Int32.ofInt 2) with
    | true =>
      have ub16 := pj_u_neT b16
      refine pj_X_of (fun r h => pj_R_icT 63 rfl rfl b16 h) ?_
      refine pj_X_of (fun r h => pj_R_to (G12, 65, [(1, .int y1), (0, .ref 171)], [.ref 171, .ref 171, .int y1, .ref 188], 0, 0) 65 3 (fun _ => rfl) h) ?_
      refine pj_X_of (fun r h => pj_T_gr iG12 rfl rfl rfl h) ?_
      refine pj_X_of (fun r h => pj_R_to (G12, 69, [(1, .int y1), (0, .ref 171)], [.int y1, .ref 187, .ref 171, .int y1, .ref 188], 0, 0) 69 2 (fun _ => rfl) h) ?_
      refine pj_X_of (fun r h => pj_T_il iG12 rfl rfl (by omega) (by omega) h) ?_
      show pj_X _ _ G12 70 [(1, .int y1), (0, .ref 171)] [.int (pj_ai G12 187 y1.toInt.toNat), .ref 171, .int y1, .ref 188] _
      refine pj_X_eqi hz13.symm ?_
      refine pj_X_of (fun r h => pj_R_to (G12, 71, [(1, .int y1), (0, .ref 171)], [.int (Int32.ofInt 3), .int z13, .ref 171, .int y1, .ref 188], 0, 0) 71 2 (fun _ => rfl) h) ?_
      cases b17 : pj_c1 .ne z13 (Int32.ofInt 3) with
      | true =>
        have ub17 := pj_u_neT b17
        refine pj_X_of (fun r h => pj_R_icT 78 rfl rfl b17 h) ?_
        refine pj_X_of (fun r h => pj_R_to (G12, 79, [(1, .int y1), (0, .ref 171)], [.int (Int32.ofInt 1), .ref 171, .int y1, .ref 188], 0, 0) 79 2 (fun _ => rfl) h) ?_
        have q18 : (pj_fi G12 171 39).toInt = z11.toInt := by rw [show pj_fi G12 171 39 = z11 from by rw [hG12]; exact pj_fi_wi iG10.1 (ci := 12) rfl _]
        have q19 : (pj_fi G12 171 17).toInt = y9.toInt := by rw [show pj_fi G12 171 17 = y9 from by rw [hG12, pj_fi_wv_ne _ _ _ _ _ _ (by decide)]; exact (by rw [hG10, pj_fi_wa]; exact hy9.symm)]
        refine pj_X_ca (vs := [.ref 171, .int (Int32.ofInt 1)]) rfl (fun _ => rfl) ⟨Nat.le_of_ble_eq_true rfl, Nat.le_of_ble_eq_true rfl, pj_T_rcv iG12 rfl⟩ ⟨rfl, rfl⟩ (pj_Y_up (by decide) (ct_186 G12 iG12 (Int32.ofInt 1) ⟨by omega, by omega⟩)) ?_
        rintro _ G21 ⟨y20, rfl, iG21, jG21, ry20, ey20⟩
        have kG21 : pj_kpt kc_229 G0 G21 := pj_kpt_t kG12 (pj_kpt_s jG21 rfl)
        have q22 : (pj_fi G21 171 39).toInt = (pj_fi G12 171 39).toInt := by rw [jG21.1 (171, 39) (by decide)]
        obtain ⟨y23, hy23⟩ : ∃ z : Int32, z = pj_fi G21 171 39 := ⟨_, rfl⟩
        have ey23 : (pj_fi G21 171 39).toInt = y23.toInt := by rw [hy23]
        have ry23 : (0 : Int) ≤ y23.toInt ∧ y23.toInt ≤ 60 := by rw [hy23]; exact iG21.2.1 171 39 (0, 60) rfl
        obtain ⟨y24, hy24⟩ : ∃ z : Int32, z = pj_fi G21 171 17 := ⟨_, rfl⟩
        have ey24 : (pj_fi G21 171 17).toInt = y24.toInt := by rw [hy24]
        have ry24 : (0 : Int) ≤ y24.toInt ∧ y24.toInt ≤ 80 := by rw [hy24]; exact iG21.2.1 171 17 (0, 80) rfl
        show pj_X _ _ G21 82 [(1, .int y1), (0, .ref 171)] [.int y20, .int y1, .ref 188] _
        refine pj_X_of (fun r h => pj_T_is iG21 rfl rfl (by omega) (by omega) h) ?_
        show pj_X _ _ (pj_wa G21 188 y1.toInt.toNat y20) 83 [(1, .int y1), (0, .ref 171)] [] _
        obtain ⟨G25, hG25⟩ : ∃ H, H = pj_wa G21 188 y1.toInt.toNat y20 := ⟨_, rfl⟩
        have iG25 : pj_Inv G25 := by rw [hG25]; exact pj_Inv_wa iG21 rfl (fun q hq => by cases hq) (fun n hn => by cases hn)
        have kG25 : pj_kpt kc_229 G0 G25 := by rw [hG25]; exact pj_kpt_a kG21 rfl
        rw [← hG25]
        refine pj_X_of (fun r h => pj_R_to (G25, 84, [(1, .int y1), (0, .ref 171)], [.ref 171], 0, 0) 84 2 (fun _ => rfl) h) ?_
        refine pj_X_of (fun r h => pj_T_gr iG25 rfl rfl rfl h) ?_
        refine pj_X_of (fun r h => pj_R_to (G25, 88, [(1, .int y1), (0, .ref 171)], [.int y1, .ref 188], 0, 0) 88 2 (fun _ => rfl) h) ?_
        refine pj_X_of (fun r h => pj_T_il iG25 rfl rfl (by omega) (by omega) h) ?_
        show pj_X _ _ G25 89 [(1, .int y1), (0, .ref 171)] [.int (pj_ai G25 188 y1.toInt.toNat)] _
        obtain ⟨z26, hz26⟩ : ∃ z : Int32, z = pj_ai G25 188 y1.toInt.toNat := ⟨_, rfl⟩
        refine pj_X_eqi hz26.symm ?_
        have ez26 : (pj_ai G25 188 y1.toInt.toNat).toInt = z26.toInt := by rw [hz26]
        have x27 : z26.toInt = y20.toInt := by rw [hz26, show y1.toInt.toNat = y1.toInt.toNat by omega, hG25, pj_ai_wa_eq iG21.1 rfl]
        cases b28 : pj_c1 .lt z26 0 with
        | true =>
          have ub28 := pj_u0_ltT b28
          refine pj_X_of (fun r h => pj_R_ifT 102 rfl rfl b28 h) ?_
          refine pj_X_of (fun r h => pj_R_to (G25, 103, [(1, .int y1), (0, .ref 171)], [.ref 171], 0, 0) 103 2 (fun _ => rfl) h) ?_
          refine pj_X_of (fun r h => pj_T_gr iG25 rfl rfl rfl h) ?_
          refine pj_X_of (fun r h => pj_R_to (G25, 107, [(1, .int y1), (0, .ref 171)], [.int y1, .ref 188], 0, 0) 107 2 (fun _ => rfl) h) ?_
          refine pj_X_of (fun r h => pj_T_il iG25 rfl rfl (by omega) (by omega) h) ?_
          show pj_X _ _ G25 108 [(1, .int y1), (0, .ref 171)] [.int (pj_ai G25 188 y1.toInt.toNat)] _
          refine pj_X_eqi hz26.symm ?_
          refine pj_X_of (fun r h => pj_R_ifT 115 rfl rfl (pj_b0_ltT (by omega)) h) ?_
          refine pj_X_of (fun r h => pj_R_to (G25, 116, [(1, .int y1), (0, .ref 171)], [.int (Int32.ofInt 0)], 0, 0) 116 2 (fun _ => rfl) h) ?_
          have q29 : (pj_fi G25 171 39).toInt = y23.toInt := by rw [show pj_fi G25 171 39 = y23 from by rw [hG25, pj_fi_wa]; exact hy23.symm]
          have q30 : (pj_fi G25 171 17).toInt = y24.toInt := by rw [show pj_fi G25 171 17 = y24 from by rw [hG25, pj_fi_wa]; exact hy24.symm]
          exact pj_X_rt rfl rfl ⟨_, rfl, iG25, kG25, ⟨by omega, by omega⟩, by omega⟩
        | false =>
          have ub28 := pj_u0_ltF b28
          refine pj_X_of (fun r h => pj_R_ifF rfl b28 h) ?_
          refine pj_X_of (fun r h => pj_R_to (G25, 93, [(1, .int y1), (0, .ref 171)], [.ref 171], 0, 0) 93 2 (fun _ => rfl) h) ?_
          refine pj_X_of (fun r h => pj_T_gr iG25 rfl rfl rfl h) ?_
          refine pj_X_of (fun r h => pj_R_to (G25, 97, [(1, .int y1), (0, .ref 171)], [.int y1, .ref 187], 0, 0) 97 2 (fun _ => rfl) h) ?_
          refine pj_X_of (fun r h => pj_T_il iG25 rfl rfl (by omega) (by omega) h) ?_
          show pj_X _ _ G25 98 [(1, .int y1), (0, .ref 171)] [.int (pj_ai G25 187 y1.toInt.toNat)] _
          obtain ⟨z31, hz31⟩ : ∃ z : Int32, z = pj_ai G25 187 y1.toInt.toNat := ⟨_, rfl⟩
          refine pj_X_eqi hz31.symm ?_
          have ez31 : (pj_ai G25 187 y1.toInt.toNat).toInt = z31.toInt := by rw [hz31]
          refine pj_X_of (fun r h => pj_R_to (G25, 99, [(1, .int y1), (0, .ref 171)], [.int (Int32.ofInt 3), .int z31], 0, 0) 99 2 (fun _ => rfl) h) ?_
          cases b32 : pj_c1 .ne z31 (Int32.ofInt 3) with
          | true =>
            have ub32 := pj_u_neT b32
            refine pj_X_of (fun r h => pj_R_icT 117 rfl rfl b32 h) ?_
            refine pj_X_of (fun r h => pj_R_to (G25, 118, [(1, .int y1), (0, .ref 171)], [.ref 171], 0, 0) 118 2 (fun _ => rfl) h) ?_
            refine pj_X_of (fun r h => pj_T_gr iG25 rfl rfl rfl h) ?_
            refine pj_X_of (fun r h => pj_R_to (G25, 122, [(1, .int y1), (0, .ref 171)], [.int y1, .ref 187], 0, 0) 122 2 (fun _ => rfl) h) ?_
            refine pj_X_of (fun r h => pj_T_il iG25 rfl rfl (by omega) (by omega) h) ?_
            show pj_X _ _ G25 123 [(1, .int y1), (0, .ref 171)] [.int (pj_ai G25 187 y1.toInt.toNat)] _
            refine pj_X_eqi hz31.symm ?_
            cases b33 : pj_c1 .ne z31 0 with
            | true =>
              have ub33 := pj_u0_neT b33
              refine pj_X_of (fun r h => pj_R_ifT 144 rfl rfl b33 h) ?_
              refine pj_X_of (fun r h => pj_R_to (G25, 145, [(1, .int y1), (0, .ref 171)], [.ref 171], 0, 0) 145 2 (fun _ => rfl) h) ?_
              refine pj_X_of (fun r h => pj_T_gr iG25 rfl rfl rfl h) ?_
              refine pj_X_of (fun r h => pj_R_to (G25, 151, [(1, .int y1), (0, .ref 171)], [.ref 171, .ref 171, .int y1, .ref 189], 0, 0) 151 4 (fun _ => rfl) h) ?_
              refine pj_X_of (fun r h => pj_T_gr iG25 rfl rfl rfl h) ?_
              refine pj_X_of (fun r h => pj_R_to (G25, 155, [(1, .int y1), (0, .ref 171)], [.int y1, .ref 187, .ref 171, .int y1, .ref 189], 0, 0) 155 2 (fun _ => rfl) h) ?_
              refine pj_X_of (fun r h => pj_T_il iG25 rfl rfl (by omega) (by omega) h) ?_
              show pj_X _ _ G25 156 [(1, .int y1), (0, .ref 171)] [.int (pj_ai G25 187 y1.toInt.toNat), .ref 171, .int y1, .ref 189] _
              refine pj_X_eqi hz31.symm ?_
              refine pj_X_of (fun r h => pj_R_to (G25, 157, [(1, .int y1), (0, .ref 171)], [.int (Int32.ofInt 1), .int z31, .ref 171, .int y1, .ref 189], 0, 0) 157 2 (fun _ => rfl) h) ?_
              cases b34 : pj_c1 .ne z31 (Int32.ofInt 1) with
              | true =>
                have ub34 := pj_u_neT b34
                refine pj_X_of (fun r h => pj_R_icT 164 rfl rfl b34 h) ?_
                refine pj_X_of (fun r h => pj_R_to (G25, 165, [(1, .int y1), (0, .ref 171)], [.int (Int32.ofInt 1), .ref 171, .int y1, .ref 189], 0, 0) 165 2 (fun _ => rfl) h) ?_
                have q35 : (pj_fi G25 171 39).toInt = y23.toInt := by rw [show pj_fi G25 171 39 = y23 from by rw [hG25, pj_fi_wa]; exact hy23.symm]
                have q36 : (pj_fi G25 171 17).toInt = y24.toInt := by rw [show pj_fi G25 171 17 = y24 from by rw [hG25, pj_fi_wa]; exact hy24.symm]
                refine pj_X_ca (vs := [.ref 171, .int (Int32.ofInt 1)]) rfl (fun _ => rfl) ⟨Nat.le_of_ble_eq_true rfl, Nat.le_of_ble_eq_true rfl, pj_T_rcv iG25 rfl⟩ ⟨rfl, rfl⟩ (pj_Y_up (by decide) (ct_186 G25 iG25 (Int32.ofInt 1) ⟨by omega, by omega⟩)) ?_
                rintro _ G38 ⟨y37, rfl, iG38, jG38, ry37, ey37⟩
                have kG38 : pj_kpt kc_229 G0 G38 := pj_kpt_t kG25 (pj_kpt_s jG38 rfl)
                have q39 : (pj_fi G38 171 39).toInt = (pj_fi G25 171 39).toInt := by rw [jG38.1 (171, 39) (by decide)]
                obtain ⟨y40, hy40⟩ : ∃ z : Int32, z = pj_fi G38 171 39 := ⟨_, rfl⟩
                have ey40 : (pj_fi G38 171 39).toInt = y40.toInt := by rw [hy40]
                have ry40 : (0 : Int) ≤ y40.toInt ∧ y40.toInt ≤ 60 := by rw [hy40]; exact iG38.2.1 171 39 (0, 60) rfl
                obtain ⟨y41, hy41⟩ : ∃ z : Int32, z = pj_fi G38 171 17 := ⟨_, rfl⟩
                have ey41 : (pj_fi G38 171 17).toInt = y41.toInt := by rw [hy41]
                have ry41 : (0 : Int) ≤ y41.toInt ∧ y41.toInt ≤ 80 := by rw [hy41]; exact iG38.2.1 171 17 (0, 80) rfl
                show pj_X _ _ G38 168 [(1, .int y1), (0, .ref 171)] [.int y37, .int y1, .ref 189] _
                refine pj_X_of (fun r h => pj_T_is iG38 rfl rfl (by omega) (by omega) h) ?_
                show pj_X _ _ (pj_wa G38 189 y1.toInt.toNat y37) 169 [(1, .int y1), (0, .ref 171)] [] _
                obtain ⟨G42, hG42⟩ : ∃ H, H = pj_wa G38 189 y1.toInt.toNat y37 := ⟨_, rfl⟩
                have iG42 : pj_Inv G42 := by rw [hG42]; exact pj_Inv_wa iG38 rfl (fun q hq => by cases hq) (fun n hn => by cases hn)
                have kG42 : pj_kpt kc_229 G0 G42 := by rw [hG42]; exact pj_kpt_a kG38 rfl
                rw [← hG42]
                refine pj_X_of (fun r h => pj_R_to (G42, 170, [(1, .int y1), (0, .ref 171)], [.ref 171], 0, 0) 170 2 (fun _ => rfl) h) ?_
                refine pj_X_of (fun r h => pj_T_gr iG42 rfl rfl rfl h) ?_
                refine pj_X_of (fun r h => pj_R_to (G42, 174, [(1, .int y1), (0, .ref 171)], [.int y1, .ref 189], 0, 0) 174 2 (fun _ => rfl) h) ?_
                refine pj_X_of (fun r h => pj_T_il iG42 rfl rfl (by omega) (by omega) h) ?_
                show pj_X _ _ G42 175 [(1, .int y1), (0, .ref 171)] [.int (pj_ai G42 189 y1.toInt.toNat)] _
                obtain ⟨z43, hz43⟩ : ∃ z : Int32, z = pj_ai G42 189 y1.toInt.toNat := ⟨_, rfl⟩
                refine pj_X_eqi hz43.symm ?_
                have ez43 : (pj_ai G42 189 y1.toInt.toNat).toInt = z43.toInt := by rw [hz43]
                have x44 : z43.toInt = y37.toInt := by rw [hz43, show y1.toInt.toNat = y1.toInt.toNat by omega, hG42, pj_ai_wa_eq iG38.1 rfl]
                cases b45 : pj_c1 .lt z43 0 with
                | true =>
                  have ub45 := pj_u0_ltT b45
                  refine pj_X_of (fun r h => pj_R_ifT 182 rfl rfl b45 h) ?_
                  refine pj_X_of (fun r h => pj_R_to (G42, 183, [(1, .int y1), (0, .ref 171)], [.int (Int32.ofInt 0)], 0, 0) 183 2 (fun _ => rfl) h) ?_
                  have q46 : (pj_fi G42 171 39).toInt = y40.toInt := by rw [show pj_fi G42 171 39 = y40 from by rw [hG42, pj_fi_wa]; exact hy40.symm]
                  have q47 : (pj_fi G42 171 17).toInt = y41.toInt := by rw [show pj_fi G42 171 17 = y41 from by rw [hG42, pj_fi_wa]; exact hy41.symm]
                  exact pj_X_rt rfl rfl ⟨_, rfl, iG42, kG42, ⟨by omega, by omega⟩, by omega⟩
                | false =>
                  have ub45 := pj_u0_ltF b45
                  refine pj_X_of (fun r h => pj_R_ifF rfl b45 h) ?_
                  refine pj_X_of (fun r h => pj_R_to (G42, 183, [(1, .int y1), (0, .ref 171)], [.int (Int32.ofInt 1)], 0, 0) 183 3 (fun _ => rfl) h) ?_
                  have q48 : (pj_fi G42 171 39).toInt = y40.toInt := by rw [show pj_fi G42 171 39 = y40 from by rw [hG42, pj_fi_wa]; exact hy40.symm]
                  have q49 : (pj_fi G42 171 17).toInt = y41.toInt := by rw [show pj_fi G42 171 17 = y41 from by rw [hG42, pj_fi_wa]; exact hy41.symm]
                  exact pj_X_rt rfl rfl ⟨_, rfl, iG42, kG42, ⟨by omega, by omega⟩, by omega⟩
              | false =>
                have ub34 := pj_u_neF b34
                refine pj_X_of (fun r h => pj_R_icF rfl b34 h) ?_
                refine pj_X_of (fun r h => pj_R_to (G25, 165, [(1, .int y1), (0, .ref 171)], [.int (Int32.ofInt 3), .ref 171, .int y1, .ref 189], 0, 0) 165 3 (fun _ => rfl) h) ?_
                have q50 : (pj_fi G25 171 39).toInt = y23.toInt := by rw [show pj_fi G25 171 39 = y23 from by rw [hG25, pj_fi_wa]; exact hy23.symm]
                have q51 : (pj_fi G25 171 17).toInt = y24.toInt := by rw [show pj_fi G25 171 17 = y24 from by rw [hG25, pj_fi_wa]; exact hy24.symm]
                refine pj_X_ca (vs := [.ref 171, .int (Int32.ofInt 3)]) rfl (fun _ => rfl) ⟨Nat.le_of_ble_eq_true rfl, Nat.le_of_ble_eq_true rfl, pj_T_rcv iG25 rfl⟩ ⟨rfl, rfl⟩ (pj_Y_up (by decide) (ct_186 G25 iG25 (Int32.ofInt 3) ⟨by omega, by omega⟩)) ?_
                rintro _ G53 ⟨y52, rfl, iG53, jG53, ry52, ey52⟩
                have kG53 : pj_kpt kc_229 G0 G53 := pj_kpt_t kG25 (pj_kpt_s jG53 rfl)
                have q54 : (pj_fi G53 171 39).toInt = (pj_fi G25 171 39).toInt := by rw [jG53.1 (171, 39) (by decide)]
                obtain ⟨y55, hy55⟩ : ∃ z : Int32, z = pj_fi G53 171 39 := ⟨_, rfl⟩
                have ey55 : (pj_fi G53 171 39).toInt = y55.toInt := by rw [hy55]
                have ry55 : (0 : Int) ≤ y55.toInt ∧ y55.toInt ≤ 60 := by rw [hy55]; exact iG53.2.1 171 39 (0, 60) rfl
                obtain ⟨y56, hy56⟩ : ∃ z : Int32, z = pj_fi G53 171 17 := ⟨_, rfl⟩
                have ey56 : (pj_fi G53 171 17).toInt = y56.toInt := by rw [hy56]
                have ry56 : (0 : Int) ≤ y56.toInt ∧ y56.toInt ≤ 80 := by rw [hy56]; exact iG53.2.1 171 17 (0, 80) rfl
                show pj_X _ _ G53 168 [(1, .int y1), (0, .ref 171)] [.int y52, .int y1, .ref 189] _
                refine pj_X_of (fun r h => pj_T_is iG53 rfl rfl (by omega) (by omega) h) ?_
                show pj_X _ _ (pj_wa G53 189 y1.toInt.toNat y52) 169 [(1, .int y1), (0, .ref 171)] [] _
                obtain ⟨G57, hG57⟩ : ∃ H, H = pj_wa G53 189 y1.toInt.toNat y52 := ⟨_, rfl⟩
                have iG57 : pj_Inv G57 := by rw [hG57]; exact pj_Inv_wa iG53 rfl (fun q hq => by cases hq) (fun n hn => by cases hn)
                have kG57 : pj_kpt kc_229 G0 G57 := by rw [hG57]; exact pj_kpt_a kG53 rfl
                rw [← hG57]
                refine pj_X_of (fun r h => pj_R_to (G57, 170, [(1, .int y1), (0, .ref 171)], [.ref 171], 0, 0) 170 2 (fun _ => rfl) h) ?_
                refine pj_X_of (fun r h => pj_T_gr iG57 rfl rfl rfl h) ?_
                refine pj_X_of (fun r h => pj_R_to (G57, 174, [(1, .int y1), (0, .ref 171)], [.int y1, .ref 189], 0, 0) 174 2 (fun _ => rfl) h) ?_
                refine pj_X_of (fun r h => pj_T_il iG57 rfl rfl (by omega) (by omega) h) ?_
                show pj_X _ _ G57 175 [(1, .int y1), (0, .ref 171)] [.int (pj_ai G57 189 y1.toInt.toNat)] _
                obtain ⟨z58, hz58⟩ : ∃ z : Int32, z = pj_ai G57 189 y1.toInt.toNat := ⟨_, rfl⟩
                refine pj_X_eqi hz58.symm ?_
                have ez58 : (pj_ai G57 189 y1.toInt.toNat).toInt = z58.toInt := by rw [hz58]
                have x59 : z58.toInt = y52.toInt := by rw [hz58, show y1.toInt.toNat = y1.toInt.toNat by omega, hG57, pj_ai_wa_eq iG53.1 rfl]
                cases b60 : pj_c1 .lt z58 0 with
                | true =>
                  have ub60 := pj_u0_ltT b60
                  refine pj_X_of (fun r h => pj_R_ifT 182 rfl rfl b60 h) ?_
                  refine pj_X_of (fun r h => pj_R_to (G57, 183, [(1, .int y1), (0, .ref 171)], [.int (Int32.ofInt 0)], 0, 0) 183 2 (fun _ => rfl) h) ?_
                  have q61 : (pj_fi G57 171 39).toInt = y55.toInt := by rw [show pj_fi G57 171 39 = y55 from by rw [hG57, pj_fi_wa]; exact hy55.symm]
                  have q62 : (pj_fi G57 171 17).toInt = y56.toInt := by rw [show pj_fi G57 171 17 = y56 from by rw [hG57, pj_fi_wa]; exact hy56.symm]
                  exact pj_X_rt rfl rfl ⟨_, rfl, iG57, kG57, ⟨by omega, by omega⟩, by omega⟩
                | false =>
                  have ub60 := pj_u0_ltF b60
                  refine pj_X_of (fun r h => pj_R_ifF rfl b60 h) ?_
                  refine pj_X_of (fun r h => pj_R_to (G57, 183, [(1, .int y1), (0, .ref 171)], [.int (Int32.ofInt 1)], 0, 0) 183 3 (fun _ => rfl) h) ?_
                  have q63 : (pj_fi G57 171 39).toInt = y55.toInt := by rw [show pj_fi G57 171 39 = y55 from by rw [hG57, pj_fi_wa]; exact hy55.symm]
                  have q64 : (pj_fi G57 171 17).toInt = y56.toInt := by rw [show pj_fi G57 171 17 = y56 from by rw [hG57, pj_fi_wa]; exact hy56.symm]
                  exact pj_X_rt rfl rfl ⟨_, rfl, iG57, kG57, ⟨by omega, by omega⟩, by omega⟩
            | false =>
              have ub33 := pj_u0_neF b33
              refine pj_X_of (fun r h => pj_R_ifF rfl b33 h) ?_
              refine pj_X_of (fun r h => pj_R_to (G25, 129, [(1, .int y1), (0, .ref 171)], [.int ((Int8.ofInt 45).toInt32), .ref 171], 0, 0) 129 3 (fun _ => rfl) h) ?_
              have q65 : (pj_fi G25 171 39).toInt = y23.toInt := by rw [show pj_fi G25 171 39 = y23 from by rw [hG25, pj_fi_wa]; exact hy23.symm]
              have q66 : (pj_fi G25 171 17).toInt = y24.toInt := by rw [show pj_fi G25 171 17 = y24 from by rw [hG25, pj_fi_wa]; exact hy24.symm]
              refine pj_X_ca (vs := [.ref 171, .int ((Int8.ofInt 45).toInt32)]) rfl (fun _ => rfl) ⟨Nat.le_of_ble_eq_true rfl, Nat.le_of_ble_eq_true rfl, pj_T_rcv iG25 rfl⟩ ⟨rfl, rfl⟩ (pj_Y_up (by decide) (ct_182 G25 iG25 ((Int8.ofInt 45).toInt32) ⟨by omega, by omega⟩)) ?_
              rintro _ G68 ⟨y67, rfl, iG68, jG68, ry67, ey67⟩
              have kG68 : pj_kpt kc_229 G0 G68 := pj_kpt_t kG25 (pj_kpt_s jG68 rfl)
              have q69 : (pj_fi G68 171 39).toInt = (pj_fi G25 171 39).toInt := by rw [jG68.1 (171, 39) (by decide)]
              obtain ⟨y70, hy70⟩ : ∃ z : Int32, z = pj_fi G68 171 39 := ⟨_, rfl⟩
              have ey70 : (pj_fi G68 171 39).toInt = y70.toInt := by rw [hy70]
              have ry70 : (0 : Int) ≤ y70.toInt ∧ y70.toInt ≤ 60 := by rw [hy70]; exact iG68.2.1 171 39 (0, 60) rfl
              obtain ⟨y71, hy71⟩ : ∃ z : Int32, z = pj_fi G68 171 17 := ⟨_, rfl⟩
              have ey71 : (pj_fi G68 171 17).toInt = y71.toInt := by rw [hy71]
              have ry71 : (0 : Int) ≤ y71.toInt ∧ y71.toInt ≤ 80 := by rw [hy71]; exact iG68.2.1 171 17 (0, 80) rfl
              show pj_X _ _ G68 132 [(1, .int y1), (0, .ref 171)] [.int y67] _
              cases b72 : pj_c1 .eq y67 0 with
              | true =>
                have ub72 := pj_u0_eqT b72
                refine pj_X_of (fun r h => pj_R_ifT 144 rfl rfl b72 h) ?_
                refine pj_X_of (fun r h => pj_R_to (G68, 145, [(1, .int y1), (0, .ref 171)], [.ref 171], 0, 0) 145 2 (fun _ => rfl) h) ?_
                refine pj_X_of (fun r h => pj_T_gr iG68 rfl rfl rfl h) ?_
                refine pj_X_of (fun r h => pj_R_to (G68, 151, [(1, .int y1), (0, .ref 171)], [.ref 171, .ref 171, .int y1, .ref 189], 0, 0) 151 4 (fun _ => rfl) h) ?_
                refine pj_X_of (fun r h => pj_T_gr iG68 rfl rfl rfl h) ?_
                refine pj_X_of (fun r h => pj_R_to (G68, 155, [(1, .int y1), (0, .ref 171)], [.int y1, .ref 187, .ref 171, .int y1, .ref 189], 0, 0) 155 2 (fun _ => rfl) h) ?_
                refine pj_X_of (fun r h => pj_T_il iG68 rfl rfl (by omega) (by omega) h) ?_
                show pj_X _ _ G68 156 [(1, .int y1), (0, .ref 171)] [.int (pj_ai G68 187 y1.toInt.toNat), .ref 171, .int y1, .ref 189] _
                obtain ⟨z73, hz73⟩ : ∃ z : Int32, z = pj_ai G68 187 y1.toInt.toNat := ⟨_, rfl⟩
                refine pj_X_eqi hz73.symm ?_
                have ez73 : (pj_ai G68 187 y1.toInt.toNat).toInt = z73.toInt := by rw [hz73]
                refine pj_X_of (fun r h => pj_R_to (G68, 157, [(1, .int y1), (0, .ref 171)], [.int (Int32.ofInt 1), .int z73, .ref 171, .int y1, .ref 189], 0, 0) 157 2 (fun _ => rfl) h) ?_
                cases b74 : pj_c1 .ne z73 (Int32.ofInt 1) with
                | true =>
                  have ub74 := pj_u_neT b74
                  refine pj_X_of (fun r h => pj_R_icT 164 rfl rfl b74 h) ?_
                  refine pj_X_of (fun r h => pj_R_to (G68, 165, [(1, .int y1), (0, .ref 171)], [.int (Int32.ofInt 1), .ref 171, .int y1, .ref 189], 0, 0) 165 2 (fun _ => rfl) h) ?_
                  have q75 : (pj_fi G68 171 39).toInt = y70.toInt := by rw [show pj_fi G68 171 39 = y70 from hy70.symm]
                  have q76 : (pj_fi G68 171 17).toInt = y71.toInt := by rw [show pj_fi G68 171 17 = y71 from hy71.symm]
                  refine pj_X_ca (vs := [.ref 171, .int (Int32.ofInt 1)]) rfl (fun _ => rfl) ⟨Nat.le_of_ble_eq_true rfl, Nat.le_of_ble_eq_true rfl, pj_T_rcv iG68 rfl⟩ ⟨rfl, rfl⟩ (pj_Y_up (by decide) (ct_186 G68 iG68 (Int32.ofInt 1) ⟨by omega, by omega⟩)) ?_
                  rintro _ G78 ⟨y77, rfl, iG78, jG78, ry77, ey77⟩
                  have kG78 : pj_kpt kc_229 G0 G78 := pj_kpt_t kG68 (pj_kpt_s jG78 rfl)
                  have q79 : (pj_fi G78 171 39).toInt = (pj_fi G68 171 39).toInt := by rw [jG78.1 (171, 39) (by decide)]
                  obtain ⟨y80, hy80⟩ : ∃ z : Int32, z = pj_fi G78 171 39 := ⟨_, rfl⟩
                  have ey80 : (pj_fi G78 171 39).toInt = y80.toInt := by rw [hy80]
                  have ry80 : (0 : Int) ≤ y80.toInt ∧ y80.toInt ≤ 60 := by rw [hy80]; exact iG78.2.1 171 39 (0, 60) rfl
                  obtain ⟨y81, hy81⟩ : ∃ z : Int32, z = pj_fi G78 171 17 := ⟨_, rfl⟩
                  have ey81 : (pj_fi G78 171 17).toInt = y81.toInt := by rw [hy81]
                  have ry81 : (0 : Int) ≤ y81.toInt ∧ y81.toInt ≤ 80 := by rw [hy81]; exact iG78.2.1 171 17 (0, 80) rfl
                  show pj_X _ _ G78 168 [(1, .int y1), (0, .ref 171)] [.int y77, .int y1, .ref 189] _
                  refine pj_X_of (fun r h => pj_T_is iG78 rfl rfl (by omega) (by omega) h) ?_
                  show pj_X _ _ (pj_wa G78 189 y1.toInt.toNat y77) 169 [(1, .int y1), (0, .ref 171)] [] _
                  obtain ⟨G82, hG82⟩ : ∃ H, H = pj_wa G78 189 y1.toInt.toNat y77 := ⟨_, rfl⟩
                  have iG82 : pj_Inv G82 := by rw [hG82]; exact pj_Inv_wa iG78 rfl (fun q hq => by cases hq) (fun n hn => by cases hn)
                  have kG82 : pj_kpt kc_229 G0 G82 := by rw [hG82]; exact pj_kpt_a kG78 rfl
                  rw [← hG82]
                  refine pj_X_of (fun r h => pj_R_to (G82, 170, [(1, .int y1), (0, .ref 171)], [.ref 171], 0, 0) 170 2 (fun _ => rfl) h) ?_
                  refine pj_X_of (fun r h => pj_T_gr iG82 rfl rfl rfl h) ?_
                  refine pj_X_of (fun r h => pj_R_to (G82, 174, [(1, .int y1), (0, .ref 171)], [.int y1, .ref 189], 0, 0) 174 2 (fun _ => rfl) h) ?_
                  refine pj_X_of (fun r h => pj_T_il iG82 rfl rfl (by omega) (by omega) h) ?_
                  show pj_X _ _ G82 175 [(1, .int y1), (0, .ref 171)] [.int (pj_ai G82 189 y1.toInt.toNat)] _
                  obtain ⟨z83, hz83⟩ : ∃ z : Int32, z = pj_ai G82 189 y1.toInt.toNat := ⟨_, rfl⟩
                  refine pj_X_eqi hz83.symm ?_
                  have ez83 : (pj_ai G82 189 y1.toInt.toNat).toInt = z83.toInt := by rw [hz83]
                  have x84 : z83.toInt = y77.toInt := by rw [hz83, show y1.toInt.toNat = y1.toInt.toNat by omega, hG82, pj_ai_wa_eq iG78.1 rfl]
                  cases b85 : pj_c1 .lt z83 0 with
                  | true =>
                    have ub85 := pj_u0_ltT b85
                    refine pj_X_of (fun r h => pj_R_ifT 182 rfl rfl b85 h) ?_
                    refine pj_X_of (fun r h => pj_R_to (G82, 183, [(1, .int y1), (0, .ref 171)], [.int (Int32.ofInt 0)], 0, 0) 183 2 (fun _ => rfl) h) ?_
                    have q86 : (pj_fi G82 171 39).toInt = y80.toInt := by rw [show pj_fi G82 171 39 = y80 from by rw [hG82, pj_fi_wa]; exact hy80.symm]
                    have q87 : (pj_fi G82 171 17).toInt = y81.toInt := by rw [show pj_fi G82 171 17 = y81 from by rw [hG82, pj_fi_wa]; exact hy81.symm]
                    exact pj_X_rt rfl rfl ⟨_, rfl, iG82, kG82, ⟨by omega, by omega⟩, by omega⟩
                  | false =>
                    have ub85 := pj_u0_ltF b85
                    refine pj_X_of (fun r h => pj_R_ifF rfl b85 h) ?_
                    refine pj_X_of (fun r h => pj_R_to (G82, 183, [(1, .int y1), (0, .ref 171)], [.int (Int32.ofInt 1)], 0, 0) 183 3 (fun _ => rfl) h) ?_
                    have q88 : (pj_fi G82 171 39).toInt = y80.toInt := by rw [show pj_fi G82 171 39 = y80 from by rw [hG82, pj_fi_wa]; exact hy80.symm]
                    have q89 : (pj_fi G82 171 17).toInt = y81.toInt := by rw [show pj_fi G82 171 17 = y81 from by rw [hG82, pj_fi_wa]; exact hy81.symm]
                    exact pj_X_rt rfl rfl ⟨_, rfl, iG82, kG82, ⟨by omega, by omega⟩, by omega⟩
                | false =>
                  have ub74 := pj_u_neF b74
                  refine pj_X_of (fun r h => pj_R_icF rfl b74 h) ?_
                  refine pj_X_of (fun r h => pj_R_to (G68, 165, [(1, .int y1), (0, .ref 171)], [.int (Int32.ofInt 3), .ref 171, .int y1, .ref 189], 0, 0) 165 3 (fun _ => rfl) h) ?_
                  have q90 : (pj_fi G68 171 39).toInt = y70.toInt := by rw [show pj_fi G68 171 39 = y70 from hy70.symm]
                  have q91 : (pj_fi G68 171 17).toInt = y71.toInt := by rw [show pj_fi G68 171 17 = y71 from hy71.symm]
                  refine pj_X_ca (vs := [.ref 171, .int (Int32.ofInt 3)]) rfl (fun _ => rfl) ⟨Nat.le_of_ble_eq_true rfl, Nat.le_of_ble_eq_true rfl, pj_T_rcv iG68 rfl⟩ ⟨rfl, rfl⟩ (pj_Y_up (by decide) (ct_186 G68 iG68 (Int32.ofInt 3) ⟨by omega, by omega⟩)) ?_
                  rintro _ G93 ⟨y92, rfl, iG93, jG93, ry92, ey92⟩
                  have kG93 : pj_kpt kc_229 G0 G93 := pj_kpt_t kG68 (pj_kpt_s jG93 rfl)
                  have q94 : (pj_fi G93 171 39).toInt = (pj_fi G68 171 39).toInt := by rw [jG93.1 (171, 39) (by decide)]
                  obtain ⟨y95, hy95⟩ : ∃ z : Int32, z = pj_fi G93 171 39 := ⟨_, rfl⟩
                  have ey95 : (pj_fi G93 171 39).toInt = y95.toInt := by rw [hy95]
                  have ry95 : (0 : Int) ≤ y95.toInt ∧ y95.toInt ≤ 60 := by rw [hy95]; exact iG93.2.1 171 39 (0, 60) rfl
                  obtain ⟨y96, hy96⟩ : ∃ z : Int32, z = pj_fi G93 171 17 := ⟨_, rfl⟩
                  have ey96 : (pj_fi G93 171 17).toInt = y96.toInt := by rw [hy96]
                  have ry96 : (0 : Int) ≤ y96.toInt ∧ y96.toInt ≤ 80 := by rw [hy96]; exact iG93.2.1 171 17 (0, 80) rfl
                  show pj_X _ _ G93 168 [(1, .int y1), (0, .ref 171)] [.int y92, .int y1, .ref 189] _
                  refine pj_X_of (fun r h => pj_T_is iG93 rfl rfl (by omega) (by omega) h) ?_
                  show pj_X _ _ (pj_wa G93 189 y1.toInt.toNat y92) 169 [(1, .int y1), (0, .ref 171)] [] _
                  obtain ⟨G97, hG97⟩ : ∃ H, H = pj_wa G93 189 y1.toInt.toNat y92 := ⟨_, rfl⟩
                  have iG97 : pj_Inv G97 := by rw [hG97]; exact pj_Inv_wa iG93 rfl (fun q hq => by cases hq) (fun n hn => by cases hn)
                  have kG97 : pj_kpt kc_229 G0 G97 := by rw [hG97]; exact pj_kpt_a kG93 rfl
                  rw [← hG97]
                  refine pj_X_of (fun r h => pj_R_to (G97, 170, [(1, .int y1), (0, .ref 171)], [.ref 171], 0, 0) 170 2 (fun _ => rfl) h) ?_
                  refine pj_X_of (fun r h => pj_T_gr iG97 rfl rfl rfl h) ?_
                  refine pj_X_of (fun r h => pj_R_to (G97, 174, [(1, .int y1), (0, .ref 171)], [.int y1, .ref 189], 0, 0) 174 2 (fun _ => rfl) h) ?_
                  refine pj_X_of (fun r h => pj_T_il iG97 rfl rfl (by omega) (by omega) h) ?_
                  show pj_X _ _ G97 175 [(1, .int y1), (0, .ref 171)] [.int (pj_ai G97 189 y1.toInt.toNat)] _
                  obtain ⟨z98, hz98⟩ : ∃ z : Int32, z = pj_ai G97 189 y1.toInt.toNat := ⟨_, rfl⟩
                  refine pj_X_eqi hz98.symm ?_
                  have ez98 : (pj_ai G97 189 y1.toInt.toNat).toInt = z98.toInt := by rw [hz98]
                  have x99 : z98.toInt = y92.toInt := by rw [hz98, show y1.toInt.toNat = y1.toInt.toNat by omega, hG97, pj_ai_wa_eq iG93.1 rfl]
                  cases b100 : pj_c1 .lt z98 0 with
                  | true =>
                    have ub100 := pj_u0_ltT b100
                    refine pj_X_of (fun r h => pj_R_ifT 182 rfl rfl b100 h) ?_
                    refine pj_X_of (fun r h => pj_R_to (G97, 183, [(1, .int y1), (0, .ref 171)], [.int (Int32.ofInt 0)], 0, 0) 183 2 (fun _ => rfl) h) ?_
                    have q101 : (pj_fi G97 171 39).toInt = y95.toInt := by rw [show pj_fi G97 171 39 = y95 from by rw [hG97, pj_fi_wa]; exact hy95.symm]
                    have q102 : (pj_fi G97 171 17).toInt = y96.toInt := by rw [show pj_fi G97 171 17 = y96 from by rw [hG97, pj_fi_wa]; exact hy96.symm]
                    exact pj_X_rt rfl rfl ⟨_, rfl, iG97, kG97, ⟨by omega, by omega⟩, by omega⟩
                  | false =>
                    have ub100 := pj_u0_ltF b100
                    refine pj_X_of (fun r h => pj_R_ifF rfl b100 h) ?_
                    refine pj_X_of (fun r h => pj_R_to (G97, 183, [(1, .int y1), (0, .ref 171)], [.int (Int32.ofInt 1)], 0, 0) 183 3 (fun _ => rfl) h) ?_
                    have q103 : (pj_fi G97 171 39).toInt = y95.toInt := by rw [show pj_fi G97 171 39 = y95 from by rw [hG97, pj_fi_wa]; exact hy95.symm]
                    have q104 : (pj_fi G97 171 17).toInt = y96.toInt := by rw [show pj_fi G97 171 17 = y96 from by rw [hG97, pj_fi_wa]; exact hy96.symm]
                    exact pj_X_rt rfl rfl ⟨_, rfl, iG97, kG97, ⟨by omega, by omega⟩, by omega⟩
              | false =>
                have ub72 := pj_u0_eqF b72
                refine pj_X_of (fun r h => pj_R_ifF rfl b72 h) ?_
                refine pj_X_of (fun r h => pj_R_to (G68, 136, [(1, .int y1), (0, .ref 171)], [.ref 171], 0, 0) 136 2 (fun _ => rfl) h) ?_
                refine pj_X_of (fun r h => pj_T_gr iG68 rfl rfl rfl h) ?_
                refine pj_X_of (fun r h => pj_R_to (G68, 141, [(1, .int y1), (0, .ref 171)], [.int (Int32.ofInt (-1)), .int y1, .ref 189], 0, 0) 141 3 (fun _ => rfl) h) ?_
                refine pj_X_of (fun r h => pj_T_is iG68 rfl rfl (by omega) (by omega) h) ?_
                show pj_X _ _ (pj_wa G68 189 y1.toInt.toNat (Int32.ofInt (-1))) 142 [(1, .int y1), (0, .ref 171)] [] _
                obtain ⟨G105, hG105⟩ : ∃ H, H = pj_wa G68 189 y1.toInt.toNat (Int32.ofInt (-1)) := ⟨_, rfl⟩
                have iG105 : pj_Inv G105 := by rw [hG105]; exact pj_Inv_wa iG68 rfl (fun q hq => by cases hq) (fun n hn => by cases hn)
                have kG105 : pj_kpt kc_229 G0 G105 := by rw [hG105]; exact pj_kpt_a kG68 rfl
                rw [← hG105]
                refine pj_X_of (fun r h => pj_R_to (G105, 143, [(1, .int y1), (0, .ref 171)], [.int (Int32.ofInt 1)], 0, 0) 143 2 (fun _ => rfl) h) ?_
                have q106 : (pj_fi G105 171 39).toInt = y70.toInt := by rw [show pj_fi G105 171 39 = y70 from by rw [hG105, pj_fi_wa]; exact hy70.symm]
                have q107 : (pj_fi G105 171 17).toInt = y71.toInt := by rw [show pj_fi G105 171 17 = y71 from by rw [hG105, pj_fi_wa]; exact hy71.symm]
                exact pj_X_rt rfl rfl ⟨_, rfl, iG105, kG105, ⟨by omega, by omega⟩, by omega⟩
          | false =>
            have ub32 := pj_u_neF b32
            refine pj_X_of (fun r h => pj_R_icF rfl b32 h) ?_
            refine pj_X_of (fun r h => pj_R_to (G25, 103, [(1, .int y1), (0, .ref 171)], [.ref 171], 0, 0) 103 2 (fun _ => rfl) h) ?_
            refine pj_X_of (fun r h => pj_T_gr iG25 rfl rfl rfl h) ?_
            refine pj_X_of (fun r h => pj_R_to (G25, 107, [(1, .int y1), (0, .ref 171)], [.int y1, .ref 188], 0, 0) 107 2 (fun _ => rfl) h) ?_
            refine pj_X_of (fun r h => pj_T_il iG25 rfl rfl (by omega) (by omega) h) ?_
            show pj_X _ _ G25 108 [(1, .int y1), (0, .ref 171)] [.int (pj_ai G25 188 y1.toInt.toNat)] _
            refine pj_X_eqi hz26.symm ?_
            refine pj_X_of (fun r h => pj_R_ifF rfl (pj_b0_ltF (by omega)) h) ?_
            refine pj_X_of (fun r h => pj_R_to (G25, 116, [(1, .int y1), (0, .ref 171)], [.int (Int32.ofInt 1)], 0, 0) 116 3 (fun _ => rfl) h) ?_
            have q108 : (pj_fi G25 171 39).toInt = y23.toInt := by rw [show pj_fi G25 171 39 = y23 from by rw [hG25, pj_fi_wa]; exact hy23.symm]
            have q109 : (pj_fi G25 171 17).toInt = y24.toInt := by rw [show pj_fi G25 171 17 = y24 from by rw [hG25, pj_fi_wa]; exact hy24.symm]
            exact pj_X_rt rfl rfl ⟨_, rfl, iG25, kG25, ⟨by omega, by omega⟩, by omega⟩
      | false =>
        have ub17 := pj_u_neF b17
        refine pj_X_of (fun r h => pj_R_icF rfl b17 h) ?_
        refine pj_X_of (fun r h => pj_R_to (G12, 79, [(1, .int y1), (0, .ref 171)], [.int (Int32.ofInt 2), .ref 171, .int y1, .ref 188], 0, 0) 79 3 (fun _ => rfl) h) ?_
        have q110 : (pj_fi G12 171 39).toInt = z11.toInt := by rw [show pj_fi G12 171 39 = z11 from by rw [hG12]; exact pj_fi_wi iG10.1 (ci := 12) rfl _]
        have q111 : (pj_fi G12 171 17).toInt = y9.toInt := by rw [show pj_fi G12 171 17 = y9 from by rw [hG12, pj_fi_wv_ne _ _ _ _ _ _ (by decide)]; exact (by rw [hG10, pj_fi_wa]; exact hy9.symm)]
        refine pj_X_ca (vs := [.ref 171, .int (Int32.ofInt 2)]) rfl (fun _ => rfl) ⟨Nat.le_of_ble_eq_true rfl, Nat.le_of_ble_eq_true rfl, pj_T_rcv iG12 rfl⟩ ⟨rfl, rfl⟩ (pj_Y_up (by decide) (ct_186 G12 iG12 (Int32.ofInt 2) ⟨by omega, by omega⟩)) ?_
        rintro _ G113 ⟨y112, rfl, iG113, jG113, ry112, ey112⟩
        have kG113 : pj_kpt kc_229 G0 G113 := pj_kpt_t kG12 (pj_kpt_s jG113 rfl)
        have q114 : (pj_fi G113 171 39).toInt = (pj_fi G12 171 39).toInt := by rw [jG113.1 (171, 39) (by decide)]
        obtain ⟨y115, hy115⟩ : ∃ z : Int32, z = pj_fi G113 171 39 := ⟨_, rfl⟩
        have ey115 : (pj_fi G113 171 39).toInt = y115.toInt := by rw [hy115]
        have ry115 : (0 : Int) ≤ y115.toInt ∧ y115.toInt ≤ 60 := by rw [hy115]; exact iG113.2.1 171 39 (0, 60) rfl
        obtain ⟨y116, hy116⟩ : ∃ z : Int32, z = pj_fi G113 171 17 := ⟨_, rfl⟩
        have ey116 : (pj_fi G113 171 17).toInt = y116.toInt := by rw [hy116]
        have ry116 : (0 : Int) ≤ y116.toInt ∧ y116.toInt ≤ 80 := by rw [hy116]; exact iG113.2.1 171 17 (0, 80) rfl
        show pj_X _ _ G113 82 [(1, .int y1), (0, .ref 171)] [.int y112, .int y1, .ref 188] _
        refine pj_X_of (fun r h => pj_T_is iG113 rfl rfl (by omega) (by omega) h) ?_
        show pj_X _ _ (pj_wa G113 188 y1.toInt.toNat y112) 83 [(1, .int y1), (0, .ref 171)] [] _
        obtain ⟨G117, hG117⟩ : ∃ H, H = pj_wa G113 188 y1.toInt.toNat y112 := ⟨_, rfl⟩
        have iG117 : pj_Inv G117 := by rw [hG117]; exact pj_Inv_wa iG113 rfl (fun q hq => by cases hq) (fun n hn => by cases hn)
        have kG117 : pj_kpt kc_229 G0 G117 := by rw [hG117]; exact pj_kpt_a kG113 rfl
        rw [← hG117]
        refine pj_X_of (fun r h => pj_R_to (G117, 84, [(1, .int y1), (0, .ref 171)], [.ref 171], 0, 0) 84 2 (fun _ => rfl) h) ?_
        refine pj_X_of (fun r h => pj_T_gr iG117 rfl rfl rfl h) ?_
        refine pj_X_of (fun r h => pj_R_to (G117, 88, [(1, .int y1), (0, .ref 171)], [.int y1, .ref 188], 0, 0) 88 2 (fun _ => rfl) h) ?_
        refine pj_X_of (fun r h => pj_T_il iG117 rfl rfl (by omega) (by omega) h) ?_
        show pj_X _ _ G117 89 [(1, .int y1), (0, .ref 171)] [.int (pj_ai G117 188 y1.toInt.toNat)] _
        obtain ⟨z118, hz118⟩ : ∃ z : Int32, z = pj_ai G117 188 y1.toInt.toNat := ⟨_, rfl⟩
        refine pj_X_eqi hz118.symm ?_
        have ez118 : (pj_ai G117 188 y1.toInt.toNat).toInt = z118.toInt := by rw [hz118]
        have x119 : z118.toInt = y112.toInt := by rw [hz118, show y1.toInt.toNat = y1.toInt.toNat by omega, hG117, pj_ai_wa_eq iG113.1 rfl]
        cases b120 : pj_c1 .lt z118 0 with
        | true =>
          have ub120 := pj_u0_ltT b120
          refine pj_X_of (fun r h => pj_R_ifT 102 rfl rfl b120 h) ?_
          refine pj_X_of (fun r h => pj_R_to (G117, 103, [(1, .int y1), (0, .ref 171)], [.ref 171], 0, 0) 103 2 (fun _ => rfl) h) ?_
          refine pj_X_of (fun r h => pj_T_gr iG117 rfl rfl rfl h) ?_
          refine pj_X_of (fun r h => pj_R_to (G117, 107, [(1, .int y1), (0, .ref 171)], [.int y1, .ref 188], 0, 0) 107 2 (fun _ => rfl) h) ?_
          refine pj_X_of (fun r h => pj_T_il iG117 rfl rfl (by omega) (by omega) h) ?_
          show pj_X _ _ G117 108 [(1, .int y1), (0, .ref 171)] [.int (pj_ai G117 188 y1.toInt.toNat)] _
          refine pj_X_eqi hz118.symm ?_
          refine pj_X_of (fun r h => pj_R_ifT 115 rfl rfl (pj_b0_ltT (by omega)) h) ?_
          refine pj_X_of (fun r h => pj_R_to (G117, 116, [(1, .int y1), (0, .ref 171)], [.int (Int32.ofInt 0)], 0, 0) 116 2 (fun _ => rfl) h) ?_
          have q121 : (pj_fi G117 171 39).toInt = y115.toInt := by rw [show pj_fi G117 171 39 = y115 from by rw [hG117, pj_fi_wa]; exact hy115.symm]
          have q122 : (pj_fi G117 171 17).toInt = y116.toInt := by rw [show pj_fi G117 171 17 = y116 from by rw [hG117, pj_fi_wa]; exact hy116.symm]
          exact pj_X_rt rfl rfl ⟨_, rfl, iG117, kG117, ⟨by omega, by omega⟩, by omega⟩
        | false =>
          have ub120 := pj_u0_ltF b120
          refine pj_X_of (fun r h => pj_R_ifF rfl b120 h) ?_
          refine pj_X_of (fun r h => pj_R_to (G117, 93, [(1, .int y1), (0, .ref 171)], [.ref 171], 0, 0) 93 2 (fun _ => rfl) h) ?_
          refine pj_X_of (fun r h => pj_T_gr iG117 rfl rfl rfl h) ?_
          refine pj_X_of (fun r h => pj_R_to (G117, 97, [(1, .int y1), (0, .ref 171)], [.int y1, .ref 187], 0, 0) 97 2 (fun _ => rfl) h) ?_
          refine pj_X_of (fun r h => pj_T_il iG117 rfl rfl (by omega) (by omega) h) ?_
          show pj_X _ _ G117 98 [(1, .int y1), (0, .ref 171)] [.int (pj_ai G117 187 y1.toInt.toNat)] _
          obtain ⟨z123, hz123⟩ : ∃ z : Int32, z = pj_ai G117 187 y1.toInt.toNat := ⟨_, rfl⟩
          refine pj_X_eqi hz123.symm ?_
          have ez123 : (pj_ai G117 187 y1.toInt.toNat).toInt = z123.toInt := by rw [hz123]
          refine pj_X_of (fun r h => pj_R_to (G117, 99, [(1, .int y1), (0, .ref 171)], [.int (Int32.ofInt 3), .int z123], 0, 0) 99 2 (fun _ => rfl) h) ?_
          cases b124 : pj_c1 .ne z123 (Int32.ofInt 3) with
          | true =>
            have ub124 := pj_u_neT b124
            refine pj_X_of (fun r h => pj_R_icT 117 rfl rfl b124 h) ?_
            refine pj_X_of (fun r h => pj_R_to (G117, 118, [(1, .int y1), (0, .ref 171)], [.ref 171], 0, 0) 118 2 (fun _ => rfl) h) ?_
            refine pj_X_of (fun r h => pj_T_gr iG117 rfl rfl rfl h) ?_
            refine pj_X_of (fun r h => pj_R_to (G117, 122, [(1, .int y1), (0, .ref 171)], [.int y1, .ref 187], 0, 0) 122 2 (fun _ => rfl) h) ?_
            refine pj_X_of (fun r h => pj_T_il iG117 rfl rfl (by omega) (by omega) h) ?_
            show pj_X _ _ G117 123 [(1, .int y1), (0, .ref 171)] [.int (pj_ai G117 187 y1.toInt.toNat)] _
            refine pj_X_eqi hz123.symm ?_
            cases b125 : pj_c1 .ne z123 0 with
            | true =>
              have ub125 := pj_u0_neT b125
              refine pj_X_of (fun r h => pj_R_ifT 144 rfl rfl b125 h) ?_
              refine pj_X_of (fun r h => pj_R_to (G117, 145, [(1, .int y1), (0, .ref 171)], [.ref 171], 0, 0) 145 2 (fun _ => rfl) h) ?_
              refine pj_X_of (fun r h => pj_T_gr iG117 rfl rfl rfl h) ?_
              refine pj_X_of (fun r h => pj_R_to (G117, 151, [(1, .int y1), (0, .ref 171)], [.ref 171, .ref 171, .int y1, .ref 189], 0, 0) 151 4 (fun _ => rfl) h) ?_
              refine pj_X_of (fun r h => pj_T_gr iG117 rfl rfl rfl h) ?_
              refine pj_X_of (fun r h => pj_R_to (G117, 155, [(1, .int y1), (0, .ref 171)], [.int y1, .ref 187, .ref 171, .int y1, .ref 189], 0, 0) 155 2 (fun _ => rfl) h) ?_
              refine pj_X_of (fun r h => pj_T_il iG117 rfl rfl (by omega) (by omega) h) ?_
              show pj_X _ _ G117 156 [(1, .int y1), (0, .ref 171)] [.int (pj_ai G117 187 y1.toInt.toNat), .ref 171, .int y1, .ref 189] _
              refine pj_X_eqi hz123.symm ?_
              refine pj_X_of (fun r h => pj_R_to (G117, 157, [(1, .int y1), (0, .ref 171)], [.int (Int32.ofInt 1), .int z123, .ref 171, .int y1, .ref 189], 0, 0) 157 2 (fun _ => rfl) h) ?_
              cases b126 : pj_c1 .ne z123 (Int32.ofInt 1) with
              | true =>
                have ub126 := pj_u_neT b126
                refine pj_X_of (fun r h => pj_R_icT 164 rfl rfl b126 h) ?_
                refine pj_X_of (fun r h => pj_R_to (G117, 165, [(1, .int y1), (0, .ref 171)], [.int (Int32.ofInt 1), .ref 171, .int y1, .ref 189], 0, 0) 165 2 (fun _ => rfl) h) ?_
                have q127 : (pj_fi G117 171 39).toInt = y115.toInt := by rw [show pj_fi G117 171 39 = y115 from by rw [hG117, pj_fi_wa]; exact hy115.symm]
                have q128 : (pj_fi G117 171 17).toInt = y116.toInt := by rw [show pj_fi G117 171 17 = y116 from by rw [hG117, pj_fi_wa]; exact hy116.symm]
                refine pj_X_ca (vs := [.ref 171, .int (Int32.ofInt 1)]) rfl (fun _ => rfl) ⟨Nat.le_of_ble_eq_true rfl, Nat.le_of_ble_eq_true rfl, pj_T_rcv iG117 rfl⟩ ⟨rfl, rfl⟩ (pj_Y_up (by decide) (ct_186 G117 iG117 (Int32.ofInt 1) ⟨by omega, by omega⟩)) ?_
                rintro _ G130 ⟨y129, rfl, iG130, jG130, ry129, ey129⟩
                have kG130 : pj_kpt kc_229 G0 G130 := pj_kpt_t kG117 (pj_kpt_s jG130 rfl)
                have q131 : (pj_fi G130 171 39).toInt = (pj_fi G117 171 39).toInt := by rw [jG130.1 (171, 39) (by decide)]
                obtain ⟨y132, hy132⟩ : ∃ z : Int32, z = pj_fi G130 171 39 := ⟨_, rfl⟩
                have ey132 : (pj_fi G130 171 39).toInt = y132.toInt := by rw [hy132]
                have ry132 : (0 : Int) ≤ y132.toInt ∧ y132.toInt ≤ 60 := by rw [hy132]; exact iG130.2.1 171 39 (0, 60) rfl
                obtain ⟨y133, hy133⟩ : ∃ z : Int32, z = pj_fi G130 171 17 := ⟨_, rfl⟩
                have ey133 : (pj_fi G130 171 17).toInt = y133.toInt := by rw [hy133]
                have ry133 : (0 : Int) ≤ y133.toInt ∧ y133.toInt ≤ 80 := by rw [hy133]; exact iG130.2.1 171 17 (0, 80) rfl
                show pj_X _ _ G130 168 [(1, .int y1), (0, .ref 171)] [.int y129, .int y1, .ref 189] _
                refine pj_X_of (fun r h => pj_T_is iG130 rfl rfl (by omega) (by omega) h) ?_
                show pj_X _ _ (pj_wa G130 189 y1.toInt.toNat y129) 169 [(1, .int y1), (0, .ref 171)] [] _
                obtain ⟨G134, hG134⟩ : ∃ H, H = pj_wa G130 189 y1.toInt.toNat y129 := ⟨_, rfl⟩
                have iG134 : pj_Inv G134 := by rw [hG134]; exact pj_Inv_wa iG130 rfl (fun q hq => by cases hq) (fun n hn => by cases hn)
                have kG134 : pj_kpt kc_229 G0 G134 := by rw [hG134]; exact pj_kpt_a kG130 rfl
                rw [← hG134]
                refine pj_X_of (fun r h => pj_R_to (G134, 170, [(1, .int y1), (0, .ref 171)], [.ref 171], 0, 0) 170 2 (fun _ => rfl) h) ?_
                refine pj_X_of (fun r h => pj_T_gr iG134 rfl rfl rfl h) ?_
                refine pj_X_of (fun r h => pj_R_to (G134, 174, [(1, .int y1), (0, .ref 171)], [.int y1, .ref 189], 0, 0) 174 2 (fun _ => rfl) h) ?_
                refine pj_X_of (fun r h => pj_T_il iG134 rfl rfl (by omega) (by omega) h) ?_
                show pj_X _ _ G134 175 [(1, .int y1), (0, .ref 171)] [.int (pj_ai G134 189 y1.toInt.toNat)] _
                obtain ⟨z135, hz135⟩ : ∃ z : Int32, z = pj_ai G134 189 y1.toInt.toNat := ⟨_, rfl⟩
                refine pj_X_eqi hz135.symm ?_
                have ez135 : (pj_ai G134 189 y1.toInt.toNat).toInt = z135.toInt := by rw [hz135]
                have x136 : z135.toInt = y129.toInt := by rw [hz135, show y1.toInt.toNat = y1.toInt.toNat by omega, hG134, pj_ai_wa_eq iG130.1 rfl]
                cases b137 : pj_c1 .lt z135 0 with
                | true =>
                  have ub137 := pj_u0_ltT b137
                  refine pj_X_of (fun r h => pj_R_ifT 182 rfl rfl b137 h) ?_
                  refine pj_X_of (fun r h => pj_R_to (G134, 183, [(1, .int y1), (0, .ref 171)], [.int (Int32.ofInt 0)], 0, 0) 183 2 (fun _ => rfl) h) ?_
                  have q138 : (pj_fi G134 171 39).toInt = y132.toInt := by rw [show pj_fi G134 171 39 = y132 from by rw [hG134, pj_fi_wa]; exact hy132.symm]
                  have q139 : (pj_fi G134 171 17).toInt = y133.toInt := by rw [show pj_fi G134 171 17 = y133 from by rw [hG134, pj_fi_wa]; exact hy133.symm]
                  exact pj_X_rt rfl rfl ⟨_, rfl, iG134, kG134, ⟨by omega, by omega⟩, by omega⟩
                | false =>
                  have ub137 := pj_u0_ltF b137
                  refine pj_X_of (fun r h => pj_R_ifF rfl b137 h) ?_
                  refine pj_X_of (fun r h => pj_R_to (G134, 183, [(1, .int y1), (0, .ref 171)], [.int (Int32.ofInt 1)], 0, 0) 183 3 (fun _ => rfl) h) ?_
                  have q140 : (pj_fi G134 171 39).toInt = y132.toInt := by rw [show pj_fi G134 171 39 = y132 from by rw [hG134, pj_fi_wa]; exact hy132.symm]
                  have q141 : (pj_fi G134 171 17).toInt = y133.toInt := by rw [show pj_fi G134 171 17 = y133 from by rw [hG134, pj_fi_wa]; exact hy133.symm]
                  exact pj_X_rt rfl rfl ⟨_, rfl, iG134, kG134, ⟨by omega, by omega⟩, by omega⟩
              | false =>
                have ub126 := pj_u_neF b126
                refine pj_X_of (fun r h => pj_R_icF rfl b126 h) ?_
                refine pj_X_of (fun r h => pj_R_to (G117, 165, [(1, .int y1), (0, .ref 171)], [.int (Int32.ofInt 3), .ref 171, .int y1, .ref 189], 0, 0) 165 3 (fun _ => rfl) h) ?_
                have q142 : (pj_fi G117 171 39).toInt = y115.toInt := by rw [show pj_fi G117 171 39 = y115 from by rw [hG117, pj_fi_wa]; exact hy115.symm]
                have q143 : (pj_fi G117 171 17).toInt = y116.toInt := by rw [show pj_fi G117 171 17 = y116 from by rw [hG117, pj_fi_wa]; exact hy116.symm]
                refine pj_X_ca (vs := [.ref 171, .int (Int32.ofInt 3)]) rfl (fun _ => rfl) ⟨Nat.le_of_ble_eq_true rfl, Nat.le_of_ble_eq_true rfl, pj_T_rcv iG117 rfl⟩ ⟨rfl, rfl⟩ (pj_Y_up (by decide) (ct_186 G117 iG117 (Int32.ofInt 3) ⟨by omega, by omega⟩)) ?_
                rintro _ G145 ⟨y144, rfl, iG145, jG145, ry144, ey144⟩
                have kG145 : pj_kpt kc_229 G0 G145 := pj_kpt_t kG117 (pj_kpt_s jG145 rfl)
                have q146 : (pj_fi G145 171 39).toInt = (pj_fi G117 171 39).toInt := by rw [jG145.1 (171, 39) (by decide)]
                obtain ⟨y147, hy147⟩ : ∃ z : Int32, z = pj_fi G145 171 39 := ⟨_, rfl⟩
                have ey147 : (pj_fi G145 171 39).toInt = y147.toInt := by rw [hy147]
                have ry147 : (0 : Int) ≤ y147.toInt ∧ y147.toInt ≤ 60 := by rw [hy147]; exact iG145.2.1 171 39 (0, 60) rfl
                obtain ⟨y148, hy148⟩ : ∃ z : Int32, z = pj_fi G145 171 17 := ⟨_, rfl⟩
                have ey148 : (pj_fi G145 171 17).toInt = y148.toInt := by rw [hy148]
                have ry148 : (0 : Int) ≤ y148.toInt ∧ y148.toInt ≤ 80 := by rw [hy148]; exact iG145.2.1 171 17 (0, 80) rfl
                show pj_X _ _ G145 168 [(1, .int y1), (0, .ref 171)] [.int y144, .int y1, .ref 189] _
                refine pj_X_of (fun r h => pj_T_is iG145 rfl rfl (by omega) (by omega) h) ?_
                show pj_X _ _ (pj_wa G145 189 y1.toInt.toNat y144) 169 [(1, .int y1), (0, .ref 171)] [] _
                obtain ⟨G149, hG149⟩ : ∃ H, H = pj_wa G145 189 y1.toInt.toNat y144 := ⟨_, rfl⟩
                have iG149 : pj_Inv G149 := by rw [hG149]; exact pj_Inv_wa iG145 rfl (fun q hq => by cases hq) (fun n hn => by cases hn)
                have kG149 : pj_kpt kc_229 G0 G149 := by rw [hG149]; exact pj_kpt_a kG145 rfl
                rw [← hG149]
                refine pj_X_of (fun r h => pj_R_to (G149, 170, [(1, .int y1), (0, .ref 171)], [.ref 171], 0, 0) 170 2 (fun _ => rfl) h) ?_
                refine pj_X_of (fun r h => pj_T_gr iG149 rfl rfl rfl h) ?_
                refine pj_X_of (fun r h => pj_R_to (G149, 174, [(1, .int y1), (0, .ref 171)], [.int y1, .ref 189], 0, 0) 174 2 (fun _ => rfl) h) ?_
                refine pj_X_of (fun r h => pj_T_il iG149 rfl rfl (by omega) (by omega) h) ?_
                show pj_X _ _ G149 175 [(1, .int y1), (0, .ref 171)] [.int (pj_ai G149 189 y1.toInt.toNat)] _
                obtain ⟨z150, hz150⟩ : ∃ z : Int32, z = pj_ai G149 189 y1.toInt.toNat := ⟨_, rfl⟩
                refine pj_X_eqi hz150.symm ?_
                have ez150 : (pj_ai G149 189 y1.toInt.toNat).toInt = z150.toInt := by rw [hz150]
                have x151 : z150.toInt = y144.toInt := by rw [hz150, show y1.toInt.toNat = y1.toInt.toNat by omega, hG149, pj_ai_wa_eq iG145.1 rfl]
                cases b152 : pj_c1 .lt z150 0 with
                | true =>
                  have ub152 := pj_u0_ltT b152
                  refine pj_X_of (fun r h => pj_R_ifT 182 rfl rfl b152 h) ?_
                  refine pj_X_of (fun r h => pj_R_to (G149, 183, [(1, .int y1), (0, .ref 171)], [.int (Int32.ofInt 0)], 0, 0) 183 2 (fun _ => rfl) h) ?_
                  have q153 : (pj_fi G149 171 39).toInt = y147.toInt := by rw [show pj_fi G149 171 39 = y147 from by rw [hG149, pj_fi_wa]; exact hy147.symm]
                  have q154 : (pj_fi G149 171 17).toInt = y148.toInt := by rw [show pj_fi G149 171 17 = y148 from by rw [hG149, pj_fi_wa]; exact hy148.symm]
                  exact pj_X_rt rfl rfl ⟨_, rfl, iG149, kG149, ⟨by omega, by omega⟩, by omega⟩
                | false =>
                  have ub152 := pj_u0_ltF b152
                  refine pj_X_of (fun r h => pj_R_ifF rfl b152 h) ?_
                  refine pj_X_of (fun r h => pj_R_to (G149, 183, [(1, .int y1), (0, .ref 171)], [.int (Int32.ofInt 1)], 0, 0) 183 3 (fun _ => rfl) h) ?_
                  have q155 : (pj_fi G149 171 39).toInt = y147.toInt := by rw [show pj_fi G149 171 39 = y147 from by rw [hG149, pj_fi_wa]; exact hy147.symm]
                  have q156 : (pj_fi G149 171 17).toInt = y148.toInt := by rw [show pj_fi G149 171 17 = y148 from by rw [hG149, pj_fi_wa]; exact hy148.symm]
                  exact pj_X_rt rfl rfl ⟨_, rfl, iG149, kG149, ⟨by omega, by omega⟩, by omega⟩
            | false =>
              have ub125 := pj_u0_neF b125
              refine pj_X_of (fun r h => pj_R_ifF rfl b125 h) ?_
              refine pj_X_of (fun r h => pj_R_to (G117, 129, [(1, .int y1), (0, .ref 171)], [.int ((Int8.ofInt 45).toInt32), .ref 171], 0, 0) 129 3 (fun _ => rfl) h) ?_
              have q157 : (pj_fi G117 171 39).toInt = y115.toInt := by rw [show pj_fi G117 171 39 = y115 from by rw [hG117, pj_fi_wa]; exact hy115.symm]
              have q158 : (pj_fi G117 171 17).toInt = y116.toInt := by rw [show pj_fi G117 171 17 = y116 from by rw [hG117, pj_fi_wa]; exact hy116.symm]
              refine pj_X_ca (vs := [.ref 171, .int ((Int8.ofInt 45).toInt32)]) rfl (fun _ => rfl) ⟨Nat.le_of_ble_eq_true rfl, Nat.le_of_ble_eq_true rfl, pj_T_rcv iG117 rfl⟩ ⟨rfl, rfl⟩ (pj_Y_up (by decide) (ct_182 G117 iG117 ((Int8.ofInt 45).toInt32) ⟨by omega, by omega⟩)) ?_
              rintro _ G160 ⟨y159, rfl, iG160, jG160, ry159, ey159⟩
              have kG160 : pj_kpt kc_229 G0 G160 := pj_kpt_t kG117 (pj_kpt_s jG160 rfl)
              have q161 : (pj_fi G160 171 39).toInt = (pj_fi G117 171 39).toInt := by rw [jG160.1 (171, 39) (by decide)]
              obtain ⟨y162, hy162⟩ : ∃ z : Int32, z = pj_fi G160 171 39 := ⟨_, rfl⟩
              have ey162 : (pj_fi G160 171 39).toInt = y162.toInt := by rw [hy162]
              have ry162 : (0 : Int) ≤ y162.toInt ∧ y162.toInt ≤ 60 := by rw [hy162]; exact iG160.2.1 171 39 (0, 60) rfl
              obtain ⟨y163, hy163⟩ : ∃ z : Int32, z = pj_fi G160 171 17 := ⟨_, rfl⟩
              have ey163 : (pj_fi G160 171 17).toInt = y163.toInt := by rw [hy163]
              have ry163 : (0 : Int) ≤ y163.toInt ∧ y163.toInt ≤ 80 := by rw [hy163]; exact iG160.2.1 171 17 (0, 80) rfl
              show pj_X _ _ G160 132 [(1, .int y1), (0, .ref 171)] [.int y159] _
              cases b164 : pj_c1 .eq y159 0 with
              | true =>
                have ub164 := pj_u0_eqT b164
                refine pj_X_of (fun r h => pj_R_ifT 144 rfl rfl b164 h) ?_
                refine pj_X_of (fun r h => pj_R_to (G160, 145, [(1, .int y1), (0, .ref 171)], [.ref 171], 0, 0) 145 2 (fun _ => rfl) h) ?_
                refine pj_X_of (fun r h => pj_T_gr iG160 rfl rfl rfl h) ?_
                refine pj_X_of (fun r h => pj_R_to (G160, 151, [(1, .int y1), (0, .ref 171)], [.ref 171, .ref 171, .int y1, .ref 189], 0, 0) 151 4 (fun _ => rfl) h) ?_
                refine pj_X_of (fun r h => pj_T_gr iG160 rfl rfl rfl h) ?_
                refine pj_X_of (fun r h => pj_R_to (G160, 155, [(1, .int y1), (0, .ref 171)], [.int y1, .ref 187, .ref 171, .int y1, .ref 189], 0, 0) 155 2 (fun _ => rfl) h) ?_
                refine pj_X_of (fun r h => pj_T_il iG160 rfl rfl (by omega) (by omega) h) ?_
                show pj_X _ _ G160 156 [(1, .int y1), (0, .ref 171)] [.int (pj_ai G160 187 y1.toInt.toNat), .ref 171, .int y1, .ref 189] _
                obtain ⟨z165, hz165⟩ : ∃ z : Int32, z = pj_ai G160 187 y1.toInt.toNat := ⟨_, rfl⟩
                refine pj_X_eqi hz165.symm ?_
                have ez165 : (pj_ai G160 187 y1.toInt.toNat).toInt = z165.toInt := by rw [hz165]
                refine pj_X_of (fun r h => pj_R_to (G160, 157, [(1, .int y1), (0, .ref 171)], [.int (Int32.ofInt 1), .int z165, .ref 171, .int y1, .ref 189], 0, 0) 157 2 (fun _ => rfl) h) ?_
                cases b166 : pj_c1 .ne z165 (Int32.ofInt 1) with
                | true =>
                  have ub166 := pj_u_neT b166
                  refine pj_X_of (fun r h => pj_R_icT 164 rfl rfl b166 h) ?_
                  refine pj_X_of (fun r h => pj_R_to (G160, 165, [(1, .int y1), (0, .ref 171)], [.int (Int32.ofInt 1), .ref 171, .int y1, .ref 189], 0, 0) 165 2 (fun _ => rfl) h) ?_
                  have q167 : (pj_fi G160 171 39).toInt = y162.toInt := by rw [show pj_fi G160 171 39 = y162 from hy162.symm]
                  have q168 : (pj_fi G160 171 17).toInt = y163.toInt := by rw [show pj_fi G160 171 17 = y163 from hy163.symm]
                  refine pj_X_ca (vs := [.ref 171, .int (Int32.ofInt 1)]) rfl (fun _ => rfl) ⟨Nat.le_of_ble_eq_true rfl, Nat.le_of_ble_eq_true rfl, pj_T_rcv iG160 rfl⟩ ⟨rfl, rfl⟩ (pj_Y_up (by decide) (ct_186 G160 iG160 (Int32.ofInt 1) ⟨by omega, by omega⟩)) ?_
                  rintro _ G170 ⟨y169, rfl, iG170, jG170, ry169, ey169⟩
                  have kG170 : pj_kpt kc_229 G0 G170 := pj_kpt_t kG160 (pj_kpt_s jG170 rfl)
                  have q171 : (pj_fi G170 171 39).toInt = (pj_fi G160 171 39).toInt := by rw [jG170.1 (171, 39) (by decide)]
                  obtain ⟨y172, hy172⟩ : ∃ z : Int32, z = pj_fi G170 171 39 := ⟨_, rfl⟩
                  have ey172 : (pj_fi G170 171 39).toInt = y172.toInt := by rw [hy172]
                  have ry172 : (0 : Int) ≤ y172.toInt ∧ y172.toInt ≤ 60 := by rw [hy172]; exact iG170.2.1 171 39 (0, 60) rfl
                  obtain ⟨y173, hy173⟩ : ∃ z : Int32, z = pj_fi G170 171 17 := ⟨_, rfl⟩
                  have ey173 : (pj_fi G170 171 17).toInt = y173.toInt := by rw [hy173]
                  have ry173 : (0 : Int) ≤ y173.toInt ∧ y173.toInt ≤ 80 := by rw [hy173]; exact iG170.2.1 171 17 (0, 80) rfl
                  show pj_X _ _ G170 168 [(1, .int y1), (0, .ref 171)] [.int y169, .int y1, .ref 189] _
                  refine pj_X_of (fun r h => pj_T_is iG170 rfl rfl (by omega) (by omega) h) ?_
                  show pj_X _ _ (pj_wa G170 189 y1.toInt.toNat y169) 169 [(1, .int y1), (0, .ref 171)] [] _
                  obtain ⟨G174, hG174⟩ : ∃ H, H = pj_wa G170 189 y1.toInt.toNat y169 := ⟨_, rfl⟩
                  have iG174 : pj_Inv G174 := by rw [hG174]; exact pj_Inv_wa iG170 rfl (fun q hq => by cases hq) (fun n hn => by cases hn)
                  have kG174 : pj_kpt kc_229 G0 G174 := by rw [hG174]; exact pj_kpt_a kG170 rfl
                  rw [← hG174]
                  refine pj_X_of (fun r h => pj_R_to (G174, 170, [(1, .int y1), (0, .ref 171)], [.ref 171], 0, 0) 170 2 (fun _ => rfl) h) ?_
                  refine pj_X_of (fun r h => pj_T_gr iG174 rfl rfl rfl h) ?_
                  refine pj_X_of (fun r h => pj_R_to (G174, 174, [(1, .int y1), (0, .ref 171)], [.int y1, .ref 189], 0, 0) 174 2 (fun _ => rfl) h) ?_
                  refine pj_X_of (fun r h => pj_T_il iG174 rfl rfl (by omega) (by omega) h) ?_
                  show pj_X _ _ G174 175 [(1, .int y1), (0, .ref 171)] [.int (pj_ai G174 189 y1.toInt.toNat)] _
                  obtain ⟨z175, hz175⟩ : ∃ z : Int32, z = pj_ai G174 189 y1.toInt.toNat := ⟨_, rfl⟩
                  refine pj_X_eqi hz175.symm ?_
                  have ez175 : (pj_ai G174 189 y1.toInt.toNat).toInt = z175.toInt := by rw [hz175]
                  have x176 : z175.toInt = y169.toInt := by rw [hz175, show y1.toInt.toNat = y1.toInt.toNat by omega, hG174, pj_ai_wa_eq iG170.1 rfl]
                  cases b177 : pj_c1 .lt z175 0 with
                  | true =>
                    have ub177 := pj_u0_ltT b177
                    refine pj_X_of (fun r h => pj_R_ifT 182 rfl rfl b177 h) ?_
                    refine pj_X_of (fun r h => pj_R_to (G174, 183, [(1, .int y1), (0, .ref 171)], [.int (Int32.ofInt 0)], 0, 0) 183 2 (fun _ => rfl) h) ?_
                    have q178 : (pj_fi G174 171 39).toInt = y172.toInt := by rw [show pj_fi G174 171 39 = y172 from by rw [hG174, pj_fi_wa]; exact hy172.symm]
                    have q179 : (pj_fi G174 171 17).toInt = y173.toInt := by rw [show pj_fi G174 171 17 = y173 from by rw [hG174, pj_fi_wa]; exact hy173.symm]
                    exact pj_X_rt rfl rfl ⟨_, rfl, iG174, kG174, ⟨by omega, by omega⟩, by omega⟩
                  | false =>
                    have ub177 := pj_u0_ltF b177
                    refine pj_X_of (fun r h => pj_R_ifF rfl b177 h) ?_
                    refine pj_X_of (fun r h => pj_R_to (G174, 183, [(1, .int y1), (0, .ref 171)], [.int (Int32.ofInt 1)], 0, 0) 183 3 (fun _ => rfl) h) ?_
                    have q180 : (pj_fi G174 171 39).toInt = y172.toInt := by rw [show pj_fi G174 171 39 = y172 from by rw [hG174, pj_fi_wa]; exact hy172.symm]
                    have q181 : (pj_fi G174 171 17).toInt = y173.toInt := by rw [show pj_fi G174 171 17 = y173 from by rw [hG174, pj_fi_wa]; exact hy173.symm]
                    exact pj_X_rt rfl rfl ⟨_, rfl, iG174, kG174, ⟨by omega, by omega⟩, by omega⟩
                | false =>
                  have ub166 := pj_u_neF b166
                  refine pj_X_of (fun r h => pj_R_icF rfl b166 h) ?_
                  refine pj_X_of (fun r h => pj_R_to (G160, 165, [(1, .int y1), (0, .ref 171)], [.int (Int32.ofInt 3), .ref 171, .int y1, .ref 189], 0, 0) 165 3 (fun _ => rfl) h) ?_
                  have q182 : (pj_fi G160 171 39).toInt = y162.toInt := by rw [show pj_fi G160 171 39 = y162 from hy162.symm]
                  have q183 : (pj_fi G160 171 17).toInt = y163.toInt := by rw [show pj_fi G160 171 17 = y163 from hy163.symm]
                  refine pj_X_ca (vs := [.ref 171, .int (Int32.ofInt 3)]) rfl (fun _ => rfl) ⟨Nat.le_of_ble_eq_true rfl, Nat.le_of_ble_eq_true rfl, pj_T_rcv iG160 rfl⟩ ⟨rfl, rfl⟩ (pj_Y_up (by decide) (ct_186 G160 iG160 (Int32.ofInt 3) ⟨by omega, by omega⟩)) ?_
                  rintro _ G185 ⟨y184, rfl, iG185, jG185, ry184, ey184⟩
                  have kG185 : pj_kpt kc_229 G0 G185 := pj_kpt_t kG160 (pj_kpt_s jG185 rfl)
                  have q186 : (pj_fi G185 171 39).toInt = (pj_fi G160 171 39).toInt := by rw [jG185.1 (171, 39) (by decide)]
                  obtain ⟨y187, hy187⟩ : ∃ z : Int32, z = pj_fi G185 171 39 := ⟨_, rfl⟩
                  have ey187 : (pj_fi G185 171 39).toInt = y187.toInt := by rw [hy187]
                  have ry187 : (0 : Int) ≤ y187.toInt ∧ y187.toInt ≤ 60 := by rw [hy187]; exact iG185.2.1 171 39 (0, 60) rfl
                  obtain ⟨y188, hy188⟩ : ∃ z : Int32, z = pj_fi G185 171 17 := ⟨_, rfl⟩
                  have ey188 : (pj_fi G185 171 17).toInt = y188.toInt := by rw [hy188]
                  have ry188 : (0 : Int) ≤ y188.toInt ∧ y188.toInt ≤ 80 := by rw [hy188]; exact iG185.2.1 171 17 (0, 80) rfl
                  show pj_X _ _ G185 168 [(1, .int y1), (0, .ref 171)] [.int y184, .int y1, .ref 189] _
                  refine pj_X_of (fun r h => pj_T_is iG185 rfl rfl (by omega) (by omega) h) ?_
                  show pj_X _ _ (pj_wa G185 189 y1.toInt.toNat y184) 169 [(1, .int y1), (0, .ref 171)] [] _
                  obtain ⟨G189, hG189⟩ : ∃ H, H = pj_wa G185 189 y1.toInt.toNat y184 := ⟨_, rfl⟩
                  have iG189 : pj_Inv G189 := by rw [hG189]; exact pj_Inv_wa iG185 rfl (fun q hq => by cases hq) (fun n hn => by cases hn)
                  have kG189 : pj_kpt kc_229 G0 G189 := by rw [hG189]; exact pj_kpt_a kG185 rfl
                  rw [← hG189]
                  refine pj_X_of (fun r h => pj_R_to (G189, 170, [(1, .int y1), (0, .ref 171)], [.ref 171], 0, 0) 170 2 (fun _ => rfl) h) ?_
                  refine pj_X_of (fun r h => pj_T_gr iG189 rfl rfl rfl h) ?_
                  refine pj_X_of (fun r h => pj_R_to (G189, 174, [(1, .int y1), (0, .ref 171)], [.int y1, .ref 189], 0, 0) 174 2 (fun _ => rfl) h) ?_
                  refine pj_X_of (fun r h => pj_T_il iG189 rfl rfl (by omega) (by omega) h) ?_
                  show pj_X _ _ G189 175 [(1, .int y1), (0, .ref 171)] [.int (pj_ai G189 189 y1.toInt.toNat)] _
                  obtain ⟨z190, hz190⟩ : ∃ z : Int32, z = pj_ai G189 189 y1.toInt.toNat := ⟨_, rfl⟩
                  refine pj_X_eqi hz190.symm ?_
                  have ez190 : (pj_ai G189 189 y1.toInt.toNat).toInt = z190.toInt := by rw [hz190]
                  have x191 : z190.toInt = y184.toInt := by rw [hz190, show y1.toInt.toNat = y1.toInt.toNat by omega, hG189, pj_ai_wa_eq iG185.1 rfl]
                  cases b192 : pj_c1 .lt z190 0 with
                  | true =>
                    have ub192 := pj_u0_ltT b192
                    refine pj_X_of (fun r h => pj_R_ifT 182 rfl rfl b192 h) ?_
                    refine pj_X_of (fun r h => pj_R_to (G189, 183, [(1, .int y1), (0, .ref 171)], [.int (Int32.ofInt 0)], 0, 0) 183 2 (fun _ => rfl) h) ?_
                    have q193 : (pj_fi G189 171 39).toInt = y187.toInt := by rw [show pj_fi G189 171 39 = y187 from by rw [hG189, pj_fi_wa]; exact hy187.symm]
                    have q194 : (pj_fi G189 171 17).toInt = y188.toInt := by rw [show pj_fi G189 171 17 = y188 from by rw [hG189, pj_fi_wa]; exact hy188.symm]
                    exact pj_X_rt rfl rfl ⟨_, rfl, iG189, kG189, ⟨by omega, by omega⟩, by omega⟩
                  | false =>
                    have ub192 := pj_u0_ltF b192
                    refine pj_X_of (fun r h => pj_R_ifF rfl b192 h) ?_
                    refine pj_X_of (fun r h => pj_R_to (G189, 183, [(1, .int y1), (0, .ref 171)], [.int (Int32.ofInt 1)], 0, 0) 183 3 (fun _ => rfl) h) ?_
                    have q195 : (pj_fi G189 171 39).toInt = y187.toInt := by rw [show pj_fi G189 171 39 = y187 from by rw [hG189, pj_fi_wa]; exact hy187.symm]
                    have q196 : (pj_fi G189 171 17).toInt = y188.toInt := by rw [show pj_fi G189 171 17 = y188 from by rw [hG189, pj_fi_wa]; exact hy188.symm]
                    exact pj_X_rt rfl rfl ⟨_, rfl, iG189, kG189, ⟨by omega, by omega⟩, by omega⟩
              | false =>
                have ub164 := pj_u0_eqF b164
                refine pj_X_of (fun r h => pj_R_ifF rfl b164 h) ?_
                refine pj_X_of (fun r h => pj_R_to (G160, 136, [(1, .int y1), (0, .ref 171)], [.ref 171], 0, 0) 136 2 (fun _ => rfl) h) ?_
                refine pj_X_of (fun r h => pj_T_gr iG160 rfl rfl rfl h) ?_
                refine pj_X_of (fun r h => pj_R_to (G160, 141, [(1, .int y1), (0, .ref 171)], [.int (Int32.ofInt (-1)), .int y1, .ref 189], 0, 0) 141 3 (fun _ => rfl) h) ?_
                refine pj_X_of (fun r h => pj_T_is iG160 rfl rfl (by omega) (by omega) h) ?_
                show pj_X _ _ (pj_wa G160 189 y1.toInt.toNat (Int32.ofInt (-1))) 142 [(1, .int y1), (0, .ref 171)] [] _
                obtain ⟨G197, hG197⟩ : ∃ H, H = pj_wa G160 189 y1.toInt.toNat (Int32.ofInt (-1)) := ⟨_, rfl⟩
                have iG197 : pj_Inv G197 := by rw [hG197]; exact pj_Inv_wa iG160 rfl (fun q hq => by cases hq) (fun n hn => by cases hn)
                have kG197 : pj_kpt kc_229 G0 G197 := by rw [hG197]; exact pj_kpt_a kG160 rfl
                rw [← hG197]
                refine pj_X_of (fun r h => pj_R_to (G197, 143, [(1, .int y1), (0, .ref 171)], [.int (Int32.ofInt 1)], 0, 0) 143 2 (fun _ => rfl) h) ?_
                have q198 : (pj_fi G197 171 39).toInt = y162.toInt := by rw [show pj_fi G197 171 39 = y162 from by rw [hG197, pj_fi_wa]; exact hy162.symm]
                have q199 : (pj_fi G197 171 17).toInt = y163.toInt := by rw [show pj_fi G197 171 17 = y163 from by rw [hG197, pj_fi_wa]; exact hy163.symm]
                exact pj_X_rt rfl rfl ⟨_, rfl, iG197, kG197, ⟨by omega, by omega⟩, by omega⟩
          | false =>
            have ub124 := pj_u_neF b124
            refine pj_X_of (fun r h => pj_R_icF rfl b124 h) ?_
            refine pj_X_of (fun r h => pj_R_to (G117, 103, [(1, .int y1), (0, .ref 171)], [.ref 171], 0, 0) 103 2 (fun _ => rfl) h) ?_
            refine pj_X_of (fun r h => pj_T_gr iG117 rfl rfl rfl h) ?_
            refine pj_X_of (fun r h => pj_R_to (G117, 107, [(1, .int y1), (0, .ref 171)], [.int y1, .ref 188], 0, 0) 107 2 (fun _ => rfl) h) ?_
            refine pj_X_of (fun r h => pj_T_il iG117 rfl rfl (by omega) (by omega) h) ?_
            show pj_X _ _ G117 108 [(1, .int y1), (0, .ref 171)] [.int (pj_ai G117 188 y1.toInt.toNat)] _
            refine pj_X_eqi hz118.symm ?_
            refine pj_X_of (fun r h => pj_R_ifF rfl (pj_b0_ltF (by omega)) h) ?_
            refine pj_X_of (fun r h => pj_R_to (G117, 116, [(1, .int y1), (0, .ref 171)], [.int (Int32.ofInt 1)], 0, 0) 116 3 (fun _ => rfl) h) ?_
            have q200 : (pj_fi G117 171 39).toInt = y115.toInt := by rw [show pj_fi G117 171 39 = y115 from by rw [hG117, pj_fi_wa]; exact hy115.symm]
            have q201 : (pj_fi G117 171 17).toInt = y116.toInt := by rw [show pj_fi G117 171 17 = y116 from by rw [hG117, pj_fi_wa]; exact hy116.symm]
            exact pj_X_rt rfl rfl ⟨_, rfl, iG117, kG117, ⟨by omega, by omega⟩, by omega⟩
    | false =>
      have ub16 := pj_u_neF b16
      refine pj_X_of (fun r h => pj_R_icF rfl b16 h) ?_
      refine pj_X_of (fun r h => pj_R_to (G12, 57, [(1, .int y1), (0, .ref 171)], [.int ((Int8.ofInt 6).toInt32), .ref 171, .int y1, .ref 188], 0, 0) 57 3 (fun _ => rfl) h) ?_
      have q202 : (pj_fi G12 171 39).toInt = z11.toInt := by rw [show pj_fi G12 171 39 = z11 from by rw [hG12]; exact pj_fi_wi iG10.1 (ci := 12) rfl _]
      have q203 : (pj_fi G12 171 17).toInt = y9.toInt := by rw [show pj_fi G12 171 17 = y9 from by rw [hG12, pj_fi_wv_ne _ _ _ _ _ _ (by decide)]; exact (by rw [hG10, pj_fi_wa]; exact hy9.symm)]
      refine pj_X_ca (vs := [.ref 171, .int ((Int8.ofInt 6).toInt32)]) rfl (fun _ => rfl) ⟨Nat.le_of_ble_eq_true rfl, Nat.le_of_ble_eq_true rfl, pj_T_rcv iG12 rfl⟩ ⟨rfl, rfl⟩ (pj_Y_up (by decide) (ct_187 G12 iG12 ((Int8.ofInt 6).toInt32) ⟨by omega, by omega⟩)) ?_
      rintro _ G205 ⟨y204, rfl, iG205, jG205, ry204, ey204⟩
      have kG205 : pj_kpt kc_229 G0 G205 := pj_kpt_t kG12 (pj_kpt_s jG205 rfl)
      have q206 : (pj_fi G205 171 39).toInt = (pj_fi G12 171 39).toInt := by rw [jG205.1 (171, 39) (by decide)]
      obtain ⟨y207, hy207⟩ : ∃ z : Int32, z = pj_fi G205 171 39 := ⟨_, rfl⟩
      have ey207 : (pj_fi G205 171 39).toInt = y207.toInt := by rw [hy207]
      have ry207 : (0 : Int) ≤ y207.toInt ∧ y207.toInt ≤ 60 := by rw [hy207]; exact iG205.2.1 171 39 (0, 60) rfl
      obtain ⟨y208, hy208⟩ : ∃ z : Int32, z = pj_fi G205 171 17 := ⟨_, rfl⟩
      have ey208 : (pj_fi G205 171 17).toInt = y208.toInt := by rw [hy208]
      have ry208 : (0 : Int) ≤ y208.toInt ∧ y208.toInt ≤ 80 := by rw [hy208]; exact iG205.2.1 171 17 (0, 80) rfl
      show pj_X _ _ G205 60 [(1, .int y1), (0, .ref 171)] [.int y204, .int y1, .ref 188] _
      refine pj_X_of (fun r h => pj_R_to (G205, 82, [(1, .int y1), (0, .ref 171)], [.int y204, .int y1, .ref 188], 0, 0) 82 2 (fun _ => rfl) h) ?_
      refine pj_X_of (fun r h => pj_T_is iG205 rfl rfl (by omega) (by omega) h) ?_
      show pj_X _ _ (pj_wa G205 188 y1.toInt.toNat y204) 83 [(1, .int y1), (0, .ref 171)] [] _
      obtain ⟨G209, hG209⟩ : ∃ H, H = pj_wa G205 188 y1.toInt.toNat y204 := ⟨_, rfl⟩
      have iG209 : pj_Inv G209 := by rw [hG209]; exact pj_Inv_wa iG205 rfl (fun q hq => by cases hq) (fun n hn => by cases hn)
      have kG209 : pj_kpt kc_229 G0 G209 := by rw [hG209]; exact pj_kpt_a kG205 rfl
      rw [← hG209]
      refine pj_X_of (fun r h => pj_R_to (G209, 84, [(1, .int y1), (0, .ref 171)], [.ref 171], 0, 0) 84 2 (fun _ => rfl) h) ?_
      refine pj_X_of (fun r h => pj_T_gr iG209 rfl rfl rfl h) ?_
      refine pj_X_of (fun r h => pj_R_to (G209, 88, [(1, .int y1), (0, .ref 171)], [.int y1, .ref 188], 0, 0) 88 2 (fun _ => rfl) h) ?_
      refine pj_X_of (fun r h => pj_T_il iG209 rfl rfl (by omega) (by omega) h) ?_
      show pj_X _ _ G209 89 [(1, .int y1), (0, .ref 171)] [.int (pj_ai G209 188 y1.toInt.toNat)] _
      obtain ⟨z210, hz210⟩ : ∃ z : Int32, z = pj_ai G209 188 y1.toInt.toNat := ⟨_, rfl⟩
      refine pj_X_eqi hz210.symm ?_
      have ez210 : (pj_ai G209 188 y1.toInt.toNat).toInt = z210.toInt := by rw [hz210]
      have x211 : z210.toInt = y204.toInt := by rw [hz210, show y1.toInt.toNat = y1.toInt.toNat by omega, hG209, pj_ai_wa_eq iG205.1 rfl]
      cases b212 : pj_c1 .lt z210 0 with
      | true =>
        have ub212 := pj_u0_ltT b212
        refine pj_X_of (fun r h => pj_R_ifT 102 rfl rfl b212 h) ?_
        refine pj_X_of (fun r h => pj_R_to (G209, 103, [(1, .int y1), (0, .ref 171)], [.ref 171], 0, 0) 103 2 (fun _ => rfl) h) ?_
        refine pj_X_of (fun r h => pj_T_gr iG209 rfl rfl rfl h) ?_
        refine pj_X_of (fun r h => pj_R_to (G209, 107, [(1, .int y1), (0, .ref 171)], [.int y1, .ref 188], 0, 0) 107 2 (fun _ => rfl) h) ?_
        refine pj_X_of (fun r h => pj_T_il iG209 rfl rfl (by omega) (by omega) h) ?_
        show pj_X _ _ G209 108 [(1, .int y1), (0, .ref 171)] [.int (pj_ai G209 188 y1.toInt.toNat)] _
        refine pj_X_eqi hz210.symm ?_
        refine pj_X_of (fun r h => pj_R_ifT 115 rfl rfl (pj_b0_ltT (by omega)) h) ?_
        refine pj_X_of (fun r h => pj_R_to (G209, 116, [(1, .int y1), (0, .ref 171)], [.int (Int32.ofInt 0)], 0, 0) 116 2 (fun _ => rfl) h) ?_
        have q213 : (pj_fi G209 171 39).toInt = y207.toInt := by rw [show pj_fi G209 171 39 = y207 from by rw [hG209, pj_fi_wa]; exact hy207.symm]
        have q214 : (pj_fi G209 171 17).toInt = y208.toInt := by rw [show pj_fi G209 171 17 = y208 from by rw [hG209, pj_fi_wa]; exact hy208.symm]
        exact pj_X_rt rfl rfl ⟨_, rfl, iG209, kG209, ⟨by omega, by omega⟩, by omega⟩
      | false =>
        have ub212 := pj_u0_ltF b212
        refine pj_X_of (fun r h => pj_R_ifF rfl b212 h) ?_
        refine pj_X_of (fun r h => pj_R_to (G209, 93, [(1, .int y1), (0, .ref 171)], [.ref 171], 0, 0) 93 2 (fun _ => rfl) h) ?_
        refine pj_X_of (fun r h => pj_T_gr iG209 rfl rfl rfl h) ?_
        refine pj_X_of (fun r h => pj_R_to (G209, 97, [(1, .int y1), (0, .ref 171)], [.int y1, .ref 187], 0, 0) 97 2 (fun _ => rfl) h) ?_
        refine pj_X_of (fun r h => pj_T_il iG209 rfl rfl (by omega) (by omega) h) ?_
        show pj_X _ _ G209 98 [(1, .int y1), (0, .ref 171)] [.int (pj_ai G209 187 y1.toInt.toNat)] _
        obtain ⟨z215, hz215⟩ : ∃ z : Int32, z = pj_ai G209 187 y1.toInt.toNat := ⟨_, rfl⟩
        refine pj_X_eqi hz215.symm ?_
        have ez215 : (pj_ai G209 187 y1.toInt.toNat).toInt = z215.toInt := by rw [hz215]
        refine pj_X_of (fun r h => pj_R_to (G209, 99, [(1, .int y1), (0, .ref 171)], [.int (Int32.ofInt 3), .int z215], 0, 0) 99 2 (fun _ => rfl) h) ?_
        cases b216 : pj_c1 .ne z215 (Int32.ofInt 3) with
        | true =>
          have ub216 := pj_u_neT b216
          refine pj_X_of (fun r h => pj_R_icT 117 rfl rfl b216 h) ?_
          refine pj_X_of (fun r h => pj_R_to (G209, 118, [(1, .int y1), (0, .ref 171)], [.ref 171], 0, 0) 118 2 (fun _ => rfl) h) ?_
          refine pj_X_of (fun r h => pj_T_gr iG209 rfl rfl rfl h) ?_
          refine pj_X_of (fun r h => pj_R_to (G209, 122, [(1, .int y1), (0, .ref 171)], [.int y1, .ref 187], 0, 0) 122 2 (fun _ => rfl) h) ?_
          refine pj_X_of (fun r h => pj_T_il iG209 rfl rfl (by omega) (by omega) h) ?_
          show pj_X _ _ G209 123 [(1, .int y1), (0, .ref 171)] [.int (pj_ai G209 187 y1.toInt.toNat)] _
          refine pj_X_eqi hz215.symm ?_
          cases b217 : pj_c1 .ne z215 0 with
          | true =>
            have ub217 := pj_u0_neT b217
            refine pj_X_of (fun r h => pj_R_ifT 144 rfl rfl b217 h) ?_
            refine pj_X_of (fun r h => pj_R_to (G209, 145, [(1, .int y1), (0, .ref 171)], [.ref 171], 0, 0) 145 2 (fun _ => rfl) h) ?_
            refine pj_X_of (fun r h => pj_T_gr iG209 rfl rfl rfl h) ?_
            refine pj_X_of (fun r h => pj_R_to (G209, 151, [(1, .int y1), (0, .ref 171)], [.ref 171, .ref 171, .int y1, .ref 189], 0, 0) 151 4 (fun _ => rfl) h) ?_
            refine pj_X_of (fun r h => pj_T_gr iG209 rfl rfl rfl h) ?_
            refine pj_X_of (fun r h => pj_R_to (G209, 155, [(1, .int y1), (0, .ref 171)], [.int y1, .ref 187, .ref 171, .int y1, .ref 189], 0, 0) 155 2 (fun _ => rfl) h) ?_
            refine pj_X_of (fun r h => pj_T_il iG209 rfl rfl (by omega) (by omega) h) ?_
            show pj_X _ _ G209 156 [(1, .int y1), (0, .ref 171)] [.int (pj_ai G209 187 y1.toInt.toNat), .ref 171, .int y1, .ref 189] _
            refine pj_X_eqi hz215.symm ?_
            refine pj_X_of (fun r h => pj_R_to (G209, 157, [(1, .int y1), (0, .ref 171)], [.int (Int32.ofInt 1), .int z215, .ref 171, .int y1, .ref 189], 0, 0) 157 2 (fun _ => rfl) h) ?_
            cases b218 : pj_c1 .ne z215 (Int32.ofInt 1) with
            | true =>
              have ub218 := pj_u_neT b218
              refine pj_X_of (fun r h => pj_R_icT 164 rfl rfl b218 h) ?_
              refine pj_X_of (fun r h => pj_R_to (G209, 165, [(1, .int y1), (0, .ref 171)], [.int (Int32.ofInt 1), .ref 171, .int y1, .ref 189], 0, 0) 165 2 (fun _ => rfl) h) ?_
              have q219 : (pj_fi G209 171 39).toInt = y207.toInt := by rw [show pj_fi G209 171 39 = y207 from by rw [hG209, pj_fi_wa]; exact hy207.symm]
              have q220 : (pj_fi G209 171 17).toInt = y208.toInt := by rw [show pj_fi G209 171 17 = y208 from by rw [hG209, pj_fi_wa]; exact hy208.symm]
              refine pj_X_ca (vs := [.ref 171, .int (Int32.ofInt 1)]) rfl (fun _ => rfl) ⟨Nat.le_of_ble_eq_true rfl, Nat.le_of_ble_eq_true rfl, pj_T_rcv iG209 rfl⟩ ⟨rfl, rfl⟩ (pj_Y_up (by decide) (ct_186 G209 iG209 (Int32.ofInt 1) ⟨by omega, by omega⟩)) ?_
              rintro _ G222 ⟨y221, rfl, iG222, jG222, ry221, ey221⟩
              have kG222 : pj_kpt kc_229 G0 G222 := pj_kpt_t kG209 (pj_kpt_s jG222 rfl)
              have q223 : (pj_fi G222 171 39).toInt = (pj_fi G209 171 39).toInt := by rw [jG222.1 (171, 39) (by decide)]
              obtain ⟨y224, hy224⟩ : ∃ z : Int32, z = pj_fi G222 171 39 := ⟨_, rfl⟩
              have ey224 : (pj_fi G222 171 39).toInt = y224.toInt := by rw [hy224]
              have ry224 : (0 : Int) ≤ y224.toInt ∧ y224.toInt ≤ 60 := by rw [hy224]; exact iG222.2.1 171 39 (0, 60) rfl
              obtain ⟨y225, hy225⟩ : ∃ z : Int32, z = pj_fi G222 171 17 := ⟨_, rfl⟩
              have ey225 : (pj_fi G222 171 17).toInt = y225.toInt := by rw [hy225]
              have ry225 : (0 : Int) ≤ y225.toInt ∧ y225.toInt ≤ 80 := by rw [hy225]; exact iG222.2.1 171 17 (0, 80) rfl
              show pj_X _ _ G222 168 [(1, .int y1), (0, .ref 171)] [.int y221, .int y1, .ref 189] _
              refine pj_X_of (fun r h => pj_T_is iG222 rfl rfl (by omega) (by omega) h) ?_
              show pj_X _ _ (pj_wa G222 189 y1.toInt.toNat y221) 169 [(1, .int y1), (0, .ref 171)] [] _
              obtain ⟨G226, hG226⟩ : ∃ H, H = pj_wa G222 189 y1.toInt.toNat y221 := ⟨_, rfl⟩
              have iG226 : pj_Inv G226 := by rw [hG226]; exact pj_Inv_wa iG222 rfl (fun q hq => by cases hq) (fun n hn => by cases hn)
              have kG226 : pj_kpt kc_229 G0 G226 := by rw [hG226]; exact pj_kpt_a kG222 rfl
              rw [← hG226]
              refine pj_X_of (fun r h => pj_R_to (G226, 170, [(1, .int y1), (0, .ref 171)], [.ref 171], 0, 0) 170 2 (fun _ => rfl) h) ?_
              refine pj_X_of (fun r h => pj_T_gr iG226 rfl rfl rfl h) ?_
              refine pj_X_of (fun r h => pj_R_to (G226, 174, [(1, .int y1), (0, .ref 171)], [.int y1, .ref 189], 0, 0) 174 2 (fun _ => rfl) h) ?_
              refine pj_X_of (fun r h => pj_T_il iG226 rfl rfl (by omega) (by omega) h) ?_
              show pj_X _ _ G226 175 [(1, .int y1), (0, .ref 171)] [.int (pj_ai G226 189 y1.toInt.toNat)] _
              obtain ⟨z227, hz227⟩ : ∃ z : Int32, z = pj_ai G226 189 y1.toInt.toNat := ⟨_, rfl⟩
              refine pj_X_eqi hz227.symm ?_
              have ez227 : (pj_ai G226 189 y1.toInt.toNat).toInt = z227.toInt := by rw [hz227]
              have x228 : z227.toInt = y221.toInt := by rw [hz227, show y1.toInt.toNat = y1.toInt.toNat by omega, hG226, pj_ai_wa_eq iG222.1 rfl]
              cases b229 : pj_c1 .lt z227 0 with
              | true =>
                have ub229 := pj_u0_ltT b229
                refine pj_X_of (fun r h => pj_R_ifT 182 rfl rfl b229 h) ?_
                refine pj_X_of (fun r h => pj_R_to (G226, 183, [(1, .int y1), (0, .ref 171)], [.int (Int32.ofInt 0)], 0, 0) 183 2 (fun _ => rfl) h) ?_
                have q230 : (pj_fi G226 171 39).toInt = y224.toInt := by rw [show pj_fi G226 171 39 = y224 from by rw [hG226, pj_fi_wa]; exact hy224.symm]
                have q231 : (pj_fi G226 171 17).toInt = y225.toInt := by rw [show pj_fi G226 171 17 = y225 from by rw [hG226, pj_fi_wa]; exact hy225.symm]
                exact pj_X_rt rfl rfl ⟨_, rfl, iG226, kG226, ⟨by omega, by omega⟩, by omega⟩
              | false =>
                have ub229 := pj_u0_ltF b229
                refine pj_X_of (fun r h => pj_R_ifF rfl b229 h) ?_
                refine pj_X_of (fun r h => pj_R_to (G226, 183, [(1, .int y1), (0, .ref 171)], [.int (Int32.ofInt 1)], 0, 0) 183 3 (fun _ => rfl) h) ?_
                have q232 : (pj_fi G226 171 39).toInt = y224.toInt := by rw [show pj_fi G226 171 39 = y224 from by rw [hG226, pj_fi_wa]; exact hy224.symm]
                have q233 : (pj_fi G226 171 17).toInt = y225.toInt := by rw [show pj_fi G226 171 17 = y225 from by rw [hG226, pj_fi_wa]; exact hy225.symm]
                exact pj_X_rt rfl rfl ⟨_, rfl, iG226, kG226, ⟨by omega, by omega⟩, by omega⟩
            | false =>
              have ub218 := pj_u_neF b218
              refine pj_X_of (fun r h => pj_R_icF rfl b218 h) ?_
              refine pj_X_of (fun r h => pj_R_to (G209, 165, [(1, .int y1), (0, .ref 171)], [.int (Int32.ofInt 3), .ref 171, .int y1, .ref 189], 0, 0) 165 3 (fun _ => rfl) h) ?_
              have q234 : (pj_fi G209 171 39).toInt = y207.toInt := by rw [show pj_fi G209 171 39 = y207 from by rw [hG209, pj_fi_wa]; exact hy207.symm]
              have q235 : (pj_fi G209 171 17).toInt = y208.toInt := by rw [show pj_fi G209 171 17 = y208 from by rw [hG209, pj_fi_wa]; exact hy208.symm]
              refine pj_X_ca (vs := [.ref 171, .int (Int32.ofInt 3)]) rfl (fun _ => rfl) ⟨Nat.le_of_ble_eq_true rfl, Nat.le_of_ble_eq_true rfl, pj_T_rcv iG209 rfl⟩ ⟨rfl, rfl⟩ (pj_Y_up (by decide) (ct_186 G209 iG209 (Int32.ofInt 3) ⟨by omega, by omega⟩)) ?_
              rintro _ G237 ⟨y236, rfl, iG237, jG237, ry236, ey236⟩
              have kG237 : pj_kpt kc_229 G0 G237 := pj_kpt_t kG209 (pj_kpt_s jG237 rfl)
              have q238 : (pj_fi G237 171 39).toInt = (pj_fi G209 171 39).toInt := by rw [jG237.1 (171, 39) (by decide)]
              obtain ⟨y239, hy239⟩ : ∃ z : Int32, z = pj_fi G237 171 39 := ⟨_, rfl⟩
              have ey239 : (pj_fi G237 171 39).toInt = y239.toInt := by rw [hy239]
              have ry239 : (0 : Int) ≤ y239.toInt ∧ y239.toInt ≤ 60 := by rw [hy239]; exact iG237.2.1 171 39 (0, 60) rfl
              obtain ⟨y240, hy240⟩ : ∃ z : Int32, z = pj_fi G237 171 17 := ⟨_, rfl⟩
              have ey240 : (pj_fi G237 171 17).toInt = y240.toInt := by rw [hy240]
              have ry240 : (0 : Int) ≤ y240.toInt ∧ y240.toInt ≤ 80 := by rw [hy240]; exact iG237.2.1 171 17 (0, 80) rfl
              show pj_X _ _ G237 168 [(1, .int y1), (0, .ref 171)] [.int y236, .int y1, .ref 189] _
              refine pj_X_of (fun r h => pj_T_is iG237 rfl rfl (by omega) (by omega) h) ?_
              show pj_X _ _ (pj_wa G237 189 y1.toInt.toNat y236) 169 [(1, .int y1), (0, .ref 171)] [] _
              obtain ⟨G241, hG241⟩ : ∃ H, H = pj_wa G237 189 y1.toInt.toNat y236 := ⟨_, rfl⟩
              have iG241 : pj_Inv G241 := by rw [hG241]; exact pj_Inv_wa iG237 rfl (fun q hq => by cases hq) (fun n hn => by cases hn)
              have kG241 : pj_kpt kc_229 G0 G241 := by rw [hG241]; exact pj_kpt_a kG237 rfl
              rw [← hG241]
              refine pj_X_of (fun r h => pj_R_to (G241, 170, [(1, .int y1), (0, .ref 171)], [.ref 171], 0, 0) 170 2 (fun _ => rfl) h) ?_
              refine pj_X_of (fun r h => pj_T_gr iG241 rfl rfl rfl h) ?_
              refine pj_X_of (fun r h => pj_R_to (G241, 174, [(1, .int y1), (0, .ref 171)], [.int y1, .ref 189], 0, 0) 174 2 (fun _ => rfl) h) ?_
              refine pj_X_of (fun r h => pj_T_il iG241 rfl rfl (by omega) (by omega) h) ?_
              show pj_X _ _ G241 175 [(1, .int y1), (0, .ref 171)] [.int (pj_ai G241 189 y1.toInt.toNat)] _
              obtain ⟨z242, hz242⟩ : ∃ z : Int32, z = pj_ai G241 189 y1.toInt.toNat := ⟨_, rfl⟩
              refine pj_X_eqi hz242.symm ?_
              have ez242 : (pj_ai G241 189 y1.toInt.toNat).toInt = z242.toInt := by rw [hz242]
              have x243 : z242.toInt = y236.toInt := by rw [hz242, show y1.toInt.toNat = y1.toInt.toNat by omega, hG241, pj_ai_wa_eq iG237.1 rfl]
              cases b244 : pj_c1 .lt z242 0 with
              | true =>
                have ub244 := pj_u0_ltT b244
                refine pj_X_of (fun r h => pj_R_ifT 182 rfl rfl b244 h) ?_
                refine pj_X_of (fun r h => pj_R_to (G241, 183, [(1, .int y1), (0, .ref 171)], [.int (Int32.ofInt 0)], 0, 0) 183 2 (fun _ => rfl) h) ?_
                have q245 : (pj_fi G241 171 39).toInt = y239.toInt := by rw [show pj_fi G241 171 39 = y239 from by rw [hG241, pj_fi_wa]; exact hy239.symm]
                have q246 : (pj_fi G241 171 17).toInt = y240.toInt := by rw [show pj_fi G241 171 17 = y240 from by rw [hG241, pj_fi_wa]; exact hy240.symm]
                exact pj_X_rt rfl rfl ⟨_, rfl, iG241, kG241, ⟨by omega, by omega⟩, by omega⟩
              | false =>
                have ub244 := pj_u0_ltF b244
                refine pj_X_of (fun r h => pj_R_ifF rfl b244 h) ?_
                refine pj_X_of (fun r h => pj_R_to (G241, 183, [(1, .int y1), (0, .ref 171)], [.int (Int32.ofInt 1)], 0, 0) 183 3 (fun _ => rfl) h) ?_
                have q247 : (pj_fi G241 171 39).toInt = y239.toInt := by rw [show pj_fi G241 171 39 = y239 from by rw [hG241, pj_fi_wa]; exact hy239.symm]
                have q248 : (pj_fi G241 171 17).toInt = y240.toInt := by rw [show pj_fi G241 171 17 = y240 from by rw [hG241, pj_fi_wa]; exact hy240.symm]
                exact pj_X_rt rfl rfl ⟨_, rfl, iG241, kG241, ⟨by omega, by omega⟩, by omega⟩
          | false =>
            have ub217 := pj_u0_neF b217
            refine pj_X_of (fun r h => pj_R_ifF rfl b217 h) ?_
            refine pj_X_of (fun r h => pj_R_to (G209, 129, [(1, .int y1), (0, .ref 171)], [.int ((Int8.ofInt 45).toInt32), .ref 171], 0, 0) 129 3 (fun _ => rfl) h) ?_
            have q249 : (pj_fi G209 171 39).toInt = y207.toInt := by rw [show pj_fi G209 171 39 = y207 from by rw [hG209, pj_fi_wa]; exact hy207.symm]
            have q250 : (pj_fi G209 171 17).toInt = y208.toInt := by rw [show pj_fi G209 171 17 = y208 from by rw [hG209, pj_fi_wa]; exact hy208.symm]
            refine pj_X_ca (vs := [.ref 171, .int ((Int8.ofInt 45).toInt32)]) rfl (fun _ => rfl) ⟨Nat.le_of_ble_eq_true rfl, Nat.le_of_ble_eq_true rfl, pj_T_rcv iG209 rfl⟩ ⟨rfl, rfl⟩ (pj_Y_up (by decide) (ct_182 G209 iG209 ((Int8.ofInt 45).toInt32) ⟨by omega, by omega⟩)) ?_
            rintro _ G252 ⟨y251, rfl, iG252, jG252, ry251, ey251⟩
            have kG252 : pj_kpt kc_229 G0 G252 := pj_kpt_t kG209 (pj_kpt_s jG252 rfl)
            have q253 : (pj_fi G252 171 39).toInt = (pj_fi G209 171 39).toInt := by rw [jG252.1 (171, 39) (by decide)]
            obtain ⟨y254, hy254⟩ : ∃ z : Int32, z = pj_fi G252 171 39 := ⟨_, rfl⟩
            have ey254 : (pj_fi G252 171 39).toInt = y254.toInt := by rw [hy254]
            have ry254 : (0 : Int) ≤ y254.toInt ∧ y254.toInt ≤ 60 := by rw [hy254]; exact iG252.2.1 171 39 (0, 60) rfl
            obtain ⟨y255, hy255⟩ : ∃ z : Int32, z = pj_fi G252 171 17 := ⟨_, rfl⟩
            have ey255 : (pj_fi G252 171 17).toInt = y255.toInt := by rw [hy255]
            have ry255 : (0 : Int) ≤ y255.toInt ∧ y255.toInt ≤ 80 := by rw [hy255]; exact iG252.2.1 171 17 (0, 80) rfl
            show pj_X _ _ G252 132 [(1, .int y1), (0, .ref 171)] [.int y251] _
            cases b256 : pj_c1 .eq y251 0 with
            | true =>
              have ub256 := pj_u0_eqT b256
              refine pj_X_of (fun r h => pj_R_ifT 144 rfl rfl b256 h) ?_
              refine pj_X_of (fun r h => pj_R_to (G252, 145, [(1, .int y1), (0, .ref 171)], [.ref 171], 0, 0) 145 2 (fun _ => rfl) h) ?_
              refine pj_X_of (fun r h => pj_T_gr iG252 rfl rfl rfl h) ?_
              refine pj_X_of (fun r h => pj_R_to (G252, 151, [(1, .int y1), (0, .ref 171)], [.ref 171, .ref 171, .int y1, .ref 189], 0, 0) 151 4 (fun _ => rfl) h) ?_
              refine pj_X_of (fun r h => pj_T_gr iG252 rfl rfl rfl h) ?_
              refine pj_X_of (fun r h => pj_R_to (G252, 155, [(1, .int y1), (0, .ref 171)], [.int y1, .ref 187, .ref 171, .int y1, .ref 189], 0, 0) 155 2 (fun _ => rfl) h) ?_
              refine pj_X_of (fun r h => pj_T_il iG252 rfl rfl (by omega) (by omega) h) ?_
              show pj_X _ _ G252 156 [(1, .int y1), (0, .ref 171)] [.int (pj_ai G252 187 y1.toInt.toNat), .ref 171, .int y1, .ref 189] _
              obtain ⟨z257, hz257⟩ : ∃ z : Int32, z = pj_ai G252 187 y1.toInt.toNat := ⟨_, rfl⟩
              refine pj_X_eqi hz257.symm ?_
              have ez257 : (pj_ai G252 187 y1.toInt.toNat).toInt = z257.toInt := by rw [hz257]
              refine pj_X_of (fun r h => pj_R_to (G252, 157, [(1, .int y1), (0, .ref 171)], [.int (Int32.ofInt 1), .int z257, .ref 171, .int y1, .ref 189], 0, 0) 157 2 (fun _ => rfl) h) ?_
              cases b258 : pj_c1 .ne z257 (Int32.ofInt 1) with
              | true =>
                have ub258 := pj_u_neT b258
                refine pj_X_of (fun r h => pj_R_icT 164 rfl rfl b258 h) ?_
                refine pj_X_of (fun r h => pj_R_to (G252, 165, [(1, .int y1), (0, .ref 171)], [.int (Int32.ofInt 1), .ref 171, .int y1, .ref 189], 0, 0) 165 2 (fun _ => rfl) h) ?_
                have q259 : (pj_fi G252 171 39).toInt = y254.toInt := by rw [show pj_fi G252 171 39 = y254 from hy254.symm]
                have q260 : (pj_fi G252 171 17).toInt = y255.toInt := by rw [show pj_fi G252 171 17 = y255 from hy255.symm]
                refine pj_X_ca (vs := [.ref 171, .int (Int32.ofInt 1)]) rfl (fun _ => rfl) ⟨Nat.le_of_ble_eq_true rfl, Nat.le_of_ble_eq_true rfl, pj_T_rcv iG252 rfl⟩ ⟨rfl, rfl⟩ (pj_Y_up (by decide) (ct_186 G252 iG252 (Int32.ofInt 1) ⟨by omega, by omega⟩)) ?_
                rintro _ G262 ⟨y261, rfl, iG262, jG262, ry261, ey261⟩
                have kG262 : pj_kpt kc_229 G0 G262 := pj_kpt_t kG252 (pj_kpt_s jG262 rfl)
                have q263 : (pj_fi G262 171 39).toInt = (pj_fi G252 171 39).toInt := by rw [jG262.1 (171, 39) (by decide)]
                obtain ⟨y264, hy264⟩ : ∃ z : Int32, z = pj_fi G262 171 39 := ⟨_, rfl⟩
                have ey264 : (pj_fi G262 171 39).toInt = y264.toInt := by rw [hy264]
                have ry264 : (0 : Int) ≤ y264.toInt ∧ y264.toInt ≤ 60 := by rw [hy264]; exact iG262.2.1 171 39 (0, 60) rfl
                obtain ⟨y265, hy265⟩ : ∃ z : Int32, z = pj_fi G262 171 17 := ⟨_, rfl⟩
                have ey265 : (pj_fi G262 171 17).toInt = y265.toInt := by rw [hy265]
                have ry265 : (0 : Int) ≤ y265.toInt ∧ y265.toInt ≤ 80 := by rw [hy265]; exact iG262.2.1 171 17 (0, 80) rfl
                show pj_X _ _ G262 168 [(1, .int y1), (0, .ref 171)] [.int y261, .int y1, .ref 189] _
                refine pj_X_of (fun r h => pj_T_is iG262 rfl rfl (by omega) (by omega) h) ?_
                show pj_X _ _ (pj_wa G262 189 y1.toInt.toNat y261) 169 [(1, .int y1), (0, .ref 171)] [] _
                obtain ⟨G266, hG266⟩ : ∃ H, H = pj_wa G262 189 y1.toInt.toNat y261 := ⟨_, rfl⟩
                have iG266 : pj_Inv G266 := by rw [hG266]; exact pj_Inv_wa iG262 rfl (fun q hq => by cases hq) (fun n hn => by cases hn)
                have kG266 : pj_kpt kc_229 G0 G266 := by rw [hG266]; exact pj_kpt_a kG262 rfl
                rw [← hG266]
                refine pj_X_of (fun r h => pj_R_to (G266, 170, [(1, .int y1), (0, .ref 171)], [.ref 171], 0, 0) 170 2 (fun _ => rfl) h) ?_
                refine pj_X_of (fun r h => pj_T_gr iG266 rfl rfl rfl h) ?_
                refine pj_X_of (fun r h => pj_R_to (G266, 174, [(1, .int y1), (0, .ref 171)], [.int y1, .ref 189], 0, 0) 174 2 (fun _ => rfl) h) ?_
                refine pj_X_of (fun r h => pj_T_il iG266 rfl rfl (by omega) (by omega) h) ?_
                show pj_X _ _ G266 175 [(1, .int y1), (0, .ref 171)] [.int (pj_ai G266 189 y1.toInt.toNat)] _
                obtain ⟨z267, hz267⟩ : ∃ z : Int32, z = pj_ai G266 189 y1.toInt.toNat := ⟨_, rfl⟩
                refine pj_X_eqi hz267.symm ?_
                have ez267 : (pj_ai G266 189 y1.toInt.toNat).toInt = z267.toInt := by rw [hz267]
                have x268 : z267.toInt = y261.toInt := by rw [hz267, show y1.toInt.toNat = y1.toInt.toNat by omega, hG266, pj_ai_wa_eq iG262.1 rfl]
                cases b269 : pj_c1 .lt z267 0 with
                | true =>
                  have ub269 := pj_u0_ltT b269
                  refine pj_X_of (fun r h => pj_R_ifT 182 rfl rfl b269 h) ?_
                  refine pj_X_of (fun r h => pj_R_to (G266, 183, [(1, .int y1), (0, .ref 171)], [.int (Int32.ofInt 0)], 0, 0) 183 2 (fun _ => rfl) h) ?_
                  have q270 : (pj_fi G266 171 39).toInt = y264.toInt := by rw [show pj_fi G266 171 39 = y264 from by rw [hG266, pj_fi_wa]; exact hy264.symm]
                  have q271 : (pj_fi G266 171 17).toInt = y265.toInt := by rw [show pj_fi G266 171 17 = y265 from by rw [hG266, pj_fi_wa]; exact hy265.symm]
                  exact pj_X_rt rfl rfl ⟨_, rfl, iG266, kG266, ⟨by omega, by omega⟩, by omega⟩
                | false =>
                  have ub269 := pj_u0_ltF b269
                  refine pj_X_of (fun r h => pj_R_ifF rfl b269 h) ?_
                  refine pj_X_of (fun r h => pj_R_to (G266, 183, [(1, .int y1), (0, .ref 171)], [.int (Int32.ofInt 1)], 0, 0) 183 3 (fun _ => rfl) h) ?_
                  have q272 : (pj_fi G266 171 39).toInt = y264.toInt := by rw [show pj_fi G266 171 39 = y264 from by rw [hG266, pj_fi_wa]; exact hy264.symm]
                  have q273 : (pj_fi G266 171 17).toInt = y265.toInt := by rw [show pj_fi G266 171 17 = y265 from by rw [hG266, pj_fi_wa]; exact hy265.symm]
                  exact pj_X_rt rfl rfl ⟨_, rfl, iG266, kG266, ⟨by omega, by omega⟩, by omega⟩
              | false =>
                have ub258 := pj_u_neF b258
                refine pj_X_of (fun r h => pj_R_icF rfl b258 h) ?_
                refine pj_X_of (fun r h => pj_R_to (G252, 165, [(1, .int y1), (0, .ref 171)], [.int (Int32.ofInt 3), .ref 171, .int y1, .ref 189], 0, 0) 165 3 (fun _ => rfl) h) ?_
                have q274 : (pj_fi G252 171 39).toInt = y254.toInt := by rw [show pj_fi G252 171 39 = y254 from hy254.symm]
                have q275 : (pj_fi G252 171 17).toInt = y255.toInt := by rw [show pj_fi G252 171 17 = y255 from hy255.symm]
                refine pj_X_ca (vs := [.ref 171, .int (Int32.ofInt 3)]) rfl (fun _ => rfl) ⟨Nat.le_of_ble_eq_true rfl, Nat.le_of_ble_eq_true rfl, pj_T_rcv iG252 rfl⟩ ⟨rfl, rfl⟩ (pj_Y_up (by decide) (ct_186 G252 iG252 (Int32.ofInt 3) ⟨by omega, by omega⟩)) ?_
                rintro _ G277 ⟨y276, rfl, iG277, jG277, ry276, ey276⟩
                have kG277 : pj_kpt kc_229 G0 G277 := pj_kpt_t kG252 (pj_kpt_s jG277 rfl)
                have q278 : (pj_fi G277 171 39).toInt = (pj_fi G252 171 39).toInt := by rw [jG277.1 (171, 39) (by decide)]
                obtain ⟨y279, hy279⟩ : ∃ z : Int32, z = pj_fi G277 171 39 := ⟨_, rfl⟩
                have ey279 : (pj_fi G277 171 39).toInt = y279.toInt := by rw [hy279]
                have ry279 : (0 : Int) ≤ y279.toInt ∧ y279.toInt ≤ 60 := by rw [hy279]; exact iG277.2.1 171 39 (0, 60) rfl
                obtain ⟨y280, hy280⟩ : ∃ z : Int32, z = pj_fi G277 171 17 := ⟨_, rfl⟩
                have ey280 : (pj_fi G277 171 17).toInt = y280.toInt := by rw [hy280]
                have ry280 : (0 : Int) ≤ y280.toInt ∧ y280.toInt ≤ 80 := by rw [hy280]; exact iG277.2.1 171 17 (0, 80) rfl
                show pj_X _ _ G277 168 [(1, .int y1), (0, .ref 171)] [.int y276, .int y1, .ref 189] _
                refine pj_X_of (fun r h => pj_T_is iG277 rfl rfl (by omega) (by omega) h) ?_
                show pj_X _ _ (pj_wa G277 189 y1.toInt.toNat y276) 169 [(1, .int y1), (0, .ref 171)] [] _
                obtain ⟨G281, hG281⟩ : ∃ H, H = pj_wa G277 189 y1.toInt.toNat y276 := ⟨_, rfl⟩
                have iG281 : pj_Inv G281 := by rw [hG281]; exact pj_Inv_wa iG277 rfl (fun q hq => by cases hq) (fun n hn => by cases hn)
                have kG281 : pj_kpt kc_229 G0 G281 := by rw [hG281]; exact pj_kpt_a kG277 rfl
                rw [← hG281]
                refine pj_X_of (fun r h => pj_R_to (G281, 170, [(1, .int y1), (0, .ref 171)], [.ref 171], 0, 0) 170 2 (fun _ => rfl) h) ?_
                refine pj_X_of (fun r h => pj_T_gr iG281 rfl rfl rfl h) ?_
                refine pj_X_of (fun r h => pj_R_to (G281, 174, [(1, .int y1), (0, .ref 171)], [.int y1, .ref 189], 0, 0) 174 2 (fun _ => rfl) h) ?_
                refine pj_X_of (fun r h => pj_T_il iG281 rfl rfl (by omega) (by omega) h) ?_
                show pj_X _ _ G281 175 [(1, .int y1), (0, .ref 171)] [.int (pj_ai G281 189 y1.toInt.toNat)] _
                obtain ⟨z282, hz282⟩ : ∃ z : Int32, z = pj_ai G281 189 y1.toInt.toNat := ⟨_, rfl⟩
                refine pj_X_eqi hz282.symm ?_
                have ez282 : (pj_ai G281 189 y1.toInt.toNat).toInt = z282.toInt := by rw [hz282]
                have x283 : z282.toInt = y276.toInt := by rw [hz282, show y1.toInt.toNat = y1.toInt.toNat by omega, hG281, pj_ai_wa_eq iG277.1 rfl]
                cases b284 : pj_c1 .lt z282 0 with
                | true =>
                  have ub284 := pj_u0_ltT b284
                  refine pj_X_of (fun r h => pj_R_ifT 182 rfl rfl b284 h) ?_
                  refine pj_X_of (fun r h => pj_R_to (G281, 183, [(1, .int y1), (0, .ref 171)], [.int (Int32.ofInt 0)], 0, 0) 183 2 (fun _ => rfl) h) ?_
                  have q285 : (pj_fi G281 171 39).toInt = y279.toInt := by rw [show pj_fi G281 171 39 = y279 from by rw [hG281, pj_fi_wa]; exact hy279.symm]
                  have q286 : (pj_fi G281 171 17).toInt = y280.toInt := by rw [show pj_fi G281 171 17 = y280 from by rw [hG281, pj_fi_wa]; exact hy280.symm]
                  exact pj_X_rt rfl rfl ⟨_, rfl, iG281, kG281, ⟨by omega, by omega⟩, by omega⟩
                | false =>
                  have ub284 := pj_u0_ltF b284
                  refine pj_X_of (fun r h => pj_R_ifF rfl b284 h) ?_
                  refine pj_X_of (fun r h => pj_R_to (G281, 183, [(1, .int y1), (0, .ref 171)], [.int (Int32.ofInt 1)], 0, 0) 183 3 (fun _ => rfl) h) ?_
                  have q287 : (pj_fi G281 171 39).toInt = y279.toInt := by rw [show pj_fi G281 171 39 = y279 from by rw [hG281, pj_fi_wa]; exact hy279.symm]
                  have q288 : (pj_fi G281 171 17).toInt = y280.toInt := by rw [show pj_fi G281 171 17 = y280 from by rw [hG281, pj_fi_wa]; exact hy280.symm]
                  exact pj_X_rt rfl rfl ⟨_, rfl, iG281, kG281, ⟨by omega, by omega⟩, by omega⟩
            | false =>
              have ub256 := pj_u0_eqF b256
              refine pj_X_of (fun r h => pj_R_ifF rfl b256 h) ?_
              refine pj_X_of (fun r h => pj_R_to (G252, 136, [(1, .int y1), (0, .ref 171)], [.ref 171], 0, 0) 136 2 (fun _ => rfl) h) ?_
              refine pj_X_of (fun r h => pj_T_gr iG252 rfl rfl rfl h) ?_
              refine pj_X_of (fun r h => pj_R_to (G252, 141, [(1, .int y1), (0, .ref 171)], [.int (Int32.ofInt (-1)), .int y1, .ref 189], 0, 0) 141 3 (fun _ => rfl) h) ?_
              refine pj_X_of (fun r h => pj_T_is iG252 rfl rfl (by omega) (by omega) h) ?_
              show pj_X _ _ (pj_wa G252 189 y1.toInt.toNat (Int32.ofInt (-1))) 142 [(1, .int y1), (0, .ref 171)] [] _
              obtain ⟨G289, hG289⟩ : ∃ H, H = pj_wa G252 189 y1.toInt.toNat (Int32.ofInt (-1)) := ⟨_, rfl⟩
              have iG289 : pj_Inv G289 := by rw [hG289]; exact pj_Inv_wa iG252 rfl (fun q hq => by cases hq) (fun n hn => by cases hn)
              have kG289 : pj_kpt kc_229 G0 G289 := by rw [hG289]; exact pj_kpt_a kG252 rfl
              rw [← hG289]
              refine pj_X_of (fun r h => pj_R_to (G289, 143, [(1, .int y1), (0, .ref 171)], [.int (Int32.ofInt 1)], 0, 0) 143 2 (fun _ => rfl) h) ?_
              have q290 : (pj_fi G289 171 39).toInt = y254.toInt := by rw [show pj_fi G289 171 39 = y254 from by rw [hG289, pj_fi_wa]; exact hy254.symm]
              have q291 : (pj_fi G289 171 17).toInt = y255.toInt := by rw [show pj_fi G289 171 17 = y255 from by rw [hG289, pj_fi_wa]; exact hy255.symm]
              exact pj_X_rt rfl rfl ⟨_, rfl, iG289, kG289, ⟨by omega, by omega⟩, by omega⟩
        | false =>
          have ub216 := pj_u_neF b216
          refine pj_X_of (fun r h => pj_R_icF rfl b216 h) ?_
          refine pj_X_of (fun r h => pj_R_to (G209, 103, [(1, .int y1), (0, .ref 171)], [.ref 171], 0, 0) 103 2 (fun _ => rfl) h) ?_
          refine pj_X_of (fun r h => pj_T_gr iG209 rfl rfl rfl h) ?_
          refine pj_X_of (fun r h => pj_R_to (G209, 107, [(1, .int y1), (0, .ref 171)], [.int y1, .ref 188], 0, 0) 107 2 (fun _ => rfl) h) ?_
          refine pj_X_of (fun r h => pj_T_il iG209 rfl rfl (by omega) (by omega) h) ?_
          show pj_X _ _ G209 108 [(1, .int y1), (0, .ref 171)] [.int (pj_ai G209 188 y1.toInt.toNat)] _
          refine pj_X_eqi hz210.symm ?_
          refine pj_X_of (fun r h => pj_R_ifF rfl (pj_b0_ltF (by omega)) h) ?_
          refine pj_X_of (fun r h => pj_R_to (G209, 116, [(1, .int y1), (0, .ref 171)], [.int (Int32.ofInt 1)], 0, 0) 116 3 (fun _ => rfl) h) ?_
          have q292 : (pj_fi G209 171 39).toInt = y207.toInt := by rw [show pj_fi G209 171 39 = y207 from by rw [hG209, pj_fi_wa]; exact hy207.symm]
          have q293 : (pj_fi G209 171 17).toInt = y208.toInt := by rw [show pj_fi G209 171 17 = y208 from by rw [hG209, pj_fi_wa]; exact hy208.symm]
          exact pj_X_rt rfl rfl ⟨_, rfl, iG209, kG209, ⟨by omega, by omega⟩, by omega⟩
  | false =>
    have ub15 := pj_u0_geF b15
    refine pj_X_of (fun r h => pj_R_ifF rfl b15 h) ?_
    refine pj_X_of (fun r h => pj_R_to (G12, 38, [(1, .int y1), (0, .ref 171)], [.int (Int32.ofInt 0)], 0, 0) 38 2 (fun _ => rfl) h) ?_
    have q294 : (pj_fi G12 171 39).toInt = z11.toInt := by rw [show pj_fi G12 171 39 = z11 from by rw [hG12]; exact pj_fi_wi iG10.1 (ci := 12) rfl _]
    have q295 : (pj_fi G12 171 17).toInt = y9.toInt := by rw [show pj_fi G12 171 17 = y9 from by rw [hG12, pj_fi_wv_ne _ _ _ _ _ _ (by decide)]; exact (by rw [hG10, pj_fi_wa]; exact hy9.symm)]
    exact pj_X_rt rfl rfl ⟨_, rfl, iG12, kG12, ⟨by omega, by omega⟩, by omega⟩
def kc_230 : pj_KT := ([(171, 32), (171, 33), (171, 34), (171, 35)], [171, 179, 184, 185], [179, 184, 185])
theorem lp_ct_230 (G0 : pj_G) (hI0 : pj_Inv G0) (k : Int32) (rk : (0 : Int) ≤ k.toInt ∧ k.toInt ≤ 59) (p0_ : pj_RI G0) : ∀ mn : Nat, (∀ (G : pj_G) (hI : pj_Inv G) (hK : pj_kpt kc_230 G0 G) (v2 : Int32), ((0 : Int) ≤ v2.toInt ∧ v2.toInt ≤ 2147483647) → 2147483647 - v2.toInt < (mn : Int) → pj_X 6 pj_m230 G 114 [(0, .ref 171), (1, .int k), (2, .int v2)] [] (fun v G' => ∃ y : Int32, v = some (.int y) ∧ pj_Inv G' ∧ pj_kpt kc_230 G0 G' ∧ ((0 : Int) ≤ y.toInt ∧ y.toInt ≤ 1))) := by
  have c0_ : ((Int8.ofInt 30).toInt32).toInt = 30 := by decide
  have c1_ : (Int32.ofInt 0).toInt = 0 := by decide
  have c2_ : (Int32.ofInt 1).toInt = 1 := by decide
  intro mn
  induction mn with
  | zero =>
    intro G hI hK v2 rv2 hm
    exfalso
    omega
  | succ mn ih =>
    intro G hI hK v2 rv2 hm
    refine pj_X_of (fun r h => pj_R_to (G, 116, [(0, .ref 171), (1, .int k), (2, .int v2)], [.ref 171, .int v2], 0, 0) 116 3 (fun _ => rfl) h) ?_
    refine pj_X_of (fun r h => pj_T_gr hI rfl rfl rfl h) ?_
    refine pj_X_of (fun r h => pj_R_to (G, 120, [(0, .ref 171), (1, .int k), (2, .int v2)], [.int k, .ref 188, .int v2], 0, 0) 120 2 (fun _ => rfl) h) ?_
    refine pj_X_of (fun r h => pj_T_il hI rfl rfl (by omega) (by omega) h) ?_
    show pj_X _ _ G 121 [(0, .ref 171), (1, .int k), (2, .int v2)] [.int (pj_ai G 188 k.toInt.toNat), .int v2] _
    obtain ⟨z1, hz1⟩ : ∃ z : Int32, z = pj_ai G 188 k.toInt.toNat := ⟨_, rfl⟩
    refine pj_X_eqi hz1.symm ?_
    have ez1 : (pj_ai G 188 k.toInt.toNat).toInt = z1.toInt := by rw [hz1]
    have i2 := pj_i32 z1
    cases b3 : pj_c1 .ge v2 z1 with
    | true =>
      have ub3 := pj_u_geT b3
      refine pj_X_of (fun r h => pj_R_icT 134 rfl rfl b3 h) ?_
      refine pj_X_of (fun r h => pj_R_to (G, 135, [(0, .ref 171), (1, .int k), (2, .int v2)], [.int (Int32.ofInt 1)], 0, 0) 135 2 (fun _ => rfl) h) ?_
      exact pj_X_rt rfl rfl ⟨_, rfl, hI, hK, ⟨by omega, by omega⟩⟩
    | false =>
      have ub3 := pj_u_geF b3
      refine pj_X_of (fun r h => pj_R_icF rfl b3 h) ?_
      refine pj_X_of (fun r h => pj_R_to (G, 125, [(0, .ref 171), (1, .int k), (2, .int v2)], [.ref 171], 0, 0) 125 2 (fun _ => rfl) h) ?_
      refine pj_X_ca (vs := [.ref 171]) rfl (fun _ => rfl) ⟨Nat.le_of_ble_eq_true rfl, Nat.le_of_ble_eq_true rfl, pj_T_rcv hI rfl⟩ ⟨rfl, rfl⟩ (pj_Y_up (by decide) (ct_224x G hI)) ?_
      rintro _ G5 ⟨rfl, iG5, jG5, fy4⟩
      have kG5 : pj_kpt kc_230 G0 G5 := pj_kpt_t hK (pj_kpt_s jG5 rfl)
      show pj_X _ _ G5 128 [(0, .ref 171), (1, .int k), (2, .int v2)] [] _
      refine pj_X_of (fun r h => pj_R_to (G5, 131, [(2, .int (v2 + Int32.ofInt 1)), (0, .ref 171), (1, .int k)], [], 0, 0) 131 2 (fun _ => rfl) h) ?_
      obtain ⟨z6, hz6⟩ : ∃ z : Int32, z = v2 + Int32.ofInt 1 := ⟨_, rfl⟩
      rw [← hz6]
      have fz6_0 : z6.toInt = v2.toInt + (Int32.ofInt 1).toInt := by rw [hz6]; exact pj_addI (by have := pj_i32 v2; have := pj_i32 (Int32.ofInt 1); omega) (by have := pj_i32 v2; have := pj_i32 (Int32.ofInt 1); omega)
      refine pj_X_of (fun r h => pj_R_to (G5, 114, [(2, .int z6), (0, .ref 171), (1, .int k)], [], 0, 0) 114 2 (fun _ => rfl) h) ?_
      exact pj_X_sub [(0, .ref 171), (1, .int k), (2, .int z6)] (show List.Nodup [0, 1, 2] by decide) ⟨rfl, rfl, rfl, trivial⟩ (ih G5 iG5 kG5 z6 ⟨by omega, by omega⟩ (by omega))
theorem ct_230 (G0 : pj_G) (hI : pj_Inv G0) (k : Int32) (rk : (0 : Int) ≤ k.toInt ∧ k.toInt ≤ 59) (p0_ : pj_RI G0) : pj_Y 7 230 [.ref 171, .int k] G0 (fun v G' => ∃ y : Int32, v = some (.int y) ∧ pj_Inv G' ∧ pj_kpt kc_230 G0 G' ∧ ((0 : Int) ≤ y.toInt ∧ y.toInt ≤ 1)) := by
  have c0_ : ((Int8.ofInt 30).toInt32).toInt = 30 := by decide
  have c1_ : (Int32.ofInt 0).toInt = 0 := by decide
  have c2_ : (Int32.ofInt 1).toInt = 1 := by decide
  refine pj_Y_X (M := pj_m230) rfl rfl (Nat.le_of_ble_eq_true rfl) ?_
  have hK : pj_kpt kc_230 G0 G0 := pj_kpt_r _ _
  show pj_X _ _ G0 0 [(0, .ref 171), (1, .int k)] [] _
  refine pj_X_of (fun r h => pj_R_to (G0, 1, [(0, .ref 171), (1, .int k)], [.ref 171], 0, 0) 1 2 (fun _ => rfl) h) ?_
  refine pj_X_of (fun r h => pj_T_gr hI rfl rfl rfl h) ?_
  refine pj_X_of (fun r h => pj_R_to (G0, 5, [(0, .ref 171), (1, .int k)], [.int k, .ref 187], 0, 0) 5 2 (fun _ => rfl) h) ?_
  refine pj_X_of (fun r h => pj_T_il hI rfl rfl (by omega) (by omega) h) ?_
  show pj_X _ _ G0 6 [(0, .ref 171), (1, .int k)] [.int (pj_ai G0 187 k.toInt.toNat)] _
  obtain ⟨z7, hz7⟩ : ∃ z : Int32, z = pj_ai G0 187 k.toInt.toNat := ⟨_, rfl⟩
  refine pj_X_eqi hz7.symm ?_
  have ez7 : (pj_ai G0 187 k.toInt.toNat).toInt = z7.toInt := by rw [hz7]
  by_cases t8 : z7.toInt = 0
  · refine pj_X_of (fun r h => pj_R_tw 32 rfl (n := 0) t8 rfl h) ?_
    refine pj_X_of (fun r h => pj_R_to (G0, 34, [(0, .ref 171), (1, .int k)], [.ref 171, .ref 171], 0, 0) 34 3 (fun _ => rfl) h) ?_
    refine pj_X_of (fun r h => pj_T_gr hI rfl rfl rfl h) ?_
    refine pj_X_of (fun r h => pj_R_to (G0, 38, [(0, .ref 171), (1, .int k)], [.int k, .ref 188, .ref 171], 0, 0) 38 2 (fun _ => rfl) h) ?_
    refine pj_X_of (fun r h => pj_T_il hI rfl rfl (by omega) (by omega) h) ?_
    show pj_X _ _ G0 39 [(0, .ref 171), (1, .int k)] [.int (pj_ai G0 188 k.toInt.toNat), .ref 171] _
    obtain ⟨z9, hz9⟩ : ∃ z : Int32, z = pj_ai G0 188 k.toInt.toNat := ⟨_, rfl⟩
    refine pj_X_eqi hz9.symm ?_
    have ez9 : (pj_ai G0 188 k.toInt.toNat).toInt = z9.toInt := by rw [hz9]
    have i10 := pj_i32 z9
    refine pj_X_of (fun r h => pj_R_to (G0, 40, [(0, .ref 171), (1, .int k)], [.ref 171, .int z9, .ref 171], 0, 0) 40 2 (fun _ => rfl) h) ?_
    refine pj_X_of (fun r h => pj_T_gr hI rfl rfl rfl h) ?_
    refine pj_X_of (fun r h => pj_R_to (G0, 44, [(0, .ref 171), (1, .int k)], [.int k, .ref 189, .int z9, .ref 171], 0, 0) 44 2 (fun _ => rfl) h) ?_
    refine pj_X_of (fun r h => pj_T_il hI rfl rfl (by omega) (by omega) h) ?_
    show pj_X _ _ G0 45 [(0, .ref 171), (1, .int k)] [.int (pj_ai G0 189 k.toInt.toNat), .int z9, .ref 171] _
    obtain ⟨z11, hz11⟩ : ∃ z : Int32, z = pj_ai G0 189 k.toInt.toNat := ⟨_, rfl⟩
    refine pj_X_eqi hz11.symm ?_
    have ez11 : (pj_ai G0 189 k.toInt.toNat).toInt = z11.toInt := by rw [hz11]
    refine pj_X_ca (vs := [.ref 171, .int z9, .int z11]) rfl (fun _ => rfl) ⟨Nat.le_of_ble_eq_true rfl, Nat.le_of_ble_eq_true rfl, pj_T_rcv hI rfl⟩ ⟨rfl, rfl⟩ (pj_Y_up (by decide) (ct_220x G0 hI z9 z11 (pj_RI_k p0_ hK rfl))) ?_
    rintro _ G13 ⟨y12, rfl, iG13, jG13, ry12, fy12⟩
    have kG13 : pj_kpt kc_230 G0 G13 := pj_kpt_t hK (pj_kpt_s jG13 rfl)
    show pj_X _ _ G13 48 [(0, .ref 171), (1, .int k)] [.int y12] _
    cases b14 : pj_c1 .lt y12 0 with
    | true =>
      have ub14 := pj_u0_ltT b14
      refine pj_X_of (fun r h => pj_R_ifT 55 rfl rfl b14 h) ?_
      refine pj_X_of (fun r h => pj_R_to (G13, 56, [(0, .ref 171), (1, .int k)], [.int (Int32.ofInt 0)], 0, 0) 56 2 (fun _ => rfl) h) ?_
      exact pj_X_rt rfl rfl ⟨_, rfl, iG13, kG13, ⟨by omega, by omega⟩⟩
    | false =>
      have ub14 := pj_u0_ltF b14
      refine pj_X_of (fun r h => pj_R_ifF rfl b14 h) ?_
      refine pj_X_of (fun r h => pj_R_to (G13, 56, [(0, .ref 171), (1, .int k)], [.int (Int32.ofInt 1)], 0, 0) 56 3 (fun _ => rfl) h) ?_
      exact pj_X_rt rfl rfl ⟨_, rfl, iG13, kG13, ⟨by omega, by omega⟩⟩
  by_cases t15 : z7.toInt = 1
  · refine pj_X_of (fun r h => pj_R_tw 57 rfl (n := 1) t15 rfl h) ?_
    refine pj_X_of (fun r h => pj_R_to (G0, 59, [(0, .ref 171), (1, .int k)], [.ref 171, .ref 171], 0, 0) 59 3 (fun _ => rfl) h) ?_
    refine pj_X_of (fun r h => pj_T_gr hI rfl rfl rfl h) ?_
    refine pj_X_of (fun r h => pj_R_to (G0, 63, [(0, .ref 171), (1, .int k)], [.int k, .ref 188, .ref 171], 0, 0) 63 2 (fun _ => rfl) h) ?_
    refine pj_X_of (fun r h => pj_T_il hI rfl rfl (by omega) (by omega) h) ?_
    show pj_X _ _ G0 64 [(0, .ref 171), (1, .int k)] [.int (pj_ai G0 188 k.toInt.toNat), .ref 171] _
    obtain ⟨z16, hz16⟩ : ∃ z : Int32, z = pj_ai G0 188 k.toInt.toNat := ⟨_, rfl⟩
    refine pj_X_eqi hz16.symm ?_
    have ez16 : (pj_ai G0 188 k.toInt.toNat).toInt = z16.toInt := by rw [hz16]
    have i17 := pj_i32 z16
    refine pj_X_of (fun r h => pj_R_to (G0, 65, [(0, .ref 171), (1, .int k)], [.ref 171, .int z16, .ref 171], 0, 0) 65 2 (fun _ => rfl) h) ?_
    refine pj_X_of (fun r h => pj_T_gr hI rfl rfl rfl h) ?_
    refine pj_X_of (fun r h => pj_R_to (G0, 70, [(0, .ref 171), (1, .int k)], [.int ((Int8.ofInt 30).toInt32), .ref 179, .int z16, .ref 171], 0, 0) 70 2 (fun _ => rfl) h) ?_
    refine pj_X_of (fun r h => pj_T_il hI rfl rfl (by omega) (by omega) h) ?_
    show pj_X _ _ G0 71 [(0, .ref 171), (1, .int k)] [.int (pj_ai G0 179 ((Int8.ofInt 30).toInt32).toInt.toNat), .int z16, .ref 171] _
    obtain ⟨z18, hz18⟩ : ∃ z : Int32, z = pj_ai G0 179 ((Int8.ofInt 30).toInt32).toInt.toNat := ⟨_, rfl⟩
    refine pj_X_eqi hz18.symm ?_
    have ez18 : (pj_ai G0 179 ((Int8.ofInt 30).toInt32).toInt.toNat).toInt = z18.toInt := by rw [hz18]
    refine pj_X_of (fun r h => pj_R_to (G0, 72, [(0, .ref 171), (1, .int k)], [.ref 171, .int z18, .int z16, .ref 171], 0, 0) 72 2 (fun _ => rfl) h) ?_
    refine pj_X_of (fun r h => pj_T_gr hI rfl rfl rfl h) ?_
    refine pj_X_of (fun r h => pj_R_to (G0, 76, [(0, .ref 171), (1, .int k)], [.int k, .ref 189, .int z18, .int z16, .ref 171], 0, 0) 76 2 (fun _ => rfl) h) ?_
    refine pj_X_of (fun r h => pj_T_il hI rfl rfl (by omega) (by omega) h) ?_
    show pj_X _ _ G0 77 [(0, .ref 171), (1, .int k)] [.int (pj_ai G0 189 k.toInt.toNat), .int z18, .int z16, .ref 171] _
    obtain ⟨z19, hz19⟩ : ∃ z : Int32, z = pj_ai G0 189 k.toInt.toNat := ⟨_, rfl⟩
    refine pj_X_eqi hz19.symm ?_
    have ez19 : (pj_ai G0 189 k.toInt.toNat).toInt = z19.toInt := by rw [hz19]
    refine pj_X_of (fun r h => pj_R_to (G0, 78, [(0, .ref 171), (1, .int k)], [.int (z18 + z19), .int z16, .ref 171], 0, 0) 78 2 (fun _ => rfl) h) ?_
    obtain ⟨z20, hz20⟩ : ∃ z : Int32, z = z18 + z19 := ⟨_, rfl⟩
    refine pj_X_eqi hz20.symm ?_
    refine pj_X_ca (vs := [.ref 171, .int z16, .int z20]) rfl (fun _ => rfl) ⟨Nat.le_of_ble_eq_true rfl, Nat.le_of_ble_eq_true rfl, pj_T_rcv hI rfl⟩ ⟨rfl, rfl⟩ (pj_Y_up (by decide) (ct_221x G0 hI z16 z20)) ?_
    rintro _ G22 ⟨y21, rfl, iG22, jG22, ry21, fy21⟩
    have kG22 : pj_kpt kc_230 G0 G22 := pj_kpt_t hK (pj_kpt_s jG22 rfl)
    show pj_X _ _ G22 81 [(0, .ref 171), (1, .int k)] [.int y21] _
    refine pj_X_of (fun r h => pj_R_to (G22, 83, [(0, .ref 171), (1, .int k)], [.ref 171], 0, 0) 83 3 (fun _ => rfl) h) ?_
    refine pj_X_of (fun r h => pj_T_gi iG22 rfl rfl h) ?_
    show pj_X _ _ G22 86 [(0, .ref 171), (1, .int k)] [.int (pj_fi G22 171 32)] _
    obtain ⟨y23, hy23⟩ : ∃ z : Int32, z = pj_fi G22 171 32 := ⟨_, rfl⟩
    refine pj_X_eqi hy23.symm ?_
    have ey23 : (pj_fi G22 171 32).toInt = y23.toInt := by rw [hy23]
    have ry23 : (0 : Int) ≤ y23.toInt ∧ y23.toInt ≤ 1 := by rw [hy23]; exact iG22.2.1 171 32 (0, 1) rfl
    exact pj_X_rt (v := some (.int y23)) rfl (pj_rtb ⟨by omega, by omega⟩) ⟨_, rfl, iG22, kG22, ⟨by omega, by omega⟩⟩
  by_cases t24 : z7.toInt = 2
  · refine pj_X_of (fun r h => pj_R_tw 87 rfl (n := 2) t24 rfl h) ?_
    refine pj_X_of (fun r h => pj_R_to (G0, 89, [(0, .ref 171), (1, .int k)], [.ref 171, .ref 171], 0, 0) 89 3 (fun _ => rfl) h) ?_
    refine pj_X_of (fun r h => pj_T_gr hI rfl rfl rfl h) ?_
    refine pj_X_of (fun r h => pj_R_to (G0, 93, [(0, .ref 171), (1, .int k)], [.int k, .ref 188, .ref 171], 0, 0) 93 2 (fun _ => rfl) h) ?_
    refine pj_X_of (fun r h => pj_T_il hI rfl rfl (by omega) (by omega) h) ?_
    show pj_X _ _ G0 94 [(0, .ref 171), (1, .int k)] [.int (pj_ai G0 188 k.toInt.toNat), .ref 171] _
    obtain ⟨z25, hz25⟩ : ∃ z : Int32, z = pj_ai G0 188 k.toInt.toNat := ⟨_, rfl⟩
    refine pj_X_eqi hz25.symm ?_
    have ez25 : (pj_ai G0 188 k.toInt.toNat).toInt = z25.toInt := by rw [hz25]
    have i26 := pj_i32 z25
    refine pj_X_of (fun r h => pj_R_to (G0, 95, [(0, .ref 171), (1, .int k)], [.ref 171, .int z25, .ref 171], 0, 0) 95 2 (fun _ => rfl) h) ?_
    refine pj_X_of (fun r h => pj_T_gr hI rfl rfl rfl h) ?_
    refine pj_X_of (fun r h => pj_R_to (G0, 99, [(0, .ref 171), (1, .int k)], [.int k, .ref 189, .int z25, .ref 171], 0, 0) 99 2 (fun _ => rfl) h) ?_
    refine pj_X_of (fun r h => pj_T_il hI rfl rfl (by omega) (by omega) h) ?_
    show pj_X _ _ G0 100 [(0, .ref 171), (1, .int k)] [.int (pj_ai G0 189 k.toInt.toNat), .int z25, .ref 171] _
    obtain ⟨z27, hz27⟩ : ∃ z : Int32, z = pj_ai G0 189 k.toInt.toNat := ⟨_, rfl⟩
    refine pj_X_eqi hz27.symm ?_
    have ez27 : (pj_ai G0 189 k.toInt.toNat).toInt = z27.toInt := by rw [hz27]
    refine pj_X_ca (vs := [.ref 171, .int z25, .int z27]) rfl (fun _ => rfl) ⟨Nat.le_of_ble_eq_true rfl, Nat.le_of_ble_eq_true rfl, pj_T_rcv hI rfl⟩ ⟨rfl, rfl⟩ (pj_Y_up (by decide) (ct_222x G0 hI z25 z27)) ?_
    rintro _ G29 ⟨y28, rfl, iG29, jG29, ry28, fy28⟩
    have kG29 : pj_kpt kc_230 G0 G29 := pj_kpt_t hK (pj_kpt_s jG29 rfl)
    show pj_X _ _ G29 103 [(0, .ref 171), (1, .int k)] [.int y28] _
    cases b30 : pj_c1 .lt y28 0 with
    | true =>
      have ub30 := pj_u0_ltT b30
      refine pj_X_of (fun r h => pj_R_ifT 110 rfl rfl b30 h) ?_
      refine pj_X_of (fun r h => pj_R_to (G29, 111, [(0, .ref 171), (1, .int k)], [.int (Int32.ofInt 0)], 0, 0) 111 2 (fun _ => rfl) h) ?_
      exact pj_X_rt rfl rfl ⟨_, rfl, iG29, kG29, ⟨by omega, by omega⟩⟩
    | false =>
      have ub30 := pj_u0_ltF b30
      refine pj_X_of (fun r h => pj_R_ifF rfl b30 h) ?_
      refine pj_X_of (fun r h => pj_R_to (G29, 111, [(0, .ref 171), (1, .int k)], [.int (Int32.ofInt 1)], 0, 0) 111 3 (fun _ => rfl) h) ?_
      exact pj_X_rt rfl rfl ⟨_, rfl, iG29, kG29, ⟨by omega, by omega⟩⟩
  refine pj_X_of (fun r h => pj_R_td 112 rfl (by omega) rfl h) ?_
  refine pj_X_of (fun r h => pj_R_to (G0, 114, [(2, .int (Int32.ofInt 0)), (0, .ref 171), (1, .int k)], [], 0, 0) 114 3 (fun _ => rfl) h) ?_
  exact pj_X_sub [(0, .ref 171), (1, .int k), (2, .int (Int32.ofInt 0))] (show List.Nodup [0, 1, 2] by decide) ⟨rfl, rfl, rfl, trivial⟩ ((lp_ct_230 G0 hI k rk p0_ 2147483648) G0 hI hK (Int32.ofInt 0) ⟨by omega, by omega⟩ (by omega))
def kc_231 : pj_KT := ([(171, 0), (171, 1), (171, 16), (171, 17), (171, 18), (171, 19), (171, 30), (171, 32), (171, 33), (171, 34), (171, 35), (171, 39)], [171, 172, 179, 184, 185, 186, 187, 188, 189], [179, 184, 185, 186, 187, 188, 189])
theorem lp_ct_231 (G0 : pj_G) (hI0 : pj_Inv G0) (p0_ : pj_RI G0) (p1_ : (pj_fi G0 171 30).toInt ≤ 15) : ∀ mn : Nat, (∀ (G : pj_G) (hI : pj_Inv G) (hK : pj_kpt kc_231 G0 G) (v1 : Int32) (v2 : Int32) (v3 : Int32), ((0 : Int) ≤ v1.toInt ∧ v1.toInt ≤ 80) → ((0 : Int) ≤ v2.toInt ∧ v2.toInt ≤ 1) → ((0 : Int) ≤ v3.toInt ∧ v3.toInt ≤ 1) → ((pj_fi G 171 30).toInt ≤ 15) → ((pj_fi G 171 18).toInt ≤ 60) → ((pj_fi G 171 39).toInt ≤ 60) → (1 ≤ v3.toInt → 2 * (pj_fi G 171 39).toInt ≤ (pj_fi G 171 17).toInt ∧ (pj_fi G 171 17).toInt ≤ 60) → 261 - (pj_fi G 171 39).toInt < (mn : Int) → pj_X 18 pj_m231 G 29 [(0, .ref 171), (1, .int v1), (2, .int v2), (3, .int v3)] [] (fun v G' => ∃ y : Int32, v = some (.int y) ∧ pj_Inv G' ∧ pj_kpt kc_231 G0 G' ∧ ((-2147483648 : Int) ≤ y.toInt ∧ y.toInt ≤ 2147483647) ∧ ((pj_fi G' 171 30).toInt ≤ 15))) ∧ (∀ (G : pj_G) (hI : pj_Inv G) (hK : pj_kpt kc_231 G0 G) (v1 : Int32) (v2 : Int32) (v3 : Int32) (v4 : Int32) (v5 : Int32), ((-2147483648 : Int) ≤ v1.toInt ∧ v1.toInt ≤ 2147483647) → ((-2147483648 : Int) ≤ v2.toInt ∧ v2.toInt ≤ 2147483647) → ((-2147483648 : Int) ≤ v3.toInt ∧ v3.toInt ≤ 2147483647) → ((-2147483648 : Int) ≤ v4.toInt ∧ v4.toInt ≤ 2147483647) → ((0 : Int) ≤ v5.toInt ∧ v5.toInt ≤ 60) → ((pj_fi G 171 30).toInt ≤ 15) → 60 - v5.toInt < (mn : Int) → pj_X 18 pj_m231 G 89 [(0, .ref 171), (1, .int v1), (2, .int v2), (3, .int v3), (4, .int v4), (5, .int v5)] [] (fun v G' => ∃ y : Int32, v = some (.int y) ∧ pj_Inv G' ∧ pj_kpt kc_231 G0 G' ∧ ((-2147483648 : Int) ≤ y.toInt ∧ y.toInt ≤ 2147483647) ∧ ((pj_fi G' 171 30).toInt ≤ 15))) := by
  have c0_ : ((Int8.ofInt 59).toInt32).toInt = 59 := by decide
  have c1_ : ((Int8.ofInt 60).toInt32).toInt = 60 := by decide
  have c2_ : (Int32.ofInt 0).toInt = 0 := by decide
  have c3_ : (Int32.ofInt 1).toInt = 1 := by decide
  intro mn
  induction mn with
  | zero =>
    refine ⟨?_, ?_⟩
    · intro G hI hK v1 v2 v3 rv1 rv2 rv3 x0_ x1_ x2_ x3_ hm
      exfalso
      omega
    · intro G hI hK v1 v2 v3 v4 v5 rv1 rv2 rv3 rv4 rv5 x0_ hm
      exfalso
      omega
  | succ mn ih =>
    refine ⟨?_, ?_⟩
    · intro G hI hK v1 v2 v3 rv1 rv2 rv3 x0_ x1_ x2_ x3_ hm
      obtain ⟨y1, hy1⟩ : ∃ z : Int32, z = pj_fi G 171 30 := ⟨_, rfl⟩
      have ey1 : (pj_fi G 171 30).toInt = y1.toInt := by rw [hy1]
      have ry1 : (0 : Int) ≤ y1.toInt ∧ y1.toInt ≤ 16 := by rw [hy1]; exact hI.2.1 171 30 (0, 16) rfl
      obtain ⟨y2, hy2⟩ : ∃ z : Int32, z = pj_fi G 171 1 := ⟨_, rfl⟩
      have ey2 : (pj_fi G 171 1).toInt = y2.toInt := by rw [hy2]
      have ry2 : (0 : Int) ≤ y2.toInt ∧ y2.toInt ≤ 24 := by rw [hy2]; exact hI.2.1 171 1 (0, 24) rfl
      obtain ⟨y3, hy3⟩ : ∃ z : Int32, z = pj_fi G 171 39 := ⟨_, rfl⟩
      have ey3 : (pj_fi G 171 39).toInt = y3.toInt := by rw [hy3]
      have ry3 : (0 : Int) ≤ y3.toInt ∧ y3.toInt ≤ 60 := by rw [hy3]; exact hI.2.1 171 39 (0, 60) rfl
      obtain ⟨y4, hy4⟩ : ∃ z : Int32, z = pj_fi G 171 17 := ⟨_, rfl⟩
      have ey4 : (pj_fi G 171 17).toInt = y4.toInt := by rw [hy4]
      have ry4 : (0 : Int) ≤ y4.toInt ∧ y4.toInt ≤ 80 := by rw [hy4]; exact hI.2.1 171 17 (0, 80) rfl
      obtain ⟨y5, hy5⟩ : ∃ z : Int32, z = pj_fi G 171 18 := ⟨_, rfl⟩
      have ey5 : (pj_fi G 171 18).toInt = y5.toInt := by rw [hy5]
      have ry5 : (0 : Int) ≤ y5.toInt ∧ y5.toInt ≤ 80 := by rw [hy5]; exact hI.2.1 171 18 (0, 80) rfl
      refine pj_X_of (fun r h => pj_R_to (G, 30, [(0, .ref 171), (1, .int v1), (2, .int v2), (3, .int v3)], [.int v3], 0, 0) 30 2 (fun _ => rfl) h) ?_
      cases b6 : pj_c1 .eq v3 0 with
      | true =>
        have ub6 := pj_u0_eqT b6
        refine pj_X_of (fun r h => pj_R_ifT 60 rfl rfl b6 h) ?_
        refine pj_X_of (fun r h => pj_R_to (G, 65, [(0, .ref 171), (1, .int v1), (2, .int v2), (3, .int v3)], [.int v2, .int ((Int8.ofInt 60).toInt32), .int v1, .ref 171], 0, 0) 65 5 (fun _ => rfl) h) ?_
        have q7 : (pj_fi G 171 30).toInt = y1.toInt := by rw [show pj_fi G 171 30 = y1 from hy1.symm]
        have q8 : (pj_fi G 171 1).toInt = y2.toInt := by rw [show pj_fi G 171 1 = y2 from hy2.symm]
        have q9 : (pj_fi G 171 39).toInt = y3.toInt := by rw [show pj_fi G 171 39 = y3 from hy3.symm]
        have q10 : (pj_fi G 171 17).toInt = y4.toInt := by rw [show pj_fi G 171 17 = y4 from hy4.symm]
        have q11 : (pj_fi G 171 18).toInt = y5.toInt := by rw [show pj_fi G 171 18 = y5 from hy5.symm]
        refine pj_X_ca (vs := [.ref 171, .int v1, .int ((Int8.ofInt 60).toInt32), .int v2]) rfl (fun _ => rfl) ⟨Nat.le_of_ble_eq_true rfl, Nat.le_of_ble_eq_true rfl, pj_T_rcv hI rfl⟩ ⟨rfl, rfl⟩ (pj_Y_up (by decide) (ct_188 G hI v1 ((Int8.ofInt 60).toInt32) v2 ⟨by omega, by omega⟩ ⟨by omega, by omega⟩ ⟨by omega, by omega⟩)) ?_
        rintro _ _ ⟨y12, rfl, rfl, ry12, ey12⟩
        show pj_X _ _ G 68 [(0, .ref 171), (1, .int v1), (2, .int v2), (3, .int v3)] [.int y12] _
        refine pj_X_of (fun r h => pj_R_to (G, 72, [(4, .int y12), (0, .ref 171), (1, .int v1), (2, .int v2), (3, .int v3)], [.int y12], 0, 0) 72 3 (fun _ => rfl) h) ?_
        cases b13 : pj_c1 .ge y12 0 with
        | true =>
          have ub13 := pj_u0_geT b13
          refine pj_X_of (fun r h => pj_R_ifT 78 rfl rfl b13 h) ?_
          refine pj_X_of (fun r h => pj_R_to (G, 79, [(4, .int y12), (0, .ref 171), (1, .int v1), (2, .int v2), (3, .int v3)], [.ref 171], 0, 0) 79 2 (fun _ => rfl) h) ?_
          have q14 : (pj_fi G 171 30).toInt = y1.toInt := by rw [show pj_fi G 171 30 = y1 from hy1.symm]
          have q15 : (pj_fi G 171 1).toInt = y2.toInt := by rw [show pj_fi G 171 1 = y2 from hy2.symm]
          have q16 : (pj_fi G 171 39).toInt = y3.toInt := by rw [show pj_fi G 171 39 = y3 from hy3.symm]
          have q17 : (pj_fi G 171 17).toInt = y4.toInt := by rw [show pj_fi G 171 17 = y4 from hy4.symm]
          have q18 : (pj_fi G 171 18).toInt = y5.toInt := by rw [show pj_fi G 171 18 = y5 from hy5.symm]
          refine pj_X_ca (vs := [.ref 171]) rfl (fun _ => rfl) ⟨Nat.le_of_ble_eq_true rfl, Nat.le_of_ble_eq_true rfl, pj_T_rcv hI rfl⟩ ⟨rfl, rfl⟩ (pj_Y_up (by decide) (ct_214x G hI (by omega))) ?_
          rintro _ G20 ⟨rfl, iG20, jG20, fy19⟩
          have kG20 : pj_kpt kc_231 G0 G20 := pj_kpt_t hK (pj_kpt_s jG20 rfl)
          have q21 : (pj_fi G20 171 30).toInt = (pj_fi G 171 30).toInt := by rw [jG20.1 (171, 30) (by decide)]
          have q22 : (pj_fi G20 171 1).toInt = (pj_fi G 171 1).toInt := by rw [jG20.1 (171, 1) (by decide)]
          have q23 : (pj_fi G20 171 39).toInt = (pj_fi G 171 39).toInt := by rw [jG20.1 (171, 39) (by decide)]
          have q24 : (pj_fi G20 171 17).toInt = (pj_fi G 171 17).toInt := by rw [jG20.1 (171, 17) (by decide)]
          have q25 : (pj_fi G20 171 18).toInt = (pj_fi G 171 18).toInt := by rw [jG20.1 (171, 18) (by decide)]
          obtain ⟨y26, hy26⟩ : ∃ z : Int32, z = pj_fi G20 171 30 := ⟨_, rfl⟩
          have ey26 : (pj_fi G20 171 30).toInt = y26.toInt := by rw [hy26]
          have ry26 : (0 : Int) ≤ y26.toInt ∧ y26.toInt ≤ 16 := by rw [hy26]; exact iG20.2.1 171 30 (0, 16) rfl
          obtain ⟨y27, hy27⟩ : ∃ z : Int32, z = pj_fi G20 171 1 := ⟨_, rfl⟩
          have ey27 : (pj_fi G20 171 1).toInt = y27.toInt := by rw [hy27]
          have ry27 : (0 : Int) ≤ y27.toInt ∧ y27.toInt ≤ 24 := by rw [hy27]; exact iG20.2.1 171 1 (0, 24) rfl
          obtain ⟨y28, hy28⟩ : ∃ z : Int32, z = pj_fi G20 171 39 := ⟨_, rfl⟩
          have ey28 : (pj_fi G20 171 39).toInt = y28.toInt := by rw [hy28]
          have ry28 : (0 : Int) ≤ y28.toInt ∧ y28.toInt ≤ 60 := by rw [hy28]; exact iG20.2.1 171 39 (0, 60) rfl
          obtain ⟨y29, hy29⟩ : ∃ z : Int32, z = pj_fi G20 171 17 := ⟨_, rfl⟩
          have ey29 : (pj_fi G20 171 17).toInt = y29.toInt := by rw [hy29]
          have ry29 : (0 : Int) ≤ y29.toInt ∧ y29.toInt ≤ 80 := by rw [hy29]; exact iG20.2.1 171 17 (0, 80) rfl
          obtain ⟨y30, hy30⟩ : ∃ z : Int32, z = pj_fi G20 171 18 := ⟨_, rfl⟩
          have ey30 : (pj_fi G20 171 18).toInt = y30.toInt := by rw [hy30]
          have ry30 : (0 : Int) ≤ y30.toInt ∧ y30.toInt ≤ 80 := by rw [hy30]; exact iG20.2.1 171 18 (0, 80) rfl
          show pj_X _ _ G20 82 [(4, .int y12), (0, .ref 171), (1, .int v1), (2, .int v2), (3, .int v3)] [] _
          refine pj_X_of (fun r h => pj_R_to (G20, 83, [(4, .int y12), (0, .ref 171), (1, .int v1), (2, .int v2), (3, .int v3)], [.ref 171], 0, 0) 83 2 (fun _ => rfl) h) ?_
          have q31 : (pj_fi G20 171 30).toInt = y26.toInt := by rw [show pj_fi G20 171 30 = y26 from hy26.symm]
          have q32 : (pj_fi G20 171 1).toInt = y27.toInt := by rw [show pj_fi G20 171 1 = y27 from hy27.symm]
          have q33 : (pj_fi G20 171 39).toInt = y28.toInt := by rw [show pj_fi G20 171 39 = y28 from hy28.symm]
          have q34 : (pj_fi G20 171 17).toInt = y29.toInt := by rw [show pj_fi G20 171 17 = y29 from hy29.symm]
          have q35 : (pj_fi G20 171 18).toInt = y30.toInt := by rw [show pj_fi G20 171 18 = y30 from hy30.symm]
          refine pj_X_ca (vs := [.ref 171]) rfl (fun _ => rfl) ⟨Nat.le_of_ble_eq_true rfl, Nat.le_of_ble_eq_true rfl, pj_T_rcv iG20 rfl⟩ ⟨rfl, rfl⟩ (pj_Y_up (by decide) (ct_223x G20 iG20)) ?_
          rintro _ G37 ⟨rfl, iG37, jG37, fy36⟩
          have kG37 : pj_kpt kc_231 G0 G37 := pj_kpt_t kG20 (pj_kpt_s jG37 rfl)
          have q38 : (pj_fi G37 171 30).toInt = (pj_fi G20 171 30).toInt := by rw [jG37.1 (171, 30) (by decide)]
          have q39 : (pj_fi G37 171 1).toInt = (pj_fi G20 171 1).toInt := by rw [jG37.1 (171, 1) (by decide)]
          have q40 : (pj_fi G37 171 39).toInt = (pj_fi G20 171 39).toInt := by rw [jG37.1 (171, 39) (by decide)]
          have q41 : (pj_fi G37 171 17).toInt = (pj_fi G20 171 17).toInt := by rw [jG37.1 (171, 17) (by decide)]
          have q42 : (pj_fi G37 171 18).toInt = (pj_fi G20 171 18).toInt := by rw [jG37.1 (171, 18) (by decide)]
          obtain ⟨y43, hy43⟩ : ∃ z : Int32, z = pj_fi G37 171 30 := ⟨_, rfl⟩
          have ey43 : (pj_fi G37 171 30).toInt = y43.toInt := by rw [hy43]
          have ry43 : (0 : Int) ≤ y43.toInt ∧ y43.toInt ≤ 16 := by rw [hy43]; exact iG37.2.1 171 30 (0, 16) rfl
          obtain ⟨y44, hy44⟩ : ∃ z : Int32, z = pj_fi G37 171 1 := ⟨_, rfl⟩
          have ey44 : (pj_fi G37 171 1).toInt = y44.toInt := by rw [hy44]
          have ry44 : (0 : Int) ≤ y44.toInt ∧ y44.toInt ≤ 24 := by rw [hy44]; exact iG37.2.1 171 1 (0, 24) rfl
          obtain ⟨y45, hy45⟩ : ∃ z : Int32, z = pj_fi G37 171 39 := ⟨_, rfl⟩
          have ey45 : (pj_fi G37 171 39).toInt = y45.toInt := by rw [hy45]
          have ry45 : (0 : Int) ≤ y45.toInt ∧ y45.toInt ≤ 60 := by rw [hy45]; exact iG37.2.1 171 39 (0, 60) rfl
          obtain ⟨y46, hy46⟩ : ∃ z : Int32, z = pj_fi G37 171 17 := ⟨_, rfl⟩
          have ey46 : (pj_fi G37 171 17).toInt = y46.toInt := by rw [hy46]
          have ry46 : (0 : Int) ≤ y46.toInt ∧ y46.toInt ≤ 80 := by rw [hy46]; exact iG37.2.1 171 17 (0, 80) rfl
          obtain ⟨y47, hy47⟩ : ∃ z : Int32, z = pj_fi G37 171 18 := ⟨_, rfl⟩
          have ey47 : (pj_fi G37 171 18).toInt = y47.toInt := by rw [hy47]
          have ry47 : (0 : Int) ≤ y47.toInt ∧ y47.toInt ≤ 80 := by rw [hy47]; exact iG37.2.1 171 18 (0, 80) rfl
          show pj_X _ _ G37 86 [(4, .int y12), (0, .ref 171), (1, .int v1), (2, .int v2), (3, .int v3)] [] _
          refine pj_X_of (fun r h => pj_R_to (G37, 89, [(5, .int (Int32.ofInt 0)), (4, .int y12), (0, .ref 171), (1, .int v1), (2, .int v2), (3, .int v3)], [], 0, 0) 89 3 (fun _ => rfl) h) ?_
          have q48 : (pj_fi G37 171 30).toInt = y43.toInt := by rw [show pj_fi G37 171 30 = y43 from hy43.symm]
          have q49 : (pj_fi G37 171 1).toInt = y44.toInt := by rw [show pj_fi G37 171 1 = y44 from hy44.symm]
          have q50 : (pj_fi G37 171 39).toInt = y45.toInt := by rw [show pj_fi G37 171 39 = y45 from hy45.symm]
          have q51 : (pj_fi G37 171 17).toInt = y46.toInt := by rw [show pj_fi G37 171 17 = y46 from hy46.symm]
          have q52 : (pj_fi G37 171 18).toInt = y47.toInt := by rw [show pj_fi G37 171 18 = y47 from hy47.symm]
          exact pj_X_sub [(0, .ref 171), (1, .int v1), (2, .int v2), (3, .int v3), (4, .int y12), (5, .int (Int32.ofInt 0))] (show List.Nodup [0, 1, 2, 3, 4, 5] by decide) ⟨rfl, rfl, rfl, rfl, rfl, rfl, trivial⟩ (ih.2 G37 iG37 kG37 v1 v2 v3 y12 (Int32.ofInt 0) (pj_i32 _) (pj_i32 _) (pj_i32 _) (pj_i32 _) ⟨by omega, by omega⟩ (by omega) (by omega))
        | false =>
          have ub13 := pj_u0_geF b13
          refine pj_X_of (fun r h => pj_R_ifF rfl b13 h) ?_
          refine pj_X_of (fun r h => pj_R_to (G, 77, [(4, .int y12), (0, .ref 171), (1, .int v1), (2, .int v2), (3, .int v3)], [.int y12], 0, 0) 77 2 (fun _ => rfl) h) ?_
          have q53 : (pj_fi G 171 30).toInt = y1.toInt := by rw [show pj_fi G 171 30 = y1 from hy1.symm]
          have q54 : (pj_fi G 171 1).toInt = y2.toInt := by rw [show pj_fi G 171 1 = y2 from hy2.symm]
          have q55 : (pj_fi G 171 39).toInt = y3.toInt := by rw [show pj_fi G 171 39 = y3 from hy3.symm]
          have q56 : (pj_fi G 171 17).toInt = y4.toInt := by rw [show pj_fi G 171 17 = y4 from hy4.symm]
          have q57 : (pj_fi G 171 18).toInt = y5.toInt := by rw [show pj_fi G 171 18 = y5 from hy5.symm]
          exact pj_X_rt rfl rfl ⟨_, rfl, hI, hK, pj_i32 _, by omega⟩
      | false =>
        have ub6 := pj_u0_eqF b6
        refine pj_X_of (fun r h => pj_R_ifF rfl b6 h) ?_
        refine pj_X_of (fun r h => pj_R_to (G, 34, [(0, .ref 171), (1, .int v1), (2, .int v2), (3, .int v3)], [.ref 171], 0, 0) 34 2 (fun _ => rfl) h) ?_
        have q58 : (pj_fi G 171 30).toInt = y1.toInt := by rw [show pj_fi G 171 30 = y1 from hy1.symm]
        have q59 : (pj_fi G 171 1).toInt = y2.toInt := by rw [show pj_fi G 171 1 = y2 from hy2.symm]
        have q60 : (pj_fi G 171 39).toInt = y3.toInt := by rw [show pj_fi G 171 39 = y3 from hy3.symm]
        have q61 : (pj_fi G 171 17).toInt = y4.toInt := by rw [show pj_fi G 171 17 = y4 from hy4.symm]
        have q62 : (pj_fi G 171 18).toInt = y5.toInt := by rw [show pj_fi G 171 18 = y5 from hy5.symm]
        refine pj_X_ca (vs := [.ref 171]) rfl (fun _ => rfl) ⟨Nat.le_of_ble_eq_true rfl, Nat.le_of_ble_eq_true rfl, pj_T_rcv hI rfl⟩ ⟨rfl, rfl⟩ (pj_Y_up (by decide) (ct_229 G hI (by omega))) ?_
        rintro _ G64 ⟨y63, rfl, iG64, jG64, ry63, ey63⟩
        have kG64 : pj_kpt kc_231 G0 G64 := pj_kpt_t hK (pj_kpt_s jG64 rfl)
        have q65 : (pj_fi G64 171 30).toInt = (pj_fi G 171 30).toInt := by rw [jG64.1 (171, 30) (by decide)]
        have q66 : (pj_fi G64 171 1).toInt = (pj_fi G 171 1).toInt := by rw [jG64.1 (171, 1) (by decide)]
        have q67 : (pj_fi G64 171 18).toInt = (pj_fi G 171 18).toInt := by rw [jG64.1 (171, 18) (by decide)]
        obtain ⟨y68, hy68⟩ : ∃ z : Int32, z = pj_fi G64 171 30 := ⟨_, rfl⟩
        have ey68 : (pj_fi G64 171 30).toInt = y68.toInt := by rw [hy68]
        have ry68 : (0 : Int) ≤ y68.toInt ∧ y68.toInt ≤ 16 := by rw [hy68]; exact iG64.2.1 171 30 (0, 16) rfl
        obtain ⟨y69, hy69⟩ : ∃ z : Int32, z = pj_fi G64 171 1 := ⟨_, rfl⟩
        have ey69 : (pj_fi G64 171 1).toInt = y69.toInt := by rw [hy69]
        have ry69 : (0 : Int) ≤ y69.toInt ∧ y69.toInt ≤ 24 := by rw [hy69]; exact iG64.2.1 171 1 (0, 24) rfl
        obtain ⟨y70, hy70⟩ : ∃ z : Int32, z = pj_fi G64 171 39 := ⟨_, rfl⟩
        have ey70 : (pj_fi G64 171 39).toInt = y70.toInt := by rw [hy70]
        have ry70 : (0 : Int) ≤ y70.toInt ∧ y70.toInt ≤ 60 := by rw [hy70]; exact iG64.2.1 171 39 (0, 60) rfl
        obtain ⟨y71, hy71⟩ : ∃ z : Int32, z = pj_fi G64 171 17 := ⟨_, rfl⟩
        have ey71 : (pj_fi G64 171 17).toInt = y71.toInt := by rw [hy71]
        have ry71 : (0 : Int) ≤ y71.toInt ∧ y71.toInt ≤ 80 := by rw [hy71]; exact iG64.2.1 171 17 (0, 80) rfl
        obtain ⟨y72, hy72⟩ : ∃ z : Int32, z = pj_fi G64 171 18 := ⟨_, rfl⟩
        have ey72 : (pj_fi G64 171 18).toInt = y72.toInt := by rw [hy72]
        have ry72 : (0 : Int) ≤ y72.toInt ∧ y72.toInt ≤ 80 := by rw [hy72]; exact iG64.2.1 171 18 (0, 80) rfl
        show pj_X _ _ G64 37 [(0, .ref 171), (1, .int v1), (2, .int v2), (3, .int v3)] [.int y63] _
        refine pj_X_of (fun r h => pj_R_to (G64, 39, [(2, .int y63), (0, .ref 171), (1, .int v1), (3, .int v3)], [.int y63], 0, 0) 39 3 (fun _ => rfl) h) ?_
        cases b73 : pj_c1 .eq y63 0 with
        | true =>
          have ub73 := pj_u0_eqT b73
          refine pj_X_of (fun r h => pj_R_ifT 55 rfl rfl b73 h) ?_
          refine pj_X_of (fun r h => pj_R_to (G64, 29, [(3, .int (Int32.ofInt 0)), (2, .int y63), (0, .ref 171), (1, .int v1)], [], 0, 0) 29 4 (fun _ => rfl) h) ?_
          have q74 : (pj_fi G64 171 30).toInt = y68.toInt := by rw [show pj_fi G64 171 30 = y68 from hy68.symm]
          have q75 : (pj_fi G64 171 1).toInt = y69.toInt := by rw [show pj_fi G64 171 1 = y69 from hy69.symm]
          have q76 : (pj_fi G64 171 39).toInt = y70.toInt := by rw [show pj_fi G64 171 39 = y70 from hy70.symm]
          have q77 : (pj_fi G64 171 17).toInt = y71.toInt := by rw [show pj_fi G64 171 17 = y71 from hy71.symm]
          have q78 : (pj_fi G64 171 18).toInt = y72.toInt := by rw [show pj_fi G64 171 18 = y72 from hy72.symm]
          exact pj_X_sub [(0, .ref 171), (1, .int v1), (2, .int y63), (3, .int (Int32.ofInt 0))] (show List.Nodup [0, 1, 2, 3] by decide) ⟨rfl, rfl, rfl, rfl, trivial⟩ (ih.1 G64 iG64 kG64 v1 y63 (Int32.ofInt 0) ⟨by omega, by omega⟩ ⟨by omega, by omega⟩ ⟨by omega, by omega⟩ (by omega) (by omega) (by omega) (by omega) (by omega))
        | false =>
          have ub73 := pj_u0_eqF b73
          refine pj_X_of (fun r h => pj_R_ifF rfl b73 h) ?_
          refine pj_X_of (fun r h => pj_R_to (G64, 45, [(2, .int y63), (0, .ref 171), (1, .int v1), (3, .int v3)], [.int ((Int8.ofInt 59).toInt32), .ref 171], 0, 0) 45 3 (fun _ => rfl) h) ?_
          have q79 : (pj_fi G64 171 30).toInt = y68.toInt := by rw [show pj_fi G64 171 30 = y68 from hy68.symm]
          have q80 : (pj_fi G64 171 1).toInt = y69.toInt := by rw [show pj_fi G64 171 1 = y69 from hy69.symm]
          have q81 : (pj_fi G64 171 39).toInt = y70.toInt := by rw [show pj_fi G64 171 39 = y70 from hy70.symm]
          have q82 : (pj_fi G64 171 17).toInt = y71.toInt := by rw [show pj_fi G64 171 17 = y71 from hy71.symm]
          have q83 : (pj_fi G64 171 18).toInt = y72.toInt := by rw [show pj_fi G64 171 18 = y72 from hy72.symm]
          refine pj_X_ca (vs := [.ref 171, .int ((Int8.ofInt 59).toInt32)]) rfl (fun _ => rfl) ⟨Nat.le_of_ble_eq_true rfl, Nat.le_of_ble_eq_true rfl, pj_T_rcv iG64 rfl⟩ ⟨rfl, rfl⟩ (pj_Y_up (by decide) (ct_182 G64 iG64 ((Int8.ofInt 59).toInt32) ⟨by omega, by omega⟩)) ?_
          rintro _ G85 ⟨y84, rfl, iG85, jG85, ry84, ey84⟩
          have kG85 : pj_kpt kc_231 G0 G85 := pj_kpt_t kG64 (pj_kpt_s jG85 rfl)
          have q86 : (pj_fi G85 171 30).toInt = (pj_fi G64 171 30).toInt := by rw [jG85.1 (171, 30) (by decide)]
          have q87 : (pj_fi G85 171 1).toInt = (pj_fi G64 171 1).toInt := by rw [jG85.1 (171, 1) (by decide)]
          have q88 : (pj_fi G85 171 39).toInt = (pj_fi G64 171 39).toInt := by rw [jG85.1 (171, 39) (by decide)]
          have q89 : (pj_fi G85 171 18).toInt = (pj_fi G64 171 18).toInt := by rw [jG85.1 (171, 18) (by decide)]
          obtain ⟨y90, hy90⟩ : ∃ z : Int32, z = pj_fi G85 171 30 := ⟨_, rfl⟩
          have ey90 : (pj_fi G85 171 30).toInt = y90.toInt := by rw [hy90]
          have ry90 : (0 : Int) ≤ y90.toInt ∧ y90.toInt ≤ 16 := by rw [hy90]; exact iG85.2.1 171 30 (0, 16) rfl
          obtain ⟨y91, hy91⟩ : ∃ z : Int32, z = pj_fi G85 171 1 := ⟨_, rfl⟩
          have ey91 : (pj_fi G85 171 1).toInt = y91.toInt := by rw [hy91]
          have ry91 : (0 : Int) ≤ y91.toInt ∧ y91.toInt ≤ 24 := by rw [hy91]; exact iG85.2.1 171 1 (0, 24) rfl
          obtain ⟨y92, hy92⟩ : ∃ z : Int32, z = pj_fi G85 171 39 := ⟨_, rfl⟩
          have ey92 : (pj_fi G85 171 39).toInt = y92.toInt := by rw [hy92]
          have ry92 : (0 : Int) ≤ y92.toInt ∧ y92.toInt ≤ 60 := by rw [hy92]; exact iG85.2.1 171 39 (0, 60) rfl
          obtain ⟨y93, hy93⟩ : ∃ z : Int32, z = pj_fi G85 171 17 := ⟨_, rfl⟩
          have ey93 : (pj_fi G85 171 17).toInt = y93.toInt := by rw [hy93]
          have ry93 : (0 : Int) ≤ y93.toInt ∧ y93.toInt ≤ 80 := by rw [hy93]; exact iG85.2.1 171 17 (0, 80) rfl
          obtain ⟨y94, hy94⟩ : ∃ z : Int32, z = pj_fi G85 171 18 := ⟨_, rfl⟩
          have ey94 : (pj_fi G85 171 18).toInt = y94.toInt := by rw [hy94]
          have ry94 : (0 : Int) ≤ y94.toInt ∧ y94.toInt ≤ 80 := by rw [hy94]; exact iG85.2.1 171 18 (0, 80) rfl
          show pj_X _ _ G85 48 [(2, .int y63), (0, .ref 171), (1, .int v1), (3, .int v3)] [.int y84] _
          cases b95 : pj_c1 .eq y84 0 with
          | true =>
            have ub95 := pj_u0_eqT b95
            refine pj_X_of (fun r h => pj_R_ifT 55 rfl rfl b95 h) ?_
            refine pj_X_of (fun r h => pj_R_to (G85, 29, [(3, .int (Int32.ofInt 0)), (2, .int y63), (0, .ref 171), (1, .int v1)], [], 0, 0) 29 4 (fun _ => rfl) h) ?_
            have q96 : (pj_fi G85 171 30).toInt = y90.toInt := by rw [show pj_fi G85 171 30 = y90 from hy90.symm]
            have q97 : (pj_fi G85 171 1).toInt = y91.toInt := by rw [show pj_fi G85 171 1 = y91 from hy91.symm]
            have q98 : (pj_fi G85 171 39).toInt = y92.toInt := by rw [show pj_fi G85 171 39 = y92 from hy92.symm]
            have q99 : (pj_fi G85 171 17).toInt = y93.toInt := by rw [show pj_fi G85 171 17 = y93 from hy93.symm]
            have q100 : (pj_fi G85 171 18).toInt = y94.toInt := by rw [show pj_fi G85 171 18 = y94 from hy94.symm]
            exact pj_X_sub [(0, .ref 171), (1, .int v1), (2, .int y63), (3, .int (Int32.ofInt 0))] (show List.Nodup [0, 1, 2, 3] by decide) ⟨rfl, rfl, rfl, rfl, trivial⟩ (ih.1 G85 iG85 kG85 v1 y63 (Int32.ofInt 0) ⟨by omega, by omega⟩ ⟨by omega, by omega⟩ ⟨by omega, by omega⟩ (by omega) (by omega) (by omega) (by omega) (by omega))
          | false =>
            have ub95 := pj_u0_eqF b95
            refine pj_X_of (fun r h => pj_R_ifF rfl b95 h) ?_
            refine pj_X_of (fun r h => pj_R_to (G85, 29, [(3, .int (Int32.ofInt 1)), (2, .int y63), (0, .ref 171), (1, .int v1)], [], 0, 0) 29 5 (fun _ => rfl) h) ?_
            have q101 : (pj_fi G85 171 30).toInt = y90.toInt := by rw [show pj_fi G85 171 30 = y90 from hy90.symm]
            have q102 : (pj_fi G85 171 1).toInt = y91.toInt := by rw [show pj_fi G85 171 1 = y91 from hy91.symm]
            have q103 : (pj_fi G85 171 39).toInt = y92.toInt := by rw [show pj_fi G85 171 39 = y92 from hy92.symm]
            have q104 : (pj_fi G85 171 17).toInt = y93.toInt := by rw [show pj_fi G85 171 17 = y93 from hy93.symm]
            have q105 : (pj_fi G85 171 18).toInt = y94.toInt := by rw [show pj_fi G85 171 18 = y94 from hy94.symm]
            exact pj_X_sub [(0, .ref 171), (1, .int v1), (2, .int y63), (3, .int (Int32.ofInt 1))] (show List.Nodup [0, 1, 2, 3] by decide) ⟨rfl, rfl, rfl, rfl, trivial⟩ (ih.1 G85 iG85 kG85 v1 y63 (Int32.ofInt 1) ⟨by omega, by omega⟩ ⟨by omega, by omega⟩ ⟨by omega, by omega⟩ (by omega) (by omega) (by omega) (by omega) (by omega))
    · intro G hI hK v1 v2 v3 v4 v5 rv1 rv2 rv3 rv4 rv5 x0_ hm
      obtain ⟨y106, hy106⟩ : ∃ z : Int32, z = pj_fi G 171 30 := ⟨_, rfl⟩
      have ey106 : (pj_fi G 171 30).toInt = y106.toInt := by rw [hy106]
      have ry106 : (0 : Int) ≤ y106.toInt ∧ y106.toInt ≤ 16 := by rw [hy106]; exact hI.2.1 171 30 (0, 16) rfl
      obtain ⟨y107, hy107⟩ : ∃ z : Int32, z = pj_fi G 171 1 := ⟨_, rfl⟩
      have ey107 : (pj_fi G 171 1).toInt = y107.toInt := by rw [hy107]
      have ry107 : (0 : Int) ≤ y107.toInt ∧ y107.toInt ≤ 24 := by rw [hy107]; exact hI.2.1 171 1 (0, 24) rfl
      obtain ⟨y108, hy108⟩ : ∃ z : Int32, z = pj_fi G 171 39 := ⟨_, rfl⟩
      have ey108 : (pj_fi G 171 39).toInt = y108.toInt := by rw [hy108]
      have ry108 : (0 : Int) ≤ y108.toInt ∧ y108.toInt ≤ 60 := by rw [hy108]; exact hI.2.1 171 39 (0, 60) rfl
      obtain ⟨y109, hy109⟩ : ∃ z : Int32, z = pj_fi G 171 17 := ⟨_, rfl⟩
      have ey109 : (pj_fi G 171 17).toInt = y109.toInt := by rw [hy109]
      have ry109 : (0 : Int) ≤ y109.toInt ∧ y109.toInt ≤ 80 := by rw [hy109]; exact hI.2.1 171 17 (0, 80) rfl
      obtain ⟨y110, hy110⟩ : ∃ z : Int32, z = pj_fi G 171 18 := ⟨_, rfl⟩
      have ey110 : (pj_fi G 171 18).toInt = y110.toInt := by rw [hy110]
      have ry110 : (0 : Int) ≤ y110.toInt ∧ y110.toInt ≤ 80 := by rw [hy110]; exact hI.2.1 171 18 (0, 80) rfl
      refine pj_X_of (fun r h => pj_R_to (G, 92, [(0, .ref 171), (1, .int v1), (2, .int v2), (3, .int v3), (4, .int v4), (5, .int v5)], [.ref 171, .int v5], 0, 0) 92 3 (fun _ => rfl) h) ?_
      refine pj_X_of (fun r h => pj_T_gi hI rfl rfl h) ?_
      show pj_X _ _ G 95 [(0, .ref 171), (1, .int v1), (2, .int v2), (3, .int v3), (4, .int v4), (5, .int v5)] [.int (pj_fi G 171 39), .int v5] _
      refine pj_X_eqi (show pj_fi G 171 39 = y108 from hy108.symm) ?_
      cases b111 : pj_c1 .ge v5 y108 with
      | true =>
        have ub111 := pj_u_geT b111
        refine pj_X_of (fun r h => pj_R_icT 113 rfl rfl b111 h) ?_
        refine pj_X_of (fun r h => pj_R_to (G, 115, [(0, .ref 171), (1, .int v1), (2, .int v2), (3, .int v3), (4, .int v4), (5, .int v5)], [.int (Int32.ofInt 0), .ref 171], 0, 0) 115 3 (fun _ => rfl) h) ?_
        refine pj_X_of (fun r h => pj_T_pf hI rfl rfl rfl h) ?_
        show pj_X _ _ (pj_wv G 171 1 (.int (Int32.ofInt 0))) 118 [(0, .ref 171), (1, .int v1), (2, .int v2), (3, .int v3), (4, .int v4), (5, .int v5)] [] _
        obtain ⟨G112, hG112⟩ : ∃ H, H = pj_wv G 171 1 (.int (Int32.ofInt 0)) := ⟨_, rfl⟩
        have iG112 : pj_Inv G112 := by rw [hG112]; exact pj_Inv_wi hI (ci := 12) rfl (fun q hq => by cases hq; exact ⟨by show (0 : Int) ≤ _; omega, by show _ ≤ (24 : Int); omega⟩)
        have kG112 : pj_kpt kc_231 G0 G112 := by rw [hG112]; exact pj_kpt_v hK rfl
        rw [← hG112]
        refine pj_X_of (fun r h => pj_R_to (G112, 122, [(0, .ref 171), (1, .int v1), (2, .int v2), (3, .int v3), (4, .int v4), (5, .int v5)], [.ref 171, .int v5, .ref 171], 0, 0) 122 4 (fun _ => rfl) h) ?_
        refine pj_X_of (fun r h => pj_T_gi iG112 rfl rfl h) ?_
        show pj_X _ _ G112 125 [(0, .ref 171), (1, .int v1), (2, .int v2), (3, .int v3), (4, .int v4), (5, .int v5)] [.int (pj_fi G112 171 39), .int v5, .ref 171] _
        refine pj_X_eqi (show pj_fi G112 171 39 = y108 from by rw [hG112, pj_fi_wv_ne _ _ _ _ _ _ (by decide)]; exact hy108.symm) ?_
        cases b113 : pj_c1 .ge v5 y108 with
        | true =>
          have ub113 := pj_u_geT b113
          refine pj_X_of (fun r h => pj_R_icT 132 rfl rfl b113 h) ?_
          refine pj_X_of (fun r h => pj_R_to (G112, 133, [(0, .ref 171), (1, .int v1), (2, .int v2), (3, .int v3), (4, .int v4), (5, .int v5)], [.int (Int32.ofInt 0), .ref 171], 0, 0) 133 2 (fun _ => rfl) h) ?_
          have q114 : (pj_fi G112 171 30).toInt = y106.toInt := by rw [show pj_fi G112 171 30 = y106 from by rw [hG112, pj_fi_wv_ne _ _ _ _ _ _ (by decide)]; exact hy106.symm]
          have q115 : (pj_fi G112 171 1).toInt = (Int32.ofInt 0).toInt := by rw [show pj_fi G112 171 1 = Int32.ofInt 0 from by rw [hG112]; exact pj_fi_wi hI.1 (ci := 12) rfl _]
          have q116 : (pj_fi G112 171 39).toInt = y108.toInt := by rw [show pj_fi G112 171 39 = y108 from by rw [hG112, pj_fi_wv_ne _ _ _ _ _ _ (by decide)]; exact hy108.symm]
          have q117 : (pj_fi G112 171 17).toInt = y109.toInt := by rw [show pj_fi G112 171 17 = y109 from by rw [hG112, pj_fi_wv_ne _ _ _ _ _ _ (by decide)]; exact hy109.symm]
          have q118 : (pj_fi G112 171 18).toInt = y110.toInt := by rw [show pj_fi G112 171 18 = y110 from by rw [hG112, pj_fi_wv_ne _ _ _ _ _ _ (by decide)]; exact hy110.symm]
          refine pj_X_ca (vs := [.int (Int32.ofInt 0)]) rfl (fun _ => rfl) ⟨Nat.le_of_ble_eq_true rfl, Nat.le_of_ble_eq_true rfl, rfl⟩ ⟨rfl, rfl⟩ (pj_Y_up (by decide) (ct_172x G112 iG112 (Int32.ofInt 0) ⟨by omega, by omega⟩)) ?_
          rintro _ _ ⟨y119, rfl, rfl, ry119, ey119, fy119⟩
          show pj_X _ _ G112 136 [(0, .ref 171), (1, .int v1), (2, .int v2), (3, .int v3), (4, .int v4), (5, .int v5)] [.int y119, .ref 171] _
          refine pj_X_of (fun r h => pj_R_to (G112, 137, [(0, .ref 171), (1, .int v1), (2, .int v2), (3, .int v3), (4, .int v4), (5, .int v5)], [.long y119.toInt64, .ref 171], 0, 0) 137 2 (fun _ => rfl) h) ?_
          have q120 : (pj_fi G112 171 30).toInt = y106.toInt := by rw [show pj_fi G112 171 30 = y106 from by rw [hG112, pj_fi_wv_ne _ _ _ _ _ _ (by decide)]; exact hy106.symm]
          have q121 : (pj_fi G112 171 1).toInt = (Int32.ofInt 0).toInt := by rw [show pj_fi G112 171 1 = Int32.ofInt 0 from by rw [hG112]; exact pj_fi_wi hI.1 (ci := 12) rfl _]
          have q122 : (pj_fi G112 171 39).toInt = y108.toInt := by rw [show pj_fi G112 171 39 = y108 from by rw [hG112, pj_fi_wv_ne _ _ _ _ _ _ (by decide)]; exact hy108.symm]
          have q123 : (pj_fi G112 171 17).toInt = y109.toInt := by rw [show pj_fi G112 171 17 = y109 from by rw [hG112, pj_fi_wv_ne _ _ _ _ _ _ (by decide)]; exact hy109.symm]
          have q124 : (pj_fi G112 171 18).toInt = y110.toInt := by rw [show pj_fi G112 171 18 = y110 from by rw [hG112, pj_fi_wv_ne _ _ _ _ _ _ (by decide)]; exact hy110.symm]
          have lc125 : (y119.toInt64).toInt = y119.toInt := Int32.toInt_toInt64 _
          refine pj_X_ca (vs := [.ref 171, .long y119.toInt64]) rfl (fun _ => rfl) ⟨Nat.le_of_ble_eq_true rfl, Nat.le_of_ble_eq_true rfl, pj_T_rcv iG112 rfl⟩ ⟨rfl, rfl⟩ (pj_Y_up (by decide) (ct_174x G112 iG112 y119.toInt64 (by omega))) ?_
          rintro _ G127 ⟨rfl, iG127, jG127, eG127, fy126⟩
          replace eG127 := eG127 _ rfl
          have kG127 : pj_kpt kc_231 G0 G127 := pj_kpt_t kG112 (pj_kpt_s jG127 rfl)
          have q128 : (pj_fi G127 171 30).toInt = (pj_fi G112 171 30).toInt := by rw [jG127.1 (171, 30) (by decide)]
          have q129 : (pj_fi G127 171 39).toInt = (pj_fi G112 171 39).toInt := by rw [jG127.1 (171, 39) (by decide)]
          have q130 : (pj_fi G127 171 17).toInt = (pj_fi G112 171 17).toInt := by rw [jG127.1 (171, 17) (by decide)]
          have q131 : (pj_fi G127 171 18).toInt = (pj_fi G112 171 18).toInt := by rw [jG127.1 (171, 18) (by decide)]
          obtain ⟨y132, hy132⟩ : ∃ z : Int32, z = pj_fi G127 171 30 := ⟨_, rfl⟩
          have ey132 : (pj_fi G127 171 30).toInt = y132.toInt := by rw [hy132]
          have ry132 : (0 : Int) ≤ y132.toInt ∧ y132.toInt ≤ 16 := by rw [hy132]; exact iG127.2.1 171 30 (0, 16) rfl
          obtain ⟨y133, hy133⟩ : ∃ z : Int32, z = pj_fi G127 171 1 := ⟨_, rfl⟩
          have ey133 : (pj_fi G127 171 1).toInt = y133.toInt := by rw [hy133]
          have ry133 : (0 : Int) ≤ y133.toInt ∧ y133.toInt ≤ 24 := by rw [hy133]; exact iG127.2.1 171 1 (0, 24) rfl
          obtain ⟨y134, hy134⟩ : ∃ z : Int32, z = pj_fi G127 171 39 := ⟨_, rfl⟩
          have ey134 : (pj_fi G127 171 39).toInt = y134.toInt := by rw [hy134]
          have ry134 : (0 : Int) ≤ y134.toInt ∧ y134.toInt ≤ 60 := by rw [hy134]; exact iG127.2.1 171 39 (0, 60) rfl
          obtain ⟨y135, hy135⟩ : ∃ z : Int32, z = pj_fi G127 171 17 := ⟨_, rfl⟩
          have ey135 : (pj_fi G127 171 17).toInt = y135.toInt := by rw [hy135]
          have ry135 : (0 : Int) ≤ y135.toInt ∧ y135.toInt ≤ 80 := by rw [hy135]; exact iG127.2.1 171 17 (0, 80) rfl
          obtain ⟨y136, hy136⟩ : ∃ z : Int32, z = pj_fi G127 171 18 := ⟨_, rfl⟩
          have ey136 : (pj_fi G127 171 18).toInt = y136.toInt := by rw [hy136]
          have ry136 : (0 : Int) ≤ y136.toInt ∧ y136.toInt ≤ 80 := by rw [hy136]; exact iG127.2.1 171 18 (0, 80) rfl
          show pj_X _ _ G127 140 [(0, .ref 171), (1, .int v1), (2, .int v2), (3, .int v3), (4, .int v4), (5, .int v5)] [] _
          refine pj_X_of (fun r h => pj_R_to (G127, 142, [(0, .ref 171), (1, .int v1), (2, .int v2), (3, .int v3), (4, .int v4), (5, .int v5)], [.ref 171, .ref 171], 0, 0) 142 3 (fun _ => rfl) h) ?_
          refine pj_X_of (fun r h => pj_T_gi iG127 rfl rfl h) ?_
          show pj_X _ _ G127 145 [(0, .ref 171), (1, .int v1), (2, .int v2), (3, .int v3), (4, .int v4), (5, .int v5)] [.int (pj_fi G127 171 35), .ref 171] _
          obtain ⟨y137, hy137⟩ : ∃ z : Int32, z = pj_fi G127 171 35 := ⟨_, rfl⟩
          refine pj_X_eqi hy137.symm ?_
          have ey137 : (pj_fi G127 171 35).toInt = y137.toInt := by rw [hy137]
          refine pj_X_of (fun r h => pj_R_to (G127, 146, [(0, .ref 171), (1, .int v1), (2, .int v2), (3, .int v3), (4, .int v4), (5, .int v5)], [.long y137.toInt64, .ref 171], 0, 0) 146 2 (fun _ => rfl) h) ?_
          have q138 : (pj_fi G127 171 30).toInt = y132.toInt := by rw [show pj_fi G127 171 30 = y132 from hy132.symm]
          have q139 : (pj_fi G127 171 1).toInt = y133.toInt := by rw [show pj_fi G127 171 1 = y133 from hy133.symm]
          have q140 : (pj_fi G127 171 39).toInt = y134.toInt := by rw [show pj_fi G127 171 39 = y134 from hy134.symm]
          have q141 : (pj_fi G127 171 17).toInt = y135.toInt := by rw [show pj_fi G127 171 17 = y135 from hy135.symm]
          have q142 : (pj_fi G127 171 18).toInt = y136.toInt := by rw [show pj_fi G127 171 18 = y136 from hy136.symm]
          have lc143 : (y137.toInt64).toInt = y137.toInt := Int32.toInt_toInt64 _
          refine pj_X_ca (vs := [.ref 171, .long y137.toInt64]) rfl (fun _ => rfl) ⟨Nat.le_of_ble_eq_true rfl, Nat.le_of_ble_eq_true rfl, pj_T_rcv iG127 rfl⟩ ⟨rfl, rfl⟩ (pj_Y_up (by decide) (ct_174x G127 iG127 y137.toInt64 (by omega))) ?_
          rintro _ G145 ⟨rfl, iG145, jG145, eG145, fy144⟩
          replace eG145 := eG145 _ rfl
          have kG145 : pj_kpt kc_231 G0 G145 := pj_kpt_t kG127 (pj_kpt_s jG145 rfl)
          have q146 : (pj_fi G145 171 30).toInt = (pj_fi G127 171 30).toInt := by rw [jG145.1 (171, 30) (by decide)]
          have q147 : (pj_fi G145 171 39).toInt = (pj_fi G127 171 39).toInt := by rw [jG145.1 (171, 39) (by decide)]
          have q148 : (pj_fi G145 171 17).toInt = (pj_fi G127 171 17).toInt := by rw [jG145.1 (171, 17) (by decide)]
          have q149 : (pj_fi G145 171 18).toInt = (pj_fi G127 171 18).toInt := by rw [jG145.1 (171, 18) (by decide)]
          obtain ⟨y150, hy150⟩ : ∃ z : Int32, z = pj_fi G145 171 30 := ⟨_, rfl⟩
          have ey150 : (pj_fi G145 171 30).toInt = y150.toInt := by rw [hy150]
          have ry150 : (0 : Int) ≤ y150.toInt ∧ y150.toInt ≤ 16 := by rw [hy150]; exact iG145.2.1 171 30 (0, 16) rfl
          obtain ⟨y151, hy151⟩ : ∃ z : Int32, z = pj_fi G145 171 1 := ⟨_, rfl⟩
          have ey151 : (pj_fi G145 171 1).toInt = y151.toInt := by rw [hy151]
          have ry151 : (0 : Int) ≤ y151.toInt ∧ y151.toInt ≤ 24 := by rw [hy151]; exact iG145.2.1 171 1 (0, 24) rfl
          obtain ⟨y152, hy152⟩ : ∃ z : Int32, z = pj_fi G145 171 39 := ⟨_, rfl⟩
          have ey152 : (pj_fi G145 171 39).toInt = y152.toInt := by rw [hy152]
          have ry152 : (0 : Int) ≤ y152.toInt ∧ y152.toInt ≤ 60 := by rw [hy152]; exact iG145.2.1 171 39 (0, 60) rfl
          obtain ⟨y153, hy153⟩ : ∃ z : Int32, z = pj_fi G145 171 17 := ⟨_, rfl⟩
          have ey153 : (pj_fi G145 171 17).toInt = y153.toInt := by rw [hy153]
          have ry153 : (0 : Int) ≤ y153.toInt ∧ y153.toInt ≤ 80 := by rw [hy153]; exact iG145.2.1 171 17 (0, 80) rfl
          obtain ⟨y154, hy154⟩ : ∃ z : Int32, z = pj_fi G145 171 18 := ⟨_, rfl⟩
          have ey154 : (pj_fi G145 171 18).toInt = y154.toInt := by rw [hy154]
          have ry154 : (0 : Int) ≤ y154.toInt ∧ y154.toInt ≤ 80 := by rw [hy154]; exact iG145.2.1 171 18 (0, 80) rfl
          show pj_X _ _ G145 149 [(0, .ref 171), (1, .int v1), (2, .int v2), (3, .int v3), (4, .int v4), (5, .int v5)] [] _
          refine pj_X_of (fun r h => pj_R_to (G145, 151, [(0, .ref 171), (1, .int v1), (2, .int v2), (3, .int v3), (4, .int v4), (5, .int v5)], [.int v5], 0, 0) 151 2 (fun _ => rfl) h) ?_
          cases b155 : pj_c1 .le v5 0 with
          | true =>
            have ub155 := pj_u0_leT b155
            refine pj_X_of (fun r h => pj_R_ifT 163 rfl rfl b155 h) ?_
            refine pj_X_of (fun r h => pj_R_to (G145, 164, [(0, .ref 171), (1, .int v1), (2, .int v2), (3, .int v3), (4, .int v4), (5, .int v5)], [.int (Int32.ofInt 0)], 0, 0) 164 2 (fun _ => rfl) h) ?_
            have q156 : (pj_fi G145 171 30).toInt = y150.toInt := by rw [show pj_fi G145 171 30 = y150 from hy150.symm]
            have q157 : (pj_fi G145 171 1).toInt = y151.toInt := by rw [show pj_fi G145 171 1 = y151 from hy151.symm]
            have q158 : (pj_fi G145 171 39).toInt = y152.toInt := by rw [show pj_fi G145 171 39 = y152 from hy152.symm]
            have q159 : (pj_fi G145 171 17).toInt = y153.toInt := by rw [show pj_fi G145 171 17 = y153 from hy153.symm]
            have q160 : (pj_fi G145 171 18).toInt = y154.toInt := by rw [show pj_fi G145 171 18 = y154 from hy154.symm]
            exact pj_X_rt rfl rfl ⟨_, rfl, iG145, kG145, pj_i32 _, by omega⟩
          | false =>
            have ub155 := pj_u0_leF b155
            refine pj_X_of (fun r h => pj_R_ifF rfl b155 h) ?_
            refine pj_X_of (fun r h => pj_R_to (G145, 157, [(0, .ref 171), (1, .int v1), (2, .int v2), (3, .int v3), (4, .int v4), (5, .int v5)], [.int v5, .ref 171], 0, 0) 157 3 (fun _ => rfl) h) ?_
            have q161 : (pj_fi G145 171 30).toInt = y150.toInt := by rw [show pj_fi G145 171 30 = y150 from hy150.symm]
            have q162 : (pj_fi G145 171 1).toInt = y151.toInt := by rw [show pj_fi G145 171 1 = y151 from hy151.symm]
            have q163 : (pj_fi G145 171 39).toInt = y152.toInt := by rw [show pj_fi G145 171 39 = y152 from hy152.symm]
            have q164 : (pj_fi G145 171 17).toInt = y153.toInt := by rw [show pj_fi G145 171 17 = y153 from hy153.symm]
            have q165 : (pj_fi G145 171 18).toInt = y154.toInt := by rw [show pj_fi G145 171 18 = y154 from hy154.symm]
            refine pj_X_ca (vs := [.ref 171, .int v5]) rfl (fun _ => rfl) ⟨Nat.le_of_ble_eq_true rfl, Nat.le_of_ble_eq_true rfl, pj_T_rcv iG145 rfl⟩ ⟨rfl, rfl⟩ (pj_Y_up (by decide) (ct_215x G145 iG145 v5 (by omega))) ?_
            rintro _ G167 ⟨y166, rfl, iG167, jG167, ry166, ey166, fy166⟩
            have kG167 : pj_kpt kc_231 G0 G167 := pj_kpt_t kG145 (pj_kpt_s jG167 rfl)
            have q168 : (pj_fi G167 171 1).toInt = (pj_fi G145 171 1).toInt := by rw [jG167.1 (171, 1) (by decide)]
            have q169 : (pj_fi G167 171 39).toInt = (pj_fi G145 171 39).toInt := by rw [jG167.1 (171, 39) (by decide)]
            have q170 : (pj_fi G167 171 17).toInt = (pj_fi G145 171 17).toInt := by rw [jG167.1 (171, 17) (by decide)]
            have q171 : (pj_fi G167 171 18).toInt = (pj_fi G145 171 18).toInt := by rw [jG167.1 (171, 18) (by decide)]
            obtain ⟨y172, hy172⟩ : ∃ z : Int32, z = pj_fi G167 171 30 := ⟨_, rfl⟩
            have ey172 : (pj_fi G167 171 30).toInt = y172.toInt := by rw [hy172]
            have ry172 : (0 : Int) ≤ y172.toInt ∧ y172.toInt ≤ 16 := by rw [hy172]; exact iG167.2.1 171 30 (0, 16) rfl
            obtain ⟨y173, hy173⟩ : ∃ z : Int32, z = pj_fi G167 171 1 := ⟨_, rfl⟩
            have ey173 : (pj_fi G167 171 1).toInt = y173.toInt := by rw [hy173]
            have ry173 : (0 : Int) ≤ y173.toInt ∧ y173.toInt ≤ 24 := by rw [hy173]; exact iG167.2.1 171 1 (0, 24) rfl
            obtain ⟨y174, hy174⟩ : ∃ z : Int32, z = pj_fi G167 171 39 := ⟨_, rfl⟩
            have ey174 : (pj_fi G167 171 39).toInt = y174.toInt := by rw [hy174]
            have ry174 : (0 : Int) ≤ y174.toInt ∧ y174.toInt ≤ 60 := by rw [hy174]; exact iG167.2.1 171 39 (0, 60) rfl
            obtain ⟨y175, hy175⟩ : ∃ z : Int32, z = pj_fi G167 171 17 := ⟨_, rfl⟩
            have ey175 : (pj_fi G167 171 17).toInt = y175.toInt := by rw [hy175]
            have ry175 : (0 : Int) ≤ y175.toInt ∧ y175.toInt ≤ 80 := by rw [hy175]; exact iG167.2.1 171 17 (0, 80) rfl
            obtain ⟨y176, hy176⟩ : ∃ z : Int32, z = pj_fi G167 171 18 := ⟨_, rfl⟩
            have ey176 : (pj_fi G167 171 18).toInt = y176.toInt := by rw [hy176]
            have ry176 : (0 : Int) ≤ y176.toInt ∧ y176.toInt ≤ 80 := by rw [hy176]; exact iG167.2.1 171 18 (0, 80) rfl
            show pj_X _ _ G167 160 [(0, .ref 171), (1, .int v1), (2, .int v2), (3, .int v3), (4, .int v4), (5, .int v5)] [.int y166] _
            refine pj_X_of (fun r h => pj_R_to (G167, 164, [(0, .ref 171), (1, .int v1), (2, .int v2), (3, .int v3), (4, .int v4), (5, .int v5)], [.int y166], 0, 0) 164 2 (fun _ => rfl) h) ?_
            have q177 : (pj_fi G167 171 30).toInt = y172.toInt := by rw [show pj_fi G167 171 30 = y172 from hy172.symm]
            have q178 : (pj_fi G167 171 1).toInt = y173.toInt := by rw [show pj_fi G167 171 1 = y173 from hy173.symm]
            have q179 : (pj_fi G167 171 39).toInt = y174.toInt := by rw [show pj_fi G167 171 39 = y174 from hy174.symm]
            have q180 : (pj_fi G167 171 17).toInt = y175.toInt := by rw [show pj_fi G167 171 17 = y175 from hy175.symm]
            have q181 : (pj_fi G167 171 18).toInt = y176.toInt := by rw [show pj_fi G167 171 18 = y176 from hy176.symm]
            exact pj_X_rt rfl rfl ⟨_, rfl, iG167, kG167, pj_i32 _, by omega⟩
        | false =>
          have ub113 := pj_u_geF b113
          refine pj_X_of (fun r h => pj_R_icF rfl b113 h) ?_
          refine pj_X_of (fun r h => pj_R_to (G112, 133, [(0, .ref 171), (1, .int v1), (2, .int v2), (3, .int v3), (4, .int v4), (5, .int v5)], [.int (Int32.ofInt 1), .ref 171], 0, 0) 133 3 (fun _ => rfl) h) ?_
          have q182 : (pj_fi G112 171 30).toInt = y106.toInt := by rw [show pj_fi G112 171 30 = y106 from by rw [hG112, pj_fi_wv_ne _ _ _ _ _ _ (by decide)]; exact hy106.symm]
          have q183 : (pj_fi G112 171 1).toInt = (Int32.ofInt 0).toInt := by rw [show pj_fi G112 171 1 = Int32.ofInt 0 from by rw [hG112]; exact pj_fi_wi hI.1 (ci := 12) rfl _]
          have q184 : (pj_fi G112 171 39).toInt = y108.toInt := by rw [show pj_fi G112 171 39 = y108 from by rw [hG112, pj_fi_wv_ne _ _ _ _ _ _ (by decide)]; exact hy108.symm]
          have q185 : (pj_fi G112 171 17).toInt = y109.toInt := by rw [show pj_fi G112 171 17 = y109 from by rw [hG112, pj_fi_wv_ne _ _ _ _ _ _ (by decide)]; exact hy109.symm]
          have q186 : (pj_fi G112 171 18).toInt = y110.toInt := by rw [show pj_fi G112 171 18 = y110 from by rw [hG112, pj_fi_wv_ne _ _ _ _ _ _ (by decide)]; exact hy110.symm]
          refine pj_X_ca (vs := [.int (Int32.ofInt 1)]) rfl (fun _ => rfl) ⟨Nat.le_of_ble_eq_true rfl, Nat.le_of_ble_eq_true rfl, rfl⟩ ⟨rfl, rfl⟩ (pj_Y_up (by decide) (ct_172x G112 iG112 (Int32.ofInt 1) ⟨by omega, by omega⟩)) ?_
          rintro _ _ ⟨y187, rfl, rfl, ry187, ey187, fy187⟩
          show pj_X _ _ G112 136 [(0, .ref 171), (1, .int v1), (2, .int v2), (3, .int v3), (4, .int v4), (5, .int v5)] [.int y187, .ref 171] _
          refine pj_X_of (fun r h => pj_R_to (G112, 137, [(0, .ref 171), (1, .int v1), (2, .int v2), (3, .int v3), (4, .int v4), (5, .int v5)], [.long y187.toInt64, .ref 171], 0, 0) 137 2 (fun _ => rfl) h) ?_
          have q188 : (pj_fi G112 171 30).toInt = y106.toInt := by rw [show pj_fi G112 171 30 = y106 from by rw [hG112, pj_fi_wv_ne _ _ _ _ _ _ (by decide)]; exact hy106.symm]
          have q189 : (pj_fi G112 171 1).toInt = (Int32.ofInt 0).toInt := by rw [show pj_fi G112 171 1 = Int32.ofInt 0 from by rw [hG112]; exact pj_fi_wi hI.1 (ci := 12) rfl _]
          have q190 : (pj_fi G112 171 39).toInt = y108.toInt := by rw [show pj_fi G112 171 39 = y108 from by rw [hG112, pj_fi_wv_ne _ _ _ _ _ _ (by decide)]; exact hy108.symm]
          have q191 : (pj_fi G112 171 17).toInt = y109.toInt := by rw [show pj_fi G112 171 17 = y109 from by rw [hG112, pj_fi_wv_ne _ _ _ _ _ _ (by decide)]; exact hy109.symm]
          have q192 : (pj_fi G112 171 18).toInt = y110.toInt := by rw [show pj_fi G112 171 18 = y110 from by rw [hG112, pj_fi_wv_ne _ _ _ _ _ _ (by decide)]; exact hy110.symm]
          have lc193 : (y187.toInt64).toInt = y187.toInt := Int32.toInt_toInt64 _
          refine pj_X_ca (vs := [.ref 171, .long y187.toInt64]) rfl (fun _ => rfl) ⟨Nat.le_of_ble_eq_true rfl, Nat.le_of_ble_eq_true rfl, pj_T_rcv iG112 rfl⟩ ⟨rfl, rfl⟩ (pj_Y_up (by decide) (ct_174x G112 iG112 y187.toInt64 (by omega))) ?_
          rintro _ G195 ⟨rfl, iG195, jG195, eG195, fy194⟩
          replace eG195 := eG195 _ rfl
          have kG195 : pj_kpt kc_231 G0 G195 := pj_kpt_t kG112 (pj_kpt_s jG195 rfl)
          have q196 : (pj_fi G195 171 30).toInt = (pj_fi G112 171 30).toInt := by rw [jG195.1 (171, 30) (by decide)]
          have q197 : (pj_fi G195 171 39).toInt = (pj_fi G112 171 39).toInt := by rw [jG195.1 (171, 39) (by decide)]
          have q198 : (pj_fi G195 171 17).toInt = (pj_fi G112 171 17).toInt := by rw [jG195.1 (171, 17) (by decide)]
          have q199 : (pj_fi G195 171 18).toInt = (pj_fi G112 171 18).toInt := by rw [jG195.1 (171, 18) (by decide)]
          obtain ⟨y200, hy200⟩ : ∃ z : Int32, z = pj_fi G195 171 30 := ⟨_, rfl⟩
          have ey200 : (pj_fi G195 171 30).toInt = y200.toInt := by rw [hy200]
          have ry200 : (0 : Int) ≤ y200.toInt ∧ y200.toInt ≤ 16 := by rw [hy200]; exact iG195.2.1 171 30 (0, 16) rfl
          obtain ⟨y201, hy201⟩ : ∃ z : Int32, z = pj_fi G195 171 1 := ⟨_, rfl⟩
          have ey201 : (pj_fi G195 171 1).toInt = y201.toInt := by rw [hy201]
          have ry201 : (0 : Int) ≤ y201.toInt ∧ y201.toInt ≤ 24 := by rw [hy201]; exact iG195.2.1 171 1 (0, 24) rfl
          obtain ⟨y202, hy202⟩ : ∃ z : Int32, z = pj_fi G195 171 39 := ⟨_, rfl⟩
          have ey202 : (pj_fi G195 171 39).toInt = y202.toInt := by rw [hy202]
          have ry202 : (0 : Int) ≤ y202.toInt ∧ y202.toInt ≤ 60 := by rw [hy202]; exact iG195.2.1 171 39 (0, 60) rfl
          obtain ⟨y203, hy203⟩ : ∃ z : Int32, z = pj_fi G195 171 17 := ⟨_, rfl⟩
          have ey203 : (pj_fi G195 171 17).toInt = y203.toInt := by rw [hy203]
          have ry203 : (0 : Int) ≤ y203.toInt ∧ y203.toInt ≤ 80 := by rw [hy203]; exact iG195.2.1 171 17 (0, 80) rfl
          obtain ⟨y204, hy204⟩ : ∃ z : Int32, z = pj_fi G195 171 18 := ⟨_, rfl⟩
          have ey204 : (pj_fi G195 171 18).toInt = y204.toInt := by rw [hy204]
          have ry204 : (0 : Int) ≤ y204.toInt ∧ y204.toInt ≤ 80 := by rw [hy204]; exact iG195.2.1 171 18 (0, 80) rfl
          show pj_X _ _ G195 140 [(0, .ref 171), (1, .int v1), (2, .int v2), (3, .int v3), (4, .int v4), (5, .int v5)] [] _
          refine pj_X_of (fun r h => pj_R_to (G195, 142, [(0, .ref 171), (1, .int v1), (2, .int v2), (3, .int v3), (4, .int v4), (5, .int v5)], [.ref 171, .ref 171], 0, 0) 142 3 (fun _ => rfl) h) ?_
          refine pj_X_of (fun r h => pj_T_gi iG195 rfl rfl h) ?_
          show pj_X _ _ G195 145 [(0, .ref 171), (1, .int v1), (2, .int v2), (3, .int v3), (4, .int v4), (5, .int v5)] [.int (pj_fi G195 171 35), .ref 171] _
          obtain ⟨y205, hy205⟩ : ∃ z : Int32, z = pj_fi G195 171 35 := ⟨_, rfl⟩
          refine pj_X_eqi hy205.symm ?_
          have ey205 : (pj_fi G195 171 35).toInt = y205.toInt := by rw [hy205]
          refine pj_X_of (fun r h => pj_R_to (G195, 146, [(0, .ref 171), (1, .int v1), (2, .int v2), (3, .int v3), (4, .int v4), (5, .int v5)], [.long y205.toInt64, .ref 171], 0, 0) 146 2 (fun _ => rfl) h) ?_
          have q206 : (pj_fi G195 171 30).toInt = y200.toInt := by rw [show pj_fi G195 171 30 = y200 from hy200.symm]
          have q207 : (pj_fi G195 171 1).toInt = y201.toInt := by rw [show pj_fi G195 171 1 = y201 from hy201.symm]
          have q208 : (pj_fi G195 171 39).toInt = y202.toInt := by rw [show pj_fi G195 171 39 = y202 from hy202.symm]
          have q209 : (pj_fi G195 171 17).toInt = y203.toInt := by rw [show pj_fi G195 171 17 = y203 from hy203.symm]
          have q210 : (pj_fi G195 171 18).toInt = y204.toInt := by rw [show pj_fi G195 171 18 = y204 from hy204.symm]
          have lc211 : (y205.toInt64).toInt = y205.toInt := Int32.toInt_toInt64 _
          refine pj_X_ca (vs := [.ref 171, .long y205.toInt64]) rfl (fun _ => rfl) ⟨Nat.le_of_ble_eq_true rfl, Nat.le_of_ble_eq_true rfl, pj_T_rcv iG195 rfl⟩ ⟨rfl, rfl⟩ (pj_Y_up (by decide) (ct_174x G195 iG195 y205.toInt64 (by omega))) ?_
          rintro _ G213 ⟨rfl, iG213, jG213, eG213, fy212⟩
          replace eG213 := eG213 _ rfl
          have kG213 : pj_kpt kc_231 G0 G213 := pj_kpt_t kG195 (pj_kpt_s jG213 rfl)
          have q214 : (pj_fi G213 171 30).toInt = (pj_fi G195 171 30).toInt := by rw [jG213.1 (171, 30) (by decide)]
          have q215 : (pj_fi G213 171 39).toInt = (pj_fi G195 171 39).toInt := by rw [jG213.1 (171, 39) (by decide)]
          have q216 : (pj_fi G213 171 17).toInt = (pj_fi G195 171 17).toInt := by rw [jG213.1 (171, 17) (by decide)]
          have q217 : (pj_fi G213 171 18).toInt = (pj_fi G195 171 18).toInt := by rw [jG213.1 (171, 18) (by decide)]
          obtain ⟨y218, hy218⟩ : ∃ z : Int32, z = pj_fi G213 171 30 := ⟨_, rfl⟩
          have ey218 : (pj_fi G213 171 30).toInt = y218.toInt := by rw [hy218]
          have ry218 : (0 : Int) ≤ y218.toInt ∧ y218.toInt ≤ 16 := by rw [hy218]; exact iG213.2.1 171 30 (0, 16) rfl
          obtain ⟨y219, hy219⟩ : ∃ z : Int32, z = pj_fi G213 171 1 := ⟨_, rfl⟩
          have ey219 : (pj_fi G213 171 1).toInt = y219.toInt := by rw [hy219]
          have ry219 : (0 : Int) ≤ y219.toInt ∧ y219.toInt ≤ 24 := by rw [hy219]; exact iG213.2.1 171 1 (0, 24) rfl
          obtain ⟨y220, hy220⟩ : ∃ z : Int32, z = pj_fi G213 171 39 := ⟨_, rfl⟩
          have ey220 : (pj_fi G213 171 39).toInt = y220.toInt := by rw [hy220]
          have ry220 : (0 : Int) ≤ y220.toInt ∧ y220.toInt ≤ 60 := by rw [hy220]; exact iG213.2.1 171 39 (0, 60) rfl
          obtain ⟨y221, hy221⟩ : ∃ z : Int32, z = pj_fi G213 171 17 := ⟨_, rfl⟩
          have ey221 : (pj_fi G213 171 17).toInt = y221.toInt := by rw [hy221]
          have ry221 : (0 : Int) ≤ y221.toInt ∧ y221.toInt ≤ 80 := by rw [hy221]; exact iG213.2.1 171 17 (0, 80) rfl
          obtain ⟨y222, hy222⟩ : ∃ z : Int32, z = pj_fi G213 171 18 := ⟨_, rfl⟩
          have ey222 : (pj_fi G213 171 18).toInt = y222.toInt := by rw [hy222]
          have ry222 : (0 : Int) ≤ y222.toInt ∧ y222.toInt ≤ 80 := by rw [hy222]; exact iG213.2.1 171 18 (0, 80) rfl
          show pj_X _ _ G213 149 [(0, .ref 171), (1, .int v1), (2, .int v2), (3, .int v3), (4, .int v4), (5, .int v5)] [] _
          refine pj_X_of (fun r h => pj_R_to (G213, 151, [(0, .ref 171), (1, .int v1), (2, .int v2), (3, .int v3), (4, .int v4), (5, .int v5)], [.int v5], 0, 0) 151 2 (fun _ => rfl) h) ?_
          cases b223 : pj_c1 .le v5 0 with
          | true =>
            have ub223 := pj_u0_leT b223
            refine pj_X_of (fun r h => pj_R_ifT 163 rfl rfl b223 h) ?_
            refine pj_X_of (fun r h => pj_R_to (G213, 164, [(0, .ref 171), (1, .int v1), (2, .int v2), (3, .int v3), (4, .int v4), (5, .int v5)], [.int (Int32.ofInt 0)], 0, 0) 164 2 (fun _ => rfl) h) ?_
            have q224 : (pj_fi G213 171 30).toInt = y218.toInt := by rw [show pj_fi G213 171 30 = y218 from hy218.symm]
            have q225 : (pj_fi G213 171 1).toInt = y219.toInt := by rw [show pj_fi G213 171 1 = y219 from hy219.symm]
            have q226 : (pj_fi G213 171 39).toInt = y220.toInt := by rw [show pj_fi G213 171 39 = y220 from hy220.symm]
            have q227 : (pj_fi G213 171 17).toInt = y221.toInt := by rw [show pj_fi G213 171 17 = y221 from hy221.symm]
            have q228 : (pj_fi G213 171 18).toInt = y222.toInt := by rw [show pj_fi G213 171 18 = y222 from hy222.symm]
            exact pj_X_rt rfl rfl ⟨_, rfl, iG213, kG213, pj_i32 _, by omega⟩
          | false =>
            have ub223 := pj_u0_leF b223
            refine pj_X_of (fun r h => pj_R_ifF rfl b223 h) ?_
            refine pj_X_of (fun r h => pj_R_to (G213, 157, [(0, .ref 171), (1, .int v1), (2, .int v2), (3, .int v3), (4, .int v4), (5, .int v5)], [.int v5, .ref 171], 0, 0) 157 3 (fun _ => rfl) h) ?_
            have q229 : (pj_fi G213 171 30).toInt = y218.toInt := by rw [show pj_fi G213 171 30 = y218 from hy218.symm]
            have q230 : (pj_fi G213 171 1).toInt = y219.toInt := by rw [show pj_fi G213 171 1 = y219 from hy219.symm]
            have q231 : (pj_fi G213 171 39).toInt = y220.toInt := by rw [show pj_fi G213 171 39 = y220 from hy220.symm]
            have q232 : (pj_fi G213 171 17).toInt = y221.toInt := by rw [show pj_fi G213 171 17 = y221 from hy221.symm]
            have q233 : (pj_fi G213 171 18).toInt = y222.toInt := by rw [show pj_fi G213 171 18 = y222 from hy222.symm]
            refine pj_X_ca (vs := [.ref 171, .int v5]) rfl (fun _ => rfl) ⟨Nat.le_of_ble_eq_true rfl, Nat.le_of_ble_eq_true rfl, pj_T_rcv iG213 rfl⟩ ⟨rfl, rfl⟩ (pj_Y_up (by decide) (ct_215x G213 iG213 v5 (by omega))) ?_
            rintro _ G235 ⟨y234, rfl, iG235, jG235, ry234, ey234, fy234⟩
            have kG235 : pj_kpt kc_231 G0 G235 := pj_kpt_t kG213 (pj_kpt_s jG235 rfl)
            have q236 : (pj_fi G235 171 1).toInt = (pj_fi G213 171 1).toInt := by rw [jG235.1 (171, 1) (by decide)]
            have q237 : (pj_fi G235 171 39).toInt = (pj_fi G213 171 39).toInt := by rw [jG235.1 (171, 39) (by decide)]
            have q238 : (pj_fi G235 171 17).toInt = (pj_fi G213 171 17).toInt := by rw [jG235.1 (171, 17) (by decide)]
            have q239 : (pj_fi G235 171 18).toInt = (pj_fi G213 171 18).toInt := by rw [jG235.1 (171, 18) (by decide)]
            obtain ⟨y240, hy240⟩ : ∃ z : Int32, z = pj_fi G235 171 30 := ⟨_, rfl⟩
            have ey240 : (pj_fi G235 171 30).toInt = y240.toInt := by rw [hy240]
            have ry240 : (0 : Int) ≤ y240.toInt ∧ y240.toInt ≤ 16 := by rw [hy240]; exact iG235.2.1 171 30 (0, 16) rfl
            obtain ⟨y241, hy241⟩ : ∃ z : Int32, z = pj_fi G235 171 1 := ⟨_, rfl⟩
            have ey241 : (pj_fi G235 171 1).toInt = y241.toInt := by rw [hy241]
            have ry241 : (0 : Int) ≤ y241.toInt ∧ y241.toInt ≤ 24 := by rw [hy241]; exact iG235.2.1 171 1 (0, 24) rfl
            obtain ⟨y242, hy242⟩ : ∃ z : Int32, z = pj_fi G235 171 39 := ⟨_, rfl⟩
            have ey242 : (pj_fi G235 171 39).toInt = y242.toInt := by rw [hy242]
            have ry242 : (0 : Int) ≤ y242.toInt ∧ y242.toInt ≤ 60 := by rw [hy242]; exact iG235.2.1 171 39 (0, 60) rfl
            obtain ⟨y243, hy243⟩ : ∃ z : Int32, z = pj_fi G235 171 17 := ⟨_, rfl⟩
            have ey243 : (pj_fi G235 171 17).toInt = y243.toInt := by rw [hy243]
            have ry243 : (0 : Int) ≤ y243.toInt ∧ y243.toInt ≤ 80 := by rw [hy243]; exact iG235.2.1 171 17 (0, 80) rfl
            obtain ⟨y244, hy244⟩ : ∃ z : Int32, z = pj_fi G235 171 18 := ⟨_, rfl⟩
            have ey244 : (pj_fi G235 171 18).toInt = y244.toInt := by rw [hy244]
            have ry244 : (0 : Int) ≤ y244.toInt ∧ y244.toInt ≤ 80 := by rw [hy244]; exact iG235.2.1 171 18 (0, 80) rfl
            show pj_X _ _ G235 160 [(0, .ref 171), (1, .int v1), (2, .int v2), (3, .int v3), (4, .int v4), (5, .int v5)] [.int y234] _
            refine pj_X_of (fun r h => pj_R_to (G235, 164, [(0, .ref 171), (1, .int v1), (2, .int v2), (3, .int v3), (4, .int v4), (5, .int v5)], [.int y234], 0, 0) 164 2 (fun _ => rfl) h) ?_
            have q245 : (pj_fi G235 171 30).toInt = y240.toInt := by rw [show pj_fi G235 171 30 = y240 from hy240.symm]
            have q246 : (pj_fi G235 171 1).toInt = y241.toInt := by rw [show pj_fi G235 171 1 = y241 from hy241.symm]
            have q247 : (pj_fi G235 171 39).toInt = y242.toInt := by rw [show pj_fi G235 171 39 = y242 from hy242.symm]
            have q248 : (pj_fi G235 171 17).toInt = y243.toInt := by rw [show pj_fi G235 171 17 = y243 from hy243.symm]
            have q249 : (pj_fi G235 171 18).toInt = y244.toInt := by rw [show pj_fi G235 171 18 = y244 from hy244.symm]
            exact pj_X_rt rfl rfl ⟨_, rfl, iG235, kG235, pj_i32 _, by omega⟩
      | false =>
        have ub111 := pj_u_geF b111
        refine pj_X_of (fun r h => pj_R_icF rfl b111 h) ?_
        refine pj_X_of (fun r h => pj_R_to (G, 101, [(0, .ref 171), (1, .int v1), (2, .int v2), (3, .int v3), (4, .int v4), (5, .int v5)], [.int v5, .ref 171], 0, 0) 101 3 (fun _ => rfl) h) ?_
        have q250 : (pj_fi G 171 30).toInt = y106.toInt := by rw [show pj_fi G 171 30 = y106 from hy106.symm]
        have q251 : (pj_fi G 171 1).toInt = y107.toInt := by rw [show pj_fi G 171 1 = y107 from hy107.symm]
        have q252 : (pj_fi G 171 39).toInt = y108.toInt := by rw [show pj_fi G 171 39 = y108 from hy108.symm]
        have q253 : (pj_fi G 171 17).toInt = y109.toInt := by rw [show pj_fi G 171 17 = y109 from hy109.symm]
        have q254 : (pj_fi G 171 18).toInt = y110.toInt := by rw [show pj_fi G 171 18 = y110 from hy110.symm]
        refine pj_X_ca (vs := [.ref 171, .int v5]) rfl (fun _ => rfl) ⟨Nat.le_of_ble_eq_true rfl, Nat.le_of_ble_eq_true rfl, pj_T_rcv hI rfl⟩ ⟨rfl, rfl⟩ (pj_Y_up (by decide) (ct_230 G hI v5 ⟨by omega, by omega⟩ (pj_RI_k p0_ hK rfl))) ?_
        rintro _ G256 ⟨y255, rfl, iG256, jG256, ry255⟩
        have kG256 : pj_kpt kc_231 G0 G256 := pj_kpt_t hK (pj_kpt_s jG256 rfl)
        have q257 : (pj_fi G256 171 30).toInt = (pj_fi G 171 30).toInt := by rw [jG256.1 (171, 30) (by decide)]
        have q258 : (pj_fi G256 171 1).toInt = (pj_fi G 171 1).toInt := by rw [jG256.1 (171, 1) (by decide)]
        have q259 : (pj_fi G256 171 39).toInt = (pj_fi G 171 39).toInt := by rw [jG256.1 (171, 39) (by decide)]
        have q260 : (pj_fi G256 171 17).toInt = (pj_fi G 171 17).toInt := by rw [jG256.1 (171, 17) (by decide)]
        have q261 : (pj_fi G256 171 18).toInt = (pj_fi G 171 18).toInt := by rw [jG256.1 (171, 18) (by decide)]
        obtain ⟨y262, hy262⟩ : ∃ z : Int32, z = pj_fi G256 171 30 := ⟨_, rfl⟩
        have ey262 : (pj_fi G256 171 30).toInt = y262.toInt := by rw [hy262]
        have ry262 : (0 : Int) ≤ y262.toInt ∧ y262.toInt ≤ 16 := by rw [hy262]; exact iG256.2.1 171 30 (0, 16) rfl
        obtain ⟨y263, hy263⟩ : ∃ z : Int32, z = pj_fi G256 171 1 := ⟨_, rfl⟩
        have ey263 : (pj_fi G256 171 1).toInt = y263.toInt := by rw [hy263]
        have ry263 : (0 : Int) ≤ y263.toInt ∧ y263.toInt ≤ 24 := by rw [hy263]; exact iG256.2.1 171 1 (0, 24) rfl
        obtain ⟨y264, hy264⟩ : ∃ z : Int32, z = pj_fi G256 171 39 := ⟨_, rfl⟩
        have ey264 : (pj_fi G256 171 39).toInt = y264.toInt := by rw [hy264]
        have ry264 : (0 : Int) ≤ y264.toInt ∧ y264.toInt ≤ 60 := by rw [hy264]; exact iG256.2.1 171 39 (0, 60) rfl
        obtain ⟨y265, hy265⟩ : ∃ z : Int32, z = pj_fi G256 171 17 := ⟨_, rfl⟩
        have ey265 : (pj_fi G256 171 17).toInt = y265.toInt := by rw [hy265]
        have ry265 : (0 : Int) ≤ y265.toInt ∧ y265.toInt ≤ 80 := by rw [hy265]; exact iG256.2.1 171 17 (0, 80) rfl
        obtain ⟨y266, hy266⟩ : ∃ z : Int32, z = pj_fi G256 171 18 := ⟨_, rfl⟩
        have ey266 : (pj_fi G256 171 18).toInt = y266.toInt := by rw [hy266]
        have ry266 : (0 : Int) ≤ y266.toInt ∧ y266.toInt ≤ 80 := by rw [hy266]; exact iG256.2.1 171 18 (0, 80) rfl
        show pj_X _ _ G256 104 [(0, .ref 171), (1, .int v1), (2, .int v2), (3, .int v3), (4, .int v4), (5, .int v5)] [.int y255] _
        cases b267 : pj_c1 .eq y255 0 with
        | true =>
          have ub267 := pj_u0_eqT b267
          refine pj_X_of (fun r h => pj_R_ifT 113 rfl rfl b267 h) ?_
          refine pj_X_of (fun r h => pj_R_to (G256, 115, [(0, .ref 171), (1, .int v1), (2, .int v2), (3, .int v3), (4, .int v4), (5, .int v5)], [.int (Int32.ofInt 0), .ref 171], 0, 0) 115 3 (fun _ => rfl) h) ?_
          refine pj_X_of (fun r h => pj_T_pf iG256 rfl rfl rfl h) ?_
          show pj_X _ _ (pj_wv G256 171 1 (.int (Int32.ofInt 0))) 118 [(0, .ref 171), (1, .int v1), (2, .int v2), (3, .int v3), (4, .int v4), (5, .int v5)] [] _
          obtain ⟨G268, hG268⟩ : ∃ H, H = pj_wv G256 171 1 (.int (Int32.ofInt 0)) := ⟨_, rfl⟩
          have iG268 : pj_Inv G268 := by rw [hG268]; exact pj_Inv_wi iG256 (ci := 12) rfl (fun q hq => by cases hq; exact ⟨by show (0 : Int) ≤ _; omega, by show _ ≤ (24 : Int); omega⟩)
          have kG268 : pj_kpt kc_231 G0 G268 := by rw [hG268]; exact pj_kpt_v kG256 rfl
          rw [← hG268]
          refine pj_X_of (fun r h => pj_R_to (G268, 122, [(0, .ref 171), (1, .int v1), (2, .int v2), (3, .int v3), (4, .int v4), (5, .int v5)], [.ref 171, .int v5, .ref 171], 0, 0) 122 4 (fun _ => rfl) h) ?_
          refine pj_X_of (fun r h => pj_T_gi iG268 rfl rfl h) ?_
          show pj_X _ _ G268 125 [(0, .ref 171), (1, .int v1), (2, .int v2), (3, .int v3), (4, .int v4), (5, .int v5)] [.int (pj_fi G268 171 39), .int v5, .ref 171] _
          refine pj_X_eqi (show pj_fi G268 171 39 = y264 from by rw [hG268, pj_fi_wv_ne _ _ _ _ _ _ (by decide)]; exact hy264.symm) ?_
          cases b269 : pj_c1 .ge v5 y264 with
          | true =>
            have ub269 := pj_u_geT b269
            refine pj_X_of (fun r h => pj_R_icT 132 rfl rfl b269 h) ?_
            refine pj_X_of (fun r h => pj_R_to (G268, 133, [(0, .ref 171), (1, .int v1), (2, .int v2), (3, .int v3), (4, .int v4), (5, .int v5)], [.int (Int32.ofInt 0), .ref 171], 0, 0) 133 2 (fun _ => rfl) h) ?_
            have q270 : (pj_fi G268 171 30).toInt = y262.toInt := by rw [show pj_fi G268 171 30 = y262 from by rw [hG268, pj_fi_wv_ne _ _ _ _ _ _ (by decide)]; exact hy262.symm]
            have q271 : (pj_fi G268 171 1).toInt = (Int32.ofInt 0).toInt := by rw [show pj_fi G268 171 1 = Int32.ofInt 0 from by rw [hG268]; exact pj_fi_wi iG256.1 (ci := 12) rfl _]
            have q272 : (pj_fi G268 171 39).toInt = y264.toInt := by rw [show pj_fi G268 171 39 = y264 from by rw [hG268, pj_fi_wv_ne _ _ _ _ _ _ (by decide)]; exact hy264.symm]
            have q273 : (pj_fi G268 171 17).toInt = y265.toInt := by rw [show pj_fi G268 171 17 = y265 from by rw [hG268, pj_fi_wv_ne _ _ _ _ _ _ (by decide)]; exact hy265.symm]
            have q274 : (pj_fi G268 171 18).toInt = y266.toInt := by rw [show pj_fi G268 171 18 = y266 from by rw [hG268, pj_fi_wv_ne _ _ _ _ _ _ (by decide)]; exact hy266.symm]
            refine pj_X_ca (vs := [.int (Int32.ofInt 0)]) rfl (fun _ => rfl) ⟨Nat.le_of_ble_eq_true rfl, Nat.le_of_ble_eq_true rfl, rfl⟩ ⟨rfl, rfl⟩ (pj_Y_up (by decide) (ct_172x G268 iG268 (Int32.ofInt 0) ⟨by omega, by omega⟩)) ?_
            rintro _ _ ⟨y275, rfl, rfl, ry275, ey275, fy275⟩
            show pj_X _ _ G268 136 [(0, .ref 171), (1, .int v1), (2, .int v2), (3, .int v3), (4, .int v4), (5, .int v5)] [.int y275, .ref 171] _
            refine pj_X_of (fun r h => pj_R_to (G268, 137, [(0, .ref 171), (1, .int v1), (2, .int v2), (3, .int v3), (4, .int v4), (5, .int v5)], [.long y275.toInt64, .ref 171], 0, 0) 137 2 (fun _ => rfl) h) ?_
            have q276 : (pj_fi G268 171 30).toInt = y262.toInt := by rw [show pj_fi G268 171 30 = y262 from by rw [hG268, pj_fi_wv_ne _ _ _ _ _ _ (by decide)]; exact hy262.symm]
            have q277 : (pj_fi G268 171 1).toInt = (Int32.ofInt 0).toInt := by rw [show pj_fi G268 171 1 = Int32.ofInt 0 from by rw [hG268]; exact pj_fi_wi iG256.1 (ci := 12) rfl _]
            have q278 : (pj_fi G268 171 39).toInt = y264.toInt := by rw [show pj_fi G268 171 39 = y264 from by rw [hG268, pj_fi_wv_ne _ _ _ _ _ _ (by decide)]; exact hy264.symm]
            have q279 : (pj_fi G268 171 17).toInt = y265.toInt := by rw [show pj_fi G268 171 17 = y265 from by rw [hG268, pj_fi_wv_ne _ _ _ _ _ _ (by decide)]; exact hy265.symm]
            have q280 : (pj_fi G268 171 18).toInt = y266.toInt := by rw [show pj_fi G268 171 18 = y266 from by rw [hG268, pj_fi_wv_ne _ _ _ _ _ _ (by decide)]; exact hy266.symm]
            have lc281 : (y275.toInt64).toInt = y275.toInt := Int32.toInt_toInt64 _
            refine pj_X_ca (vs := [.ref 171, .long y275.toInt64]) rfl (fun _ => rfl) ⟨Nat.le_of_ble_eq_true rfl, Nat.le_of_ble_eq_true rfl, pj_T_rcv iG268 rfl⟩ ⟨rfl, rfl⟩ (pj_Y_up (by decide) (ct_174x G268 iG268 y275.toInt64 (by omega))) ?_
            rintro _ G283 ⟨rfl, iG283, jG283, eG283, fy282⟩
            replace eG283 := eG283 _ rfl
            have kG283 : pj_kpt kc_231 G0 G283 := pj_kpt_t kG268 (pj_kpt_s jG283 rfl)
            have q284 : (pj_fi G283 171 30).toInt = (pj_fi G268 171 30).toInt := by rw [jG283.1 (171, 30) (by decide)]
            have q285 : (pj_fi G283 171 39).toInt = (pj_fi G268 171 39).toInt := by rw [jG283.1 (171, 39) (by decide)]
            have q286 : (pj_fi G283 171 17).toInt = (pj_fi G268 171 17).toInt := by rw [jG283.1 (171, 17) (by decide)]
            have q287 : (pj_fi G283 171 18).toInt = (pj_fi G268 171 18).toInt := by rw [jG283.1 (171, 18) (by decide)]
            obtain ⟨y288, hy288⟩ : ∃ z : Int32, z = pj_fi G283 171 30 := ⟨_, rfl⟩
            have ey288 : (pj_fi G283 171 30).toInt = y288.toInt := by rw [hy288]
            have ry288 : (0 : Int) ≤ y288.toInt ∧ y288.toInt ≤ 16 := by rw [hy288]; exact iG283.2.1 171 30 (0, 16) rfl
            obtain ⟨y289, hy289⟩ : ∃ z : Int32, z = pj_fi G283 171 1 := ⟨_, rfl⟩
            have ey289 : (pj_fi G283 171 1).toInt = y289.toInt := by rw [hy289]
            have ry289 : (0 : Int) ≤ y289.toInt ∧ y289.toInt ≤ 24 := by rw [hy289]; exact iG283.2.1 171 1 (0, 24) rfl
            obtain ⟨y290, hy290⟩ : ∃ z : Int32, z = pj_fi G283 171 39 := ⟨_, rfl⟩
            have ey290 : (pj_fi G283 171 39).toInt = y290.toInt := by rw [hy290]
            have ry290 : (0 : Int) ≤ y290.toInt ∧ y290.toInt ≤ 60 := by rw [hy290]; exact iG283.2.1 171 39 (0, 60) rfl
            obtain ⟨y291, hy291⟩ : ∃ z : Int32, z = pj_fi G283 171 17 := ⟨_, rfl⟩
            have ey291 : (pj_fi G283 171 17).toInt = y291.toInt := by rw [hy291]
            have ry291 : (0 : Int) ≤ y291.toInt ∧ y291.toInt ≤ 80 := by rw [hy291]; exact iG283.2.1 171 17 (0, 80) rfl
            obtain ⟨y292, hy292⟩ : ∃ z : Int32, z = pj_fi G283 171 18 := ⟨_, rfl⟩
            have ey292 : (pj_fi G283 171 18).toInt = y292.toInt := by rw [hy292]
            have ry292 : (0 : Int) ≤ y292.toInt ∧ y292.toInt ≤ 80 := by rw [hy292]; exact iG283.2.1 171 18 (0, 80) rfl
            show pj_X _ _ G283 140 [(0, .ref 171), (1, .int v1), (2, .int v2), (3, .int v3), (4, .int v4), (5, .int v5)] [] _
            refine pj_X_of (fun r h => pj_R_to (G283, 142, [(0, .ref 171), (1, .int v1), (2, .int v2), (3, .int v3), (4, .int v4), (5, .int v5)], [.ref 171, .ref 171], 0, 0) 142 3 (fun _ => rfl) h) ?_
            refine pj_X_of (fun r h => pj_T_gi iG283 rfl rfl h) ?_
            show pj_X _ _ G283 145 [(0, .ref 171), (1, .int v1), (2, .int v2), (3, .int v3), (4, .int v4), (5, .int v5)] [.int (pj_fi G283 171 35), .ref 171] _
            obtain ⟨y293, hy293⟩ : ∃ z : Int32, z = pj_fi G283 171 35 := ⟨_, rfl⟩
            refine pj_X_eqi hy293.symm ?_
            have ey293 : (pj_fi G283 171 35).toInt = y293.toInt := by rw [hy293]
            refine pj_X_of (fun r h => pj_R_to (G283, 146, [(0, .ref 171), (1, .int v1), (2, .int v2), (3, .int v3), (4, .int v4), (5, .int v5)], [.long y293.toInt64, .ref 171], 0, 0) 146 2 (fun _ => rfl) h) ?_
            have q294 : (pj_fi G283 171 30).toInt = y288.toInt := by rw [show pj_fi G283 171 30 = y288 from hy288.symm]
            have q295 : (pj_fi G283 171 1).toInt = y289.toInt := by rw [show pj_fi G283 171 1 = y289 from hy289.symm]
            have q296 : (pj_fi G283 171 39).toInt = y290.toInt := by rw [show pj_fi G283 171 39 = y290 from hy290.symm]
            have q297 : (pj_fi G283 171 17).toInt = y291.toInt := by rw [show pj_fi G283 171 17 = y291 from hy291.symm]
            have q298 : (pj_fi G283 171 18).toInt = y292.toInt := by rw [show pj_fi G283 171 18 = y292 from hy292.symm]
            have lc299 : (y293.toInt64).toInt = y293.toInt := Int32.toInt_toInt64 _
            refine pj_X_ca (vs := [.ref 171, .long y293.toInt64]) rfl (fun _ => rfl) ⟨Nat.le_of_ble_eq_true rfl, Nat.le_of_ble_eq_true rfl, pj_T_rcv iG283 rfl⟩ ⟨rfl, rfl⟩ (pj_Y_up (by decide) (ct_174x G283 iG283 y293.toInt64 (by omega))) ?_
            rintro _ G301 ⟨rfl, iG301, jG301, eG301, fy300⟩
            replace eG301 := eG301 _ rfl
            have kG301 : pj_kpt kc_231 G0 G301 := pj_kpt_t kG283 (pj_kpt_s jG301 rfl)
            have q302 : (pj_fi G301 171 30).toInt = (pj_fi G283 171 30).toInt := by rw [jG301.1 (171, 30) (by decide)]
            have q303 : (pj_fi G301 171 39).toInt = (pj_fi G283 171 39).toInt := by rw [jG301.1 (171, 39) (by decide)]
            have q304 : (pj_fi G301 171 17).toInt = (pj_fi G283 171 17).toInt := by rw [jG301.1 (171, 17) (by decide)]
            have q305 : (pj_fi G301 171 18).toInt = (pj_fi G283 171 18).toInt := by rw [jG301.1 (171, 18) (by decide)]
            obtain ⟨y306, hy306⟩ : ∃ z : Int32, z = pj_fi G301 171 30 := ⟨_, rfl⟩
            have ey306 : (pj_fi G301 171 30).toInt = y306.toInt := by rw [hy306]
            have ry306 : (0 : Int) ≤ y306.toInt ∧ y306.toInt ≤ 16 := by rw [hy306]; exact iG301.2.1 171 30 (0, 16) rfl
            obtain ⟨y307, hy307⟩ : ∃ z : Int32, z = pj_fi G301 171 1 := ⟨_, rfl⟩
            have ey307 : (pj_fi G301 171 1).toInt = y307.toInt := by rw [hy307]
            have ry307 : (0 : Int) ≤ y307.toInt ∧ y307.toInt ≤ 24 := by rw [hy307]; exact iG301.2.1 171 1 (0, 24) rfl
            obtain ⟨y308, hy308⟩ : ∃ z : Int32, z = pj_fi G301 171 39 := ⟨_, rfl⟩
            have ey308 : (pj_fi G301 171 39).toInt = y308.toInt := by rw [hy308]
            have ry308 : (0 : Int) ≤ y308.toInt ∧ y308.toInt ≤ 60 := by rw [hy308]; exact iG301.2.1 171 39 (0, 60) rfl
            obtain ⟨y309, hy309⟩ : ∃ z : Int32, z = pj_fi G301 171 17 := ⟨_, rfl⟩
            have ey309 : (pj_fi G301 171 17).toInt = y309.toInt := by rw [hy309]
            have ry309 : (0 : Int) ≤ y309.toInt ∧ y309.toInt ≤ 80 := by rw [hy309]; exact iG301.2.1 171 17 (0, 80) rfl
            obtain ⟨y310, hy310⟩ : ∃ z : Int32, z = pj_fi G301 171 18 := ⟨_, rfl⟩
            have ey310 : (pj_fi G301 171 18).toInt = y310.toInt := by rw [hy310]
            have ry310 : (0 : Int) ≤ y310.toInt ∧ y310.toInt ≤ 80 := by rw [hy310]; exact iG301.2.1 171 18 (0, 80) rfl
            show pj_X _ _ G301 149 [(0, .ref 171), (1, .int v1), (2, .int v2), (3, .int v3), (4, .int v4), (5, .int v5)] [] _
            refine pj_X_of (fun r h => pj_R_to (G301, 151, [(0, .ref 171), (1, .int v1), (2, .int v2), (3, .int v3), (4, .int v4), (5, .int v5)], [.int v5], 0, 0) 151 2 (fun _ => rfl) h) ?_
            cases b311 : pj_c1 .le v5 0 with
            | true =>
              have ub311 := pj_u0_leT b311
              refine pj_X_of (fun r h => pj_R_ifT 163 rfl rfl b311 h) ?_
              refine pj_X_of (fun r h => pj_R_to (G301, 164, [(0, .ref 171), (1, .int v1), (2, .int v2), (3, .int v3), (4, .int v4), (5, .int v5)], [.int (Int32.ofInt 0)], 0, 0) 164 2 (fun _ => rfl) h) ?_
              have q312 : (pj_fi G301 171 30).toInt = y306.toInt := by rw [show pj_fi G301 171 30 = y306 from hy306.symm]
              have q313 : (pj_fi G301 171 1).toInt = y307.toInt := by rw [show pj_fi G301 171 1 = y307 from hy307.symm]
              have q314 : (pj_fi G301 171 39).toInt = y308.toInt := by rw [show pj_fi G301 171 39 = y308 from hy308.symm]
              have q315 : (pj_fi G301 171 17).toInt = y309.toInt := by rw [show pj_fi G301 171 17 = y309 from hy309.symm]
              have q316 : (pj_fi G301 171 18).toInt = y310.toInt := by rw [show pj_fi G301 171 18 = y310 from hy310.symm]
              exact pj_X_rt rfl rfl ⟨_, rfl, iG301, kG301, pj_i32 _, by omega⟩
            | false =>
              have ub311 := pj_u0_leF b311
              refine pj_X_of (fun r h => pj_R_ifF rfl b311 h) ?_
              refine pj_X_of (fun r h => pj_R_to (G301, 157, [(0, .ref 171), (1, .int v1), (2, .int v2), (3, .int v3), (4, .int v4), (5, .int v5)], [.int v5, .ref 171], 0, 0) 157 3 (fun _ => rfl) h) ?_
              have q317 : (pj_fi G301 171 30).toInt = y306.toInt := by rw [show pj_fi G301 171 30 = y306 from hy306.symm]
              have q318 : (pj_fi G301 171 1).toInt = y307.toInt := by rw [show pj_fi G301 171 1 = y307 from hy307.symm]
              have q319 : (pj_fi G301 171 39).toInt = y308.toInt := by rw [show pj_fi G301 171 39 = y308 from hy308.symm]
              have q320 : (pj_fi G301 171 17).toInt = y309.toInt := by rw [show pj_fi G301 171 17 = y309 from hy309.symm]
              have q321 : (pj_fi G301 171 18).toInt = y310.toInt := by rw [show pj_fi G301 171 18 = y310 from hy310.symm]
              refine pj_X_ca (vs := [.ref 171, .int v5]) rfl (fun _ => rfl) ⟨Nat.le_of_ble_eq_true rfl, Nat.le_of_ble_eq_true rfl, pj_T_rcv iG301 rfl⟩ ⟨rfl, rfl⟩ (pj_Y_up (by decide) (ct_215x G301 iG301 v5 (by omega))) ?_
              rintro _ G323 ⟨y322, rfl, iG323, jG323, ry322, ey322, fy322⟩
              have kG323 : pj_kpt kc_231 G0 G323 := pj_kpt_t kG301 (pj_kpt_s jG323 rfl)
              have q324 : (pj_fi G323 171 1).toInt = (pj_fi G301 171 1).toInt := by rw [jG323.1 (171, 1) (by decide)]
              have q325 : (pj_fi G323 171 39).toInt = (pj_fi G301 171 39).toInt := by rw [jG323.1 (171, 39) (by decide)]
              have q326 : (pj_fi G323 171 17).toInt = (pj_fi G301 171 17).toInt := by rw [jG323.1 (171, 17) (by decide)]
              have q327 : (pj_fi G323 171 18).toInt = (pj_fi G301 171 18).toInt := by rw [jG323.1 (171, 18) (by decide)]
              obtain ⟨y328, hy328⟩ : ∃ z : Int32, z = pj_fi G323 171 30 := ⟨_, rfl⟩
              have ey328 : (pj_fi G323 171 30).toInt = y328.toInt := by rw [hy328]
              have ry328 : (0 : Int) ≤ y328.toInt ∧ y328.toInt ≤ 16 := by rw [hy328]; exact iG323.2.1 171 30 (0, 16) rfl
              obtain ⟨y329, hy329⟩ : ∃ z : Int32, z = pj_fi G323 171 1 := ⟨_, rfl⟩
              have ey329 : (pj_fi G323 171 1).toInt = y329.toInt := by rw [hy329]
              have ry329 : (0 : Int) ≤ y329.toInt ∧ y329.toInt ≤ 24 := by rw [hy329]; exact iG323.2.1 171 1 (0, 24) rfl
              obtain ⟨y330, hy330⟩ : ∃ z : Int32, z = pj_fi G323 171 39 := ⟨_, rfl⟩
              have ey330 : (pj_fi G323 171 39).toInt = y330.toInt := by rw [hy330]
              have ry330 : (0 : Int) ≤ y330.toInt ∧ y330.toInt ≤ 60 := by rw [hy330]; exact iG323.2.1 171 39 (0, 60) rfl
              obtain ⟨y331, hy331⟩ : ∃ z : Int32, z = pj_fi G323 171 17 := ⟨_, rfl⟩
              have ey331 : (pj_fi G323 171 17).toInt = y331.toInt := by rw [hy331]
              have ry331 : (0 : Int) ≤ y331.toInt ∧ y331.toInt ≤ 80 := by rw [hy331]; exact iG323.2.1 171 17 (0, 80) rfl
              obtain ⟨y332, hy332⟩ : ∃ z : Int32, z = pj_fi G323 171 18 := ⟨_, rfl⟩
              have ey332 : (pj_fi G323 171 18).toInt = y332.toInt := by rw [hy332]
              have ry332 : (0 : Int) ≤ y332.toInt ∧ y332.toInt ≤ 80 := by rw [hy332]; exact iG323.2.1 171 18 (0, 80) rfl
              show pj_X _ _ G323 160 [(0, .ref 171), (1, .int v1), (2, .int v2), (3, .int v3), (4, .int v4), (5, .int v5)] [.int y322] _
              refine pj_X_of (fun r h => pj_R_to (G323, 164, [(0, .ref 171), (1, .int v1), (2, .int v2), (3, .int v3), (4, .int v4), (5, .int v5)], [.int y322], 0, 0) 164 2 (fun _ => rfl) h) ?_
              have q333 : (pj_fi G323 171 30).toInt = y328.toInt := by rw [show pj_fi G323 171 30 = y328 from hy328.symm]
              have q334 : (pj_fi G323 171 1).toInt = y329.toInt := by rw [show pj_fi G323 171 1 = y329 from hy329.symm]
              have q335 : (pj_fi G323 171 39).toInt = y330.toInt := by rw [show pj_fi G323 171 39 = y330 from hy330.symm]
              have q336 : (pj_fi G323 171 17).toInt = y331.toInt := by rw [show pj_fi G323 171 17 = y331 from hy331.symm]
              have q337 : (pj_fi G323 171 18).toInt = y332.toInt := by rw [show pj_fi G323 171 18 = y332 from hy332.symm]
              exact pj_X_rt rfl rfl ⟨_, rfl, iG323, kG323, pj_i32 _, by omega⟩
          | false =>
            have ub269 := pj_u_geF b269
            refine pj_X_of (fun r h => pj_R_icF rfl b269 h) ?_
            refine pj_X_of (fun r h => pj_R_to (G268, 133, [(0, .ref 171), (1, .int v1), (2, .int v2), (3, .int v3), (4, .int v4), (5, .int v5)], [.int (Int32.ofInt 1), .ref 171], 0, 0) 133 3 (fun _ => rfl) h) ?_
            have q338 : (pj_fi G268 171 30).toInt = y262.toInt := by rw [show pj_fi G268 171 30 = y262 from by rw [hG268, pj_fi_wv_ne _ _ _ _ _ _ (by decide)]; exact hy262.symm]
            have q339 : (pj_fi G268 171 1).toInt = (Int32.ofInt 0).toInt := by rw [show pj_fi G268 171 1 = Int32.ofInt 0 from by rw [hG268]; exact pj_fi_wi iG256.1 (ci := 12) rfl _]
            have q340 : (pj_fi G268 171 39).toInt = y264.toInt := by rw [show pj_fi G268 171 39 = y264 from by rw [hG268, pj_fi_wv_ne _ _ _ _ _ _ (by decide)]; exact hy264.symm]
            have q341 : (pj_fi G268 171 17).toInt = y265.toInt := by rw [show pj_fi G268 171 17 = y265 from by rw [hG268, pj_fi_wv_ne _ _ _ _ _ _ (by decide)]; exact hy265.symm]
            have q342 : (pj_fi G268 171 18).toInt = y266.toInt := by rw [show pj_fi G268 171 18 = y266 from by rw [hG268, pj_fi_wv_ne _ _ _ _ _ _ (by decide)]; exact hy266.symm]
            refine pj_X_ca (vs := [.int (Int32.ofInt 1)]) rfl (fun _ => rfl) ⟨Nat.le_of_ble_eq_true rfl, Nat.le_of_ble_eq_true rfl, rfl⟩ ⟨rfl, rfl⟩ (pj_Y_up (by decide) (ct_172x G268 iG268 (Int32.ofInt 1) ⟨by omega, by omega⟩)) ?_
            rintro _ _ ⟨y343, rfl, rfl, ry343, ey343, fy343⟩
            show pj_X _ _ G268 136 [(0, .ref 171), (1, .int v1), (2, .int v2), (3, .int v3), (4, .int v4), (5, .int v5)] [.int y343, .ref 171] _
            refine pj_X_of (fun r h => pj_R_to (G268, 137, [(0, .ref 171), (1, .int v1), (2, .int v2), (3, .int v3), (4, .int v4), (5, .int v5)], [.long y343.toInt64, .ref 171], 0, 0) 137 2 (fun _ => rfl) h) ?_
            have q344 : (pj_fi G268 171 30).toInt = y262.toInt := by rw [show pj_fi G268 171 30 = y262 from by rw [hG268, pj_fi_wv_ne _ _ _ _ _ _ (by decide)]; exact hy262.symm]
            have q345 : (pj_fi G268 171 1).toInt = (Int32.ofInt 0).toInt := by rw [show pj_fi G268 171 1 = Int32.ofInt 0 from by rw [hG268]; exact pj_fi_wi iG256.1 (ci := 12) rfl _]
            have q346 : (pj_fi G268 171 39).toInt = y264.toInt := by rw [show pj_fi G268 171 39 = y264 from by rw [hG268, pj_fi_wv_ne _ _ _ _ _ _ (by decide)]; exact hy264.symm]
            have q347 : (pj_fi G268 171 17).toInt = y265.toInt := by rw [show pj_fi G268 171 17 = y265 from by rw [hG268, pj_fi_wv_ne _ _ _ _ _ _ (by decide)]; exact hy265.symm]
            have q348 : (pj_fi G268 171 18).toInt = y266.toInt := by rw [show pj_fi G268 171 18 = y266 from by rw [hG268, pj_fi_wv_ne _ _ _ _ _ _ (by decide)]; exact hy266.symm]
            have lc349 : (y343.toInt64).toInt = y343.toInt := Int32.toInt_toInt64 _
            refine pj_X_ca (vs := [.ref 171, .long y343.toInt64]) rfl (fun _ => rfl) ⟨Nat.le_of_ble_eq_true rfl, Nat.le_of_ble_eq_true rfl, pj_T_rcv iG268 rfl⟩ ⟨rfl, rfl⟩ (pj_Y_up (by decide) (ct_174x G268 iG268 y343.toInt64 (by omega))) ?_
            rintro _ G351 ⟨rfl, iG351, jG351, eG351, fy350⟩
            replace eG351 := eG351 _ rfl
            have kG351 : pj_kpt kc_231 G0 G351 := pj_kpt_t kG268 (pj_kpt_s jG351 rfl)
            have q352 : (pj_fi G351 171 30).toInt = (pj_fi G268 171 30).toInt := by rw [jG351.1 (171, 30) (by decide)]
            have q353 : (pj_fi G351 171 39).toInt = (pj_fi G268 171 39).toInt := by rw [jG351.1 (171, 39) (by decide)]
            have q354 : (pj_fi G351 171 17).toInt = (pj_fi G268 171 17).toInt := by rw [jG351.1 (171, 17) (by decide)]
            have q355 : (pj_fi G351 171 18).toInt = (pj_fi G268 171 18).toInt := by rw [jG351.1 (171, 18) (by decide)]
            obtain ⟨y356, hy356⟩ : ∃ z : Int32, z = pj_fi G351 171 30 := ⟨_, rfl⟩
            have ey356 : (pj_fi G351 171 30).toInt = y356.toInt := by rw [hy356]
            have ry356 : (0 : Int) ≤ y356.toInt ∧ y356.toInt ≤ 16 := by rw [hy356]; exact iG351.2.1 171 30 (0, 16) rfl
            obtain ⟨y357, hy357⟩ : ∃ z : Int32, z = pj_fi G351 171 1 := ⟨_, rfl⟩
            have ey357 : (pj_fi G351 171 1).toInt = y357.toInt := by rw [hy357]
            have ry357 : (0 : Int) ≤ y357.toInt ∧ y357.toInt ≤ 24 := by rw [hy357]; exact iG351.2.1 171 1 (0, 24) rfl
            obtain ⟨y358, hy358⟩ : ∃ z : Int32, z = pj_fi G351 171 39 := ⟨_, rfl⟩
            have ey358 : (pj_fi G351 171 39).toInt = y358.toInt := by rw [hy358]
            have ry358 : (0 : Int) ≤ y358.toInt ∧ y358.toInt ≤ 60 := by rw [hy358]; exact iG351.2.1 171 39 (0, 60) rfl
            obtain ⟨y359, hy359⟩ : ∃ z : Int32, z = pj_fi G351 171 17 := ⟨_, rfl⟩
            have ey359 : (pj_fi G351 171 17).toInt = y359.toInt := by rw [hy359]
            have ry359 : (0 : Int) ≤ y359.toInt ∧ y359.toInt ≤ 80 := by rw [hy359]; exact iG351.2.1 171 17 (0, 80) rfl
            obtain ⟨y360, hy360⟩ : ∃ z : Int32, z = pj_fi G351 171 18 := ⟨_, rfl⟩
            have ey360 : (pj_fi G351 171 18).toInt = y360.toInt := by rw [hy360]
            have ry360 : (0 : Int) ≤ y360.toInt ∧ y360.toInt ≤ 80 := by rw [hy360]; exact iG351.2.1 171 18 (0, 80) rfl
            show pj_X _ _ G351 140 [(0, .ref 171), (1, .int v1), (2, .int v2), (3, .int v3), (4, .int v4), (5, .int v5)] [] _
            refine pj_X_of (fun r h => pj_R_to (G351, 142, [(0, .ref 171), (1, .int v1), (2, .int v2), (3, .int v3), (4, .int v4), (5, .int v5)], [.ref 171, .ref 171], 0, 0) 142 3 (fun _ => rfl) h) ?_
            refine pj_X_of (fun r h => pj_T_gi iG351 rfl rfl h) ?_
            show pj_X _ _ G351 145 [(0, .ref 171), (1, .int v1), (2, .int v2), (3, .int v3), (4, .int v4), (5, .int v5)] [.int (pj_fi G351 171 35), .ref 171] _
            obtain ⟨y361, hy361⟩ : ∃ z : Int32, z = pj_fi G351 171 35 := ⟨_, rfl⟩
            refine pj_X_eqi hy361.symm ?_
            have ey361 : (pj_fi G351 171 35).toInt = y361.toInt := by rw [hy361]
            refine pj_X_of (fun r h => pj_R_to (G351, 146, [(0, .ref 171), (1, .int v1), (2, .int v2), (3, .int v3), (4, .int v4), (5, .int v5)], [.long y361.toInt64, .ref 171], 0, 0) 146 2 (fun _ => rfl) h) ?_
            have q362 : (pj_fi G351 171 30).toInt = y356.toInt := by rw [show pj_fi G351 171 30 = y356 from hy356.symm]
            have q363 : (pj_fi G351 171 1).toInt = y357.toInt := by rw [show pj_fi G351 171 1 = y357 from hy357.symm]
            have q364 : (pj_fi G351 171 39).toInt = y358.toInt := by rw [show pj_fi G351 171 39 = y358 from hy358.symm]
            have q365 : (pj_fi G351 171 17).toInt = y359.toInt := by rw [show pj_fi G351 171 17 = y359 from hy359.symm]
            have q366 : (pj_fi G351 171 18).toInt = y360.toInt := by rw [show pj_fi G351 171 18 = y360 from hy360.symm]
            have lc367 : (y361.toInt64).toInt = y361.toInt := Int32.toInt_toInt64 _
            refine pj_X_ca (vs := [.ref 171, .long y361.toInt64]) rfl (fun _ => rfl) ⟨Nat.le_of_ble_eq_true rfl, Nat.le_of_ble_eq_true rfl, pj_T_rcv iG351 rfl⟩ ⟨rfl, rfl⟩ (pj_Y_up (by decide) (ct_174x G351 iG351 y361.toInt64 (by omega))) ?_
            rintro _ G369 ⟨rfl, iG369, jG369, eG369, fy368⟩
            replace eG369 := eG369 _ rfl
            have kG369 : pj_kpt kc_231 G0 G369 := pj_kpt_t kG351 (pj_kpt_s jG369 rfl)
            have q370 : (pj_fi G369 171 30).toInt = (pj_fi G351 171 30).toInt := by rw [jG369.1 (171, 30) (by decide)]
            have q371 : (pj_fi G369 171 39).toInt = (pj_fi G351 171 39).toInt := by rw [jG369.1 (171, 39) (by decide)]
            have q372 : (pj_fi G369 171 17).toInt = (pj_fi G351 171 17).toInt := by rw [jG369.1 (171, 17) (by decide)]
            have q373 : (pj_fi G369 171 18).toInt = (pj_fi G351 171 18).toInt := by rw [jG369.1 (171, 18) (by decide)]
            obtain ⟨y374, hy374⟩ : ∃ z : Int32, z = pj_fi G369 171 30 := ⟨_, rfl⟩
            have ey374 : (pj_fi G369 171 30).toInt = y374.toInt := by rw [hy374]
            have ry374 : (0 : Int) ≤ y374.toInt ∧ y374.toInt ≤ 16 := by rw [hy374]; exact iG369.2.1 171 30 (0, 16) rfl
            obtain ⟨y375, hy375⟩ : ∃ z : Int32, z = pj_fi G369 171 1 := ⟨_, rfl⟩
            have ey375 : (pj_fi G369 171 1).toInt = y375.toInt := by rw [hy375]
            have ry375 : (0 : Int) ≤ y375.toInt ∧ y375.toInt ≤ 24 := by rw [hy375]; exact iG369.2.1 171 1 (0, 24) rfl
            obtain ⟨y376, hy376⟩ : ∃ z : Int32, z = pj_fi G369 171 39 := ⟨_, rfl⟩
            have ey376 : (pj_fi G369 171 39).toInt = y376.toInt := by rw [hy376]
            have ry376 : (0 : Int) ≤ y376.toInt ∧ y376.toInt ≤ 60 := by rw [hy376]; exact iG369.2.1 171 39 (0, 60) rfl
            obtain ⟨y377, hy377⟩ : ∃ z : Int32, z = pj_fi G369 171 17 := ⟨_, rfl⟩
            have ey377 : (pj_fi G369 171 17).toInt = y377.toInt := by rw [hy377]
            have ry377 : (0 : Int) ≤ y377.toInt ∧ y377.toInt ≤ 80 := by rw [hy377]; exact iG369.2.1 171 17 (0, 80) rfl
            obtain ⟨y378, hy378⟩ : ∃ z : Int32, z = pj_fi G369 171 18 := ⟨_, rfl⟩
            have ey378 : (pj_fi G369 171 18).toInt = y378.toInt := by rw [hy378]
            have ry378 : (0 : Int) ≤ y378.toInt ∧ y378.toInt ≤ 80 := by rw [hy378]; exact iG369.2.1 171 18 (0, 80) rfl
            show pj_X _ _ G369 149 [(0, .ref 171), (1, .int v1), (2, .int v2), (3, .int v3), (4, .int v4), (5, .int v5)] [] _
            refine pj_X_of (fun r h => pj_R_to (G369, 151, [(0, .ref 171), (1, .int v1), (2, .int v2), (3, .int v3), (4, .int v4), (5, .int v5)], [.int v5], 0, 0) 151 2 (fun _ => rfl) h) ?_
            cases b379 : pj_c1 .le v5 0 with
            | true =>
              have ub379 := pj_u0_leT b379
              refine pj_X_of (fun r h => pj_R_ifT 163 rfl rfl b379 h) ?_
              refine pj_X_of (fun r h => pj_R_to (G369, 164, [(0, .ref 171), (1, .int v1), (2, .int v2), (3, .int v3), (4, .int v4), (5, .int v5)], [.int (Int32.ofInt 0)], 0, 0) 164 2 (fun _ => rfl) h) ?_
              have q380 : (pj_fi G369 171 30).toInt = y374.toInt := by rw [show pj_fi G369 171 30 = y374 from hy374.symm]
              have q381 : (pj_fi G369 171 1).toInt = y375.toInt := by rw [show pj_fi G369 171 1 = y375 from hy375.symm]
              have q382 : (pj_fi G369 171 39).toInt = y376.toInt := by rw [show pj_fi G369 171 39 = y376 from hy376.symm]
              have q383 : (pj_fi G369 171 17).toInt = y377.toInt := by rw [show pj_fi G369 171 17 = y377 from hy377.symm]
              have q384 : (pj_fi G369 171 18).toInt = y378.toInt := by rw [show pj_fi G369 171 18 = y378 from hy378.symm]
              exact pj_X_rt rfl rfl ⟨_, rfl, iG369, kG369, pj_i32 _, by omega⟩
            | false =>
              have ub379 := pj_u0_leF b379
              refine pj_X_of (fun r h => pj_R_ifF rfl b379 h) ?_
              refine pj_X_of (fun r h => pj_R_to (G369, 157, [(0, .ref 171), (1, .int v1), (2, .int v2), (3, .int v3), (4, .int v4), (5, .int v5)], [.int v5, .ref 171], 0, 0) 157 3 (fun _ => rfl) h) ?_
              have q385 : (pj_fi G369 171 30).toInt = y374.toInt := by rw [show pj_fi G369 171 30 = y374 from hy374.symm]
              have q386 : (pj_fi G369 171 1).toInt = y375.toInt := by rw [show pj_fi G369 171 1 = y375 from hy375.symm]
              have q387 : (pj_fi G369 171 39).toInt = y376.toInt := by rw [show pj_fi G369 171 39 = y376 from hy376.symm]
              have q388 : (pj_fi G369 171 17).toInt = y377.toInt := by rw [show pj_fi G369 171 17 = y377 from hy377.symm]
              have q389 : (pj_fi G369 171 18).toInt = y378.toInt := by rw [show pj_fi G369 171 18 = y378 from hy378.symm]
              refine pj_X_ca (vs := [.ref 171, .int v5]) rfl (fun _ => rfl) ⟨Nat.le_of_ble_eq_true rfl, Nat.le_of_ble_eq_true rfl, pj_T_rcv iG369 rfl⟩ ⟨rfl, rfl⟩ (pj_Y_up (by decide) (ct_215x G369 iG369 v5 (by omega))) ?_
              rintro _ G391 ⟨y390, rfl, iG391, jG391, ry390, ey390, fy390⟩
              have kG391 : pj_kpt kc_231 G0 G391 := pj_kpt_t kG369 (pj_kpt_s jG391 rfl)
              have q392 : (pj_fi G391 171 1).toInt = (pj_fi G369 171 1).toInt := by rw [jG391.1 (171, 1) (by decide)]
              have q393 : (pj_fi G391 171 39).toInt = (pj_fi G369 171 39).toInt := by rw [jG391.1 (171, 39) (by decide)]
              have q394 : (pj_fi G391 171 17).toInt = (pj_fi G369 171 17).toInt := by rw [jG391.1 (171, 17) (by decide)]
              have q395 : (pj_fi G391 171 18).toInt = (pj_fi G369 171 18).toInt := by rw [jG391.1 (171, 18) (by decide)]
              obtain ⟨y396, hy396⟩ : ∃ z : Int32, z = pj_fi G391 171 30 := ⟨_, rfl⟩
              have ey396 : (pj_fi G391 171 30).toInt = y396.toInt := by rw [hy396]
              have ry396 : (0 : Int) ≤ y396.toInt ∧ y396.toInt ≤ 16 := by rw [hy396]; exact iG391.2.1 171 30 (0, 16) rfl
              obtain ⟨y397, hy397⟩ : ∃ z : Int32, z = pj_fi G391 171 1 := ⟨_, rfl⟩
              have ey397 : (pj_fi G391 171 1).toInt = y397.toInt := by rw [hy397]
              have ry397 : (0 : Int) ≤ y397.toInt ∧ y397.toInt ≤ 24 := by rw [hy397]; exact iG391.2.1 171 1 (0, 24) rfl
              obtain ⟨y398, hy398⟩ : ∃ z : Int32, z = pj_fi G391 171 39 := ⟨_, rfl⟩
              have ey398 : (pj_fi G391 171 39).toInt = y398.toInt := by rw [hy398]
              have ry398 : (0 : Int) ≤ y398.toInt ∧ y398.toInt ≤ 60 := by rw [hy398]; exact iG391.2.1 171 39 (0, 60) rfl
              obtain ⟨y399, hy399⟩ : ∃ z : Int32, z = pj_fi G391 171 17 := ⟨_, rfl⟩
              have ey399 : (pj_fi G391 171 17).toInt = y399.toInt := by rw [hy399]
              have ry399 : (0 : Int) ≤ y399.toInt ∧ y399.toInt ≤ 80 := by rw [hy399]; exact iG391.2.1 171 17 (0, 80) rfl
              obtain ⟨y400, hy400⟩ : ∃ z : Int32, z = pj_fi G391 171 18 := ⟨_, rfl⟩
              have ey400 : (pj_fi G391 171 18).toInt = y400.toInt := by rw [hy400]
              have ry400 : (0 : Int) ≤ y400.toInt ∧ y400.toInt ≤ 80 := by rw [hy400]; exact iG391.2.1 171 18 (0, 80) rfl
              show pj_X _ _ G391 160 [(0, .ref 171), (1, .int v1), (2, .int v2), (3, .int v3), (4, .int v4), (5, .int v5)] [.int y390] _
              refine pj_X_of (fun r h => pj_R_to (G391, 164, [(0, .ref 171), (1, .int v1), (2, .int v2), (3, .int v3), (4, .int v4), (5, .int v5)], [.int y390], 0, 0) 164 2 (fun _ => rfl) h) ?_
              have q401 : (pj_fi G391 171 30).toInt = y396.toInt := by rw [show pj_fi G391 171 30 = y396 from hy396.symm]
              have q402 : (pj_fi G391 171 1).toInt = y397.toInt := by rw [show pj_fi G391 171 1 = y397 from hy397.symm]
              have q403 : (pj_fi G391 171 39).toInt = y398.toInt := by rw [show pj_fi G391 171 39 = y398 from hy398.symm]
              have q404 : (pj_fi G391 171 17).toInt = y399.toInt := by rw [show pj_fi G391 171 17 = y399 from hy399.symm]
              have q405 : (pj_fi G391 171 18).toInt = y400.toInt := by rw [show pj_fi G391 171 18 = y400 from hy400.symm]
              exact pj_X_rt rfl rfl ⟨_, rfl, iG391, kG391, pj_i32 _, by omega⟩
        | false =>
          have ub267 := pj_u0_eqF b267
          refine pj_X_of (fun r h => pj_R_ifF rfl b267 h) ?_
          refine pj_X_of (fun r h => pj_R_to (G256, 110, [(5, .int (v5 + Int32.ofInt 1)), (0, .ref 171), (1, .int v1), (2, .int v2), (3, .int v3), (4, .int v4)], [], 0, 0) 110 2 (fun _ => rfl) h) ?_
          obtain ⟨z406, hz406⟩ : ∃ z : Int32, z = v5 + Int32.ofInt 1 := ⟨_, rfl⟩
          rw [← hz406]
          have fz406_0 : z406.toInt = v5.toInt + (Int32.ofInt 1).toInt := by rw [hz406]; exact pj_addI (by have := pj_i32 v5; have := pj_i32 (Int32.ofInt 1); omega) (by have := pj_i32 v5; have := pj_i32 (Int32.ofInt 1); omega)
          refine pj_X_of (fun r h => pj_R_to (G256, 89, [(5, .int z406), (0, .ref 171), (1, .int v1), (2, .int v2), (3, .int v3), (4, .int v4)], [], 0, 0) 89 2 (fun _ => rfl) h) ?_
          have q407 : (pj_fi G256 171 30).toInt = y262.toInt := by rw [show pj_fi G256 171 30 = y262 from hy262.symm]
          have q408 : (pj_fi G256 171 1).toInt = y263.toInt := by rw [show pj_fi G256 171 1 = y263 from hy263.symm]
          have q409 : (pj_fi G256 171 39).toInt = y264.toInt := by rw [show pj_fi G256 171 39 = y264 from hy264.symm]
          have q410 : (pj_fi G256 171 17).toInt = y265.toInt := by rw [show pj_fi G256 171 17 = y265 from hy265.symm]
          have q411 : (pj_fi G256 171 18).toInt = y266.toInt := by rw [show pj_fi G256 171 18 = y266 from hy266.symm]
          exact pj_X_sub [(0, .ref 171), (1, .int v1), (2, .int v2), (3, .int v3), (4, .int v4), (5, .int z406)] (show List.Nodup [0, 1, 2, 3, 4, 5] by decide) ⟨rfl, rfl, rfl, rfl, rfl, rfl, trivial⟩ (ih.2 G256 iG256 kG256 v1 v2 v3 v4 z406 (pj_i32 _) (pj_i32 _) (pj_i32 _) (pj_i32 _) ⟨by omega, by omega⟩ (by omega) (by omega))
theorem ct_231 (G0 : pj_G) (hI : pj_Inv G0) (p0_ : pj_RI G0) (p1_ : (pj_fi G0 171 30).toInt ≤ 15) : pj_Y 19 231 [.ref 171] G0 (fun v G' => ∃ y : Int32, v = some (.int y) ∧ pj_Inv G' ∧ pj_kpt kc_231 G0 G' ∧ ((-2147483648 : Int) ≤ y.toInt ∧ y.toInt ≤ 2147483647) ∧ ((pj_fi G' 171 30).toInt ≤ 15)) := by
  have c0_ : ((Int8.ofInt 59).toInt32).toInt = 59 := by decide
  have c1_ : ((Int8.ofInt 60).toInt32).toInt = 60 := by decide
  have c2_ : (Int32.ofInt 0).toInt = 0 := by decide
  have c3_ : (Int32.ofInt 1).toInt = 1 := by decide
  refine pj_Y_X (M := pj_m231) rfl rfl (Nat.le_of_ble_eq_true rfl) ?_
  have hK : pj_kpt kc_231 G0 G0 := pj_kpt_r _ _
  show pj_X _ _ G0 0 [(0, .ref 171)] [] _
  obtain ⟨y412, hy412⟩ : ∃ z : Int32, z = pj_fi G0 171 30 := ⟨_, rfl⟩
  have ey412 : (pj_fi G0 171 30).toInt = y412.toInt := by rw [hy412]
  have ry412 : (0 : Int) ≤ y412.toInt ∧ y412.toInt ≤ 16 := by rw [hy412]; exact hI.2.1 171 30 (0, 16) rfl
  obtain ⟨y413, hy413⟩ : ∃ z : Int32, z = pj_fi G0 171 1 := ⟨_, rfl⟩
  have ey413 : (pj_fi G0 171 1).toInt = y413.toInt := by rw [hy413]
  have ry413 : (0 : Int) ≤ y413.toInt ∧ y413.toInt ≤ 24 := by rw [hy413]; exact hI.2.1 171 1 (0, 24) rfl
  obtain ⟨y414, hy414⟩ : ∃ z : Int32, z = pj_fi G0 171 39 := ⟨_, rfl⟩
  have ey414 : (pj_fi G0 171 39).toInt = y414.toInt := by rw [hy414]
  have ry414 : (0 : Int) ≤ y414.toInt ∧ y414.toInt ≤ 60 := by rw [hy414]; exact hI.2.1 171 39 (0, 60) rfl
  obtain ⟨y415, hy415⟩ : ∃ z : Int32, z = pj_fi G0 171 17 := ⟨_, rfl⟩
  have ey415 : (pj_fi G0 171 17).toInt = y415.toInt := by rw [hy415]
  have ry415 : (0 : Int) ≤ y415.toInt ∧ y415.toInt ≤ 80 := by rw [hy415]; exact hI.2.1 171 17 (0, 80) rfl
  obtain ⟨y416, hy416⟩ : ∃ z : Int32, z = pj_fi G0 171 18 := ⟨_, rfl⟩
  have ey416 : (pj_fi G0 171 18).toInt = y416.toInt := by rw [hy416]
  have ry416 : (0 : Int) ≤ y416.toInt ∧ y416.toInt ≤ 80 := by rw [hy416]; exact hI.2.1 171 18 (0, 80) rfl
  refine pj_X_of (fun r h => pj_R_to (G0, 2, [(0, .ref 171)], [.int (Int32.ofInt 0), .ref 171], 0, 0) 2 3 (fun _ => rfl) h) ?_
  refine pj_X_of (fun r h => pj_T_pf hI rfl rfl rfl h) ?_
  show pj_X _ _ (pj_wv G0 171 0 (.int (Int32.ofInt 0))) 5 [(0, .ref 171)] [] _
  obtain ⟨G417, hG417⟩ : ∃ H, H = pj_wv G0 171 0 (.int (Int32.ofInt 0)) := ⟨_, rfl⟩
  have iG417 : pj_Inv G417 := by rw [hG417]; exact pj_Inv_wi hI (ci := 12) rfl (fun q hq => by cases hq)
  have kG417 : pj_kpt kc_231 G0 G417 := by rw [hG417]; exact pj_kpt_v hK rfl
  rw [← hG417]
  refine pj_X_of (fun r h => pj_R_to (G417, 8, [(0, .ref 171)], [.int ((Int8.ofInt 60).toInt32), .ref 171], 0, 0) 8 3 (fun _ => rfl) h) ?_
  have q418 : (pj_fi G417 171 30).toInt = y412.toInt := by rw [show pj_fi G417 171 30 = y412 from by rw [hG417, pj_fi_wv_ne _ _ _ _ _ _ (by decide)]; exact hy412.symm]
  have q419 : (pj_fi G417 171 1).toInt = y413.toInt := by rw [show pj_fi G417 171 1 = y413 from by rw [hG417, pj_fi_wv_ne _ _ _ _ _ _ (by decide)]; exact hy413.symm]
  have q420 : (pj_fi G417 171 39).toInt = y414.toInt := by rw [show pj_fi G417 171 39 = y414 from by rw [hG417, pj_fi_wv_ne _ _ _ _ _ _ (by decide)]; exact hy414.symm]
  have q421 : (pj_fi G417 171 17).toInt = y415.toInt := by rw [show pj_fi G417 171 17 = y415 from by rw [hG417, pj_fi_wv_ne _ _ _ _ _ _ (by decide)]; exact hy415.symm]
  have q422 : (pj_fi G417 171 18).toInt = y416.toInt := by rw [show pj_fi G417 171 18 = y416 from by rw [hG417, pj_fi_wv_ne _ _ _ _ _ _ (by decide)]; exact hy416.symm]
  refine pj_X_ca (vs := [.ref 171, .int ((Int8.ofInt 60).toInt32)]) rfl (fun _ => rfl) ⟨Nat.le_of_ble_eq_true rfl, Nat.le_of_ble_eq_true rfl, pj_T_rcv iG417 rfl⟩ ⟨rfl, rfl⟩ (pj_Y_up (by decide) (ct_181 G417 iG417 ((Int8.ofInt 60).toInt32) ⟨by omega, by omega⟩)) ?_
  rintro _ G424 ⟨y423, rfl, iG424, jG424, ry423, ey423⟩
  have kG424 : pj_kpt kc_231 G0 G424 := pj_kpt_t kG417 (pj_kpt_s jG424 rfl)
  have q425 : (pj_fi G424 171 30).toInt = (pj_fi G417 171 30).toInt := by rw [jG424.1 (171, 30) (by decide)]
  have q426 : (pj_fi G424 171 1).toInt = (pj_fi G417 171 1).toInt := by rw [jG424.1 (171, 1) (by decide)]
  have q427 : (pj_fi G424 171 39).toInt = (pj_fi G417 171 39).toInt := by rw [jG424.1 (171, 39) (by decide)]
  obtain ⟨y428, hy428⟩ : ∃ z : Int32, z = pj_fi G424 171 30 := ⟨_, rfl⟩
  have ey428 : (pj_fi G424 171 30).toInt = y428.toInt := by rw [hy428]
  have ry428 : (0 : Int) ≤ y428.toInt ∧ y428.toInt ≤ 16 := by rw [hy428]; exact iG424.2.1 171 30 (0, 16) rfl
  obtain ⟨y429, hy429⟩ : ∃ z : Int32, z = pj_fi G424 171 1 := ⟨_, rfl⟩
  have ey429 : (pj_fi G424 171 1).toInt = y429.toInt := by rw [hy429]
  have ry429 : (0 : Int) ≤ y429.toInt ∧ y429.toInt ≤ 24 := by rw [hy429]; exact iG424.2.1 171 1 (0, 24) rfl
  obtain ⟨y430, hy430⟩ : ∃ z : Int32, z = pj_fi G424 171 39 := ⟨_, rfl⟩
  have ey430 : (pj_fi G424 171 39).toInt = y430.toInt := by rw [hy430]
  have ry430 : (0 : Int) ≤ y430.toInt ∧ y430.toInt ≤ 60 := by rw [hy430]; exact iG424.2.1 171 39 (0, 60) rfl
  obtain ⟨y431, hy431⟩ : ∃ z : Int32, z = pj_fi G424 171 17 := ⟨_, rfl⟩
  have ey431 : (pj_fi G424 171 17).toInt = y431.toInt := by rw [hy431]
  have ry431 : (0 : Int) ≤ y431.toInt ∧ y431.toInt ≤ 80 := by rw [hy431]; exact iG424.2.1 171 17 (0, 80) rfl
  obtain ⟨y432, hy432⟩ : ∃ z : Int32, z = pj_fi G424 171 18 := ⟨_, rfl⟩
  have ey432 : (pj_fi G424 171 18).toInt = y432.toInt := by rw [hy432]
  have ry432 : (0 : Int) ≤ y432.toInt ∧ y432.toInt ≤ 80 := by rw [hy432]; exact iG424.2.1 171 18 (0, 80) rfl
  show pj_X _ _ G424 11 [(0, .ref 171)] [.int y423] _
  refine pj_X_of (fun r h => pj_R_to (G424, 14, [(1, .int y423), (0, .ref 171)], [.int (Int32.ofInt 0), .ref 171], 0, 0) 14 4 (fun _ => rfl) h) ?_
  refine pj_X_of (fun r h => pj_T_pf iG424 rfl rfl rfl h) ?_
  show pj_X _ _ (pj_wv G424 171 39 (.int (Int32.ofInt 0))) 17 [(1, .int y423), (0, .ref 171)] [] _
  obtain ⟨G433, hG433⟩ : ∃ H, H = pj_wv G424 171 39 (.int (Int32.ofInt 0)) := ⟨_, rfl⟩
  have iG433 : pj_Inv G433 := by rw [hG433]; exact pj_Inv_wi iG424 (ci := 12) rfl (fun q hq => by cases hq; exact ⟨by show (0 : Int) ≤ _; omega, by show _ ≤ (60 : Int); omega⟩)
  have kG433 : pj_kpt kc_231 G0 G433 := by rw [hG433]; exact pj_kpt_v kG424 rfl
  rw [← hG433]
  refine pj_X_of (fun r h => pj_R_to (G433, 20, [(2, .int (Int32.ofInt 1)), (1, .int y423), (0, .ref 171)], [.int y423], 0, 0) 20 4 (fun _ => rfl) h) ?_
  cases b434 : pj_c1 .le y423 0 with
  | true =>
    have ub434 := pj_u0_leT b434
    refine pj_X_of (fun r h => pj_R_ifT 27 rfl rfl b434 h) ?_
    refine pj_X_of (fun r h => pj_R_to (G433, 29, [(3, .int (Int32.ofInt 0)), (2, .int (Int32.ofInt 1)), (1, .int y423), (0, .ref 171)], [], 0, 0) 29 3 (fun _ => rfl) h) ?_
    have q435 : (pj_fi G433 171 30).toInt = y428.toInt := by rw [show pj_fi G433 171 30 = y428 from by rw [hG433, pj_fi_wv_ne _ _ _ _ _ _ (by decide)]; exact hy428.symm]
    have q436 : (pj_fi G433 171 1).toInt = y429.toInt := by rw [show pj_fi G433 171 1 = y429 from by rw [hG433, pj_fi_wv_ne _ _ _ _ _ _ (by decide)]; exact hy429.symm]
    have q437 : (pj_fi G433 171 39).toInt = (Int32.ofInt 0).toInt := by rw [show pj_fi G433 171 39 = Int32.ofInt 0 from by rw [hG433]; exact pj_fi_wi iG424.1 (ci := 12) rfl _]
    have q438 : (pj_fi G433 171 17).toInt = y431.toInt := by rw [show pj_fi G433 171 17 = y431 from by rw [hG433, pj_fi_wv_ne _ _ _ _ _ _ (by decide)]; exact hy431.symm]
    have q439 : (pj_fi G433 171 18).toInt = y432.toInt := by rw [show pj_fi G433 171 18 = y432 from by rw [hG433, pj_fi_wv_ne _ _ _ _ _ _ (by decide)]; exact hy432.symm]
    exact pj_X_sub [(0, .ref 171), (1, .int y423), (2, .int (Int32.ofInt 1)), (3, .int (Int32.ofInt 0))] (show List.Nodup [0, 1, 2, 3] by decide) ⟨rfl, rfl, rfl, rfl, trivial⟩ ((lp_ct_231 G0 hI   p0_ p1_ 263).1 G433 iG433 kG433 y423 (Int32.ofInt 1) (Int32.ofInt 0) ⟨by omega, by omega⟩ ⟨by omega, by omega⟩ ⟨by omega, by omega⟩ (by omega) (by omega) (by omega) (by omega) (by omega))
  | false =>
    have ub434 := pj_u0_leF b434
    refine pj_X_of (fun r h => pj_R_ifF rfl b434 h) ?_
    refine pj_X_of (fun r h => pj_R_to (G433, 29, [(3, .int (Int32.ofInt 1)), (2, .int (Int32.ofInt 1)), (1, .int y423), (0, .ref 171)], [], 0, 0) 29 4 (fun _ => rfl) h) ?_
    have q440 : (pj_fi G433 171 30).toInt = y428.toInt := by rw [show pj_fi G433 171 30 = y428 from by rw [hG433, pj_fi_wv_ne _ _ _ _ _ _ (by decide)]; exact hy428.symm]
    have q441 : (pj_fi G433 171 1).toInt = y429.toInt := by rw [show pj_fi G433 171 1 = y429 from by rw [hG433, pj_fi_wv_ne _ _ _ _ _ _ (by decide)]; exact hy429.symm]
    have q442 : (pj_fi G433 171 39).toInt = (Int32.ofInt 0).toInt := by rw [show pj_fi G433 171 39 = Int32.ofInt 0 from by rw [hG433]; exact pj_fi_wi iG424.1 (ci := 12) rfl _]
    have q443 : (pj_fi G433 171 17).toInt = y431.toInt := by rw [show pj_fi G433 171 17 = y431 from by rw [hG433, pj_fi_wv_ne _ _ _ _ _ _ (by decide)]; exact hy431.symm]
    have q444 : (pj_fi G433 171 18).toInt = y432.toInt := by rw [show pj_fi G433 171 18 = y432 from by rw [hG433, pj_fi_wv_ne _ _ _ _ _ _ (by decide)]; exact hy432.symm]
    exact pj_X_sub [(0, .ref 171), (1, .int y423), (2, .int (Int32.ofInt 1)), (3, .int (Int32.ofInt 1))] (show List.Nodup [0, 1, 2, 3] by decide) ⟨rfl, rfl, rfl, rfl, trivial⟩ ((lp_ct_231 G0 hI   p0_ p1_ 263).1 G433 iG433 kG433 y423 (Int32.ofInt 1) (Int32.ofInt 1) ⟨by omega, by omega⟩ ⟨by omega, by omega⟩ ⟨by omega, by omega⟩ (by omega) (by omega) (by omega) (by omega) (by omega))
def kc_234 : pj_KT := ([(171, 0), (171, 1)], [171, 172], [])
theorem ct_234 (G0 : pj_G) (hI : pj_Inv G0) (bk : Int32) : pj_Y 5 234 [.ref 171, .int bk] G0 (fun v G' => ∃ y : Int32, v = some (.int y) ∧ pj_Inv G' ∧ pj_kpt kc_234 G0 G' ∧ ((-2147483648 : Int) ≤ y.toInt ∧ y.toInt ≤ 2147483647)) := by
  have c0_ : (Int32.ofInt (-1)).toInt = -1 := by decide
  have c1_ : (Int32.ofInt 0).toInt = 0 := by decide
  have c2_ : (Int32.ofInt 1).toInt = 1 := by decide
  refine pj_Y_X (M := pj_m234) rfl rfl (Nat.le_of_ble_eq_true rfl) ?_
  have hK : pj_kpt kc_234 G0 G0 := pj_kpt_r _ _
  show pj_X _ _ G0 0 [(0, .ref 171), (1, .int bk)] [] _
  obtain ⟨y1, hy1⟩ : ∃ z : Int32, z = pj_fi G0 171 1 := ⟨_, rfl⟩
  have ey1 : (pj_fi G0 171 1).toInt = y1.toInt := by rw [hy1]
  have ry1 : (0 : Int) ≤ y1.toInt ∧ y1.toInt ≤ 24 := by rw [hy1]; exact hI.2.1 171 1 (0, 24) rfl
  refine pj_X_of (fun r h => pj_R_to (G0, 2, [(0, .ref 171), (1, .int bk)], [.int (Int32.ofInt 0), .ref 171], 0, 0) 2 3 (fun _ => rfl) h) ?_
  refine pj_X_of (fun r h => pj_T_pf hI rfl rfl rfl h) ?_
  show pj_X _ _ (pj_wv G0 171 0 (.int (Int32.ofInt 0))) 5 [(0, .ref 171), (1, .int bk)] [] _
  obtain ⟨G2, hG2⟩ : ∃ H, H = pj_wv G0 171 0 (.int (Int32.ofInt 0)) := ⟨_, rfl⟩
  have iG2 : pj_Inv G2 := by rw [hG2]; exact pj_Inv_wi hI (ci := 12) rfl (fun q hq => by cases hq)
  have kG2 : pj_kpt kc_234 G0 G2 := by rw [hG2]; exact pj_kpt_v hK rfl
  rw [← hG2]
  refine pj_X_of (fun r h => pj_R_to (G2, 7, [(0, .ref 171), (1, .int bk)], [.int bk, .ref 171], 0, 0) 7 3 (fun _ => rfl) h) ?_
  have q3 : (pj_fi G2 171 1).toInt = y1.toInt := by rw [show pj_fi G2 171 1 = y1 from by rw [hG2, pj_fi_wv_ne _ _ _ _ _ _ (by decide)]; exact hy1.symm]
  refine pj_X_ca (vs := [.ref 171, .int bk]) rfl (fun _ => rfl) ⟨Nat.le_of_ble_eq_true rfl, Nat.le_of_ble_eq_true rfl, pj_T_rcv iG2 rfl⟩ ⟨rfl, rfl⟩ (pj_Y_up (by decide) (ct_175x G2 iG2 bk)) ?_
  rintro _ _ ⟨y4, rfl, rfl, ry4, ey4, fy4⟩
  replace ey4 := ey4 _ rfl
  show pj_X _ _ G2 10 [(0, .ref 171), (1, .int bk)] [.int y4] _
  cases b5 : pj_c1 .ne y4 0 with
  | true =>
    have ub5 := pj_u0_neT b5
    refine pj_X_of (fun r h => pj_R_ifT 15 rfl rfl b5 h) ?_
    refine pj_X_of (fun r h => pj_R_to (G2, 17, [(0, .ref 171), (1, .int bk)], [.int (Int32.ofInt 0), .ref 171], 0, 0) 17 3 (fun _ => rfl) h) ?_
    refine pj_X_of (fun r h => pj_T_pf iG2 rfl rfl rfl h) ?_
    show pj_X _ _ (pj_wv G2 171 1 (.int (Int32.ofInt 0))) 20 [(0, .ref 171), (1, .int bk)] [] _
    obtain ⟨G6, hG6⟩ : ∃ H, H = pj_wv G2 171 1 (.int (Int32.ofInt 0)) := ⟨_, rfl⟩
    have iG6 : pj_Inv G6 := by rw [hG6]; exact pj_Inv_wi iG2 (ci := 12) rfl (fun q hq => by cases hq; exact ⟨by show (0 : Int) ≤ _; omega, by show _ ≤ (24 : Int); omega⟩)
    have kG6 : pj_kpt kc_234 G0 G6 := by rw [hG6]; exact pj_kpt_v kG2 rfl
    rw [← hG6]
    refine pj_X_of (fun r h => pj_R_to (G6, 25, [(0, .ref 171), (1, .int bk)], [.int (Int32.ofInt 0), .int (Int32.ofInt 0), .ref 171, .ref 171, .ref 171], 0, 0) 25 6 (fun _ => rfl) h) ?_
    have q7 : (pj_fi G6 171 1).toInt = (Int32.ofInt 0).toInt := by rw [show pj_fi G6 171 1 = Int32.ofInt 0 from by rw [hG6]; exact pj_fi_wi iG2.1 (ci := 12) rfl _]
    refine pj_X_ca (vs := [.ref 171, .int (Int32.ofInt 0), .int (Int32.ofInt 0)]) rfl (fun _ => rfl) ⟨Nat.le_of_ble_eq_true rfl, Nat.le_of_ble_eq_true rfl, pj_T_rcv iG6 rfl⟩ ⟨rfl, rfl⟩ (pj_Y_up (by decide) (ct_206x G6 iG6 (Int32.ofInt 0) (Int32.ofInt 0))) ?_
    rintro _ _ ⟨y8, rfl, rfl, ry8, ey8, fy8⟩
    replace ey8 := ey8 _ rfl
    show pj_X _ _ G6 28 [(0, .ref 171), (1, .int bk)] [.int y8, .ref 171, .ref 171] _
    have q9 : (pj_fi G6 171 1).toInt = (Int32.ofInt 0).toInt := by rw [show pj_fi G6 171 1 = Int32.ofInt 0 from by rw [hG6]; exact pj_fi_wi iG2.1 (ci := 12) rfl _]
    refine pj_X_ca (vs := [.ref 171, .int y8]) rfl (fun _ => rfl) ⟨Nat.le_of_ble_eq_true rfl, Nat.le_of_ble_eq_true rfl, pj_T_rcv iG6 rfl⟩ ⟨rfl, rfl⟩ (pj_Y_up (by decide) (ct_209 G6 iG6 y8)) ?_
    rintro _ _ ⟨y10, rfl, rfl, ry10⟩
    show pj_X _ _ G6 31 [(0, .ref 171), (1, .int bk)] [.int y10, .ref 171] _
    refine pj_X_of (fun r h => pj_R_to (G6, 32, [(0, .ref 171), (1, .int bk)], [.long y10.toInt64, .ref 171], 0, 0) 32 2 (fun _ => rfl) h) ?_
    have q11 : (pj_fi G6 171 1).toInt = (Int32.ofInt 0).toInt := by rw [show pj_fi G6 171 1 = Int32.ofInt 0 from by rw [hG6]; exact pj_fi_wi iG2.1 (ci := 12) rfl _]
    have lc12 : (y10.toInt64).toInt = y10.toInt := Int32.toInt_toInt64 _
    refine pj_X_ca (vs := [.ref 171, .long y10.toInt64]) rfl (fun _ => rfl) ⟨Nat.le_of_ble_eq_true rfl, Nat.le_of_ble_eq_true rfl, pj_T_rcv iG6 rfl⟩ ⟨rfl, rfl⟩ (pj_Y_up (by decide) (ct_174x G6 iG6 y10.toInt64 (by omega))) ?_
    rintro _ G14 ⟨rfl, iG14, jG14, eG14, fy13⟩
    replace eG14 := eG14 _ rfl
    have kG14 : pj_kpt kc_234 G0 G14 := pj_kpt_t kG6 (pj_kpt_s jG14 rfl)
    obtain ⟨y15, hy15⟩ : ∃ z : Int32, z = pj_fi G14 171 1 := ⟨_, rfl⟩
    have ey15 : (pj_fi G14 171 1).toInt = y15.toInt := by rw [hy15]
    have ry15 : (0 : Int) ≤ y15.toInt ∧ y15.toInt ≤ 24 := by rw [hy15]; exact iG14.2.1 171 1 (0, 24) rfl
    show pj_X _ _ G14 35 [(0, .ref 171), (1, .int bk)] [] _
    refine pj_X_of (fun r h => pj_R_to (G14, 39, [(0, .ref 171), (1, .int bk)], [.int ((Int32.ofInt 1) <<< (bk &&& 31)), .ref 171], 0, 0) 39 5 (fun _ => rfl) h) ?_
    obtain ⟨z16, hz16⟩ : ∃ z : Int32, z = (Int32.ofInt 1) <<< (bk &&& 31) := ⟨_, rfl⟩
    refine pj_X_eqi hz16.symm ?_
    have fz16_0 : 1 ≤ z16.toInt ∧ z16.toInt ≤ 128 := by rw [hz16]; exact pj_shlI7 (by omega) (by omega)
    refine pj_X_of (fun r h => pj_R_to (G14, 42, [(0, .ref 171), (1, .int bk)], [.int (Int32.ofInt 0), .int (Int32.ofInt 0), .ref 171, .int z16, .ref 171], 0, 0) 42 4 (fun _ => rfl) h) ?_
    have q17 : (pj_fi G14 171 1).toInt = y15.toInt := by rw [show pj_fi G14 171 1 = y15 from hy15.symm]
    refine pj_X_ca (vs := [.ref 171, .int (Int32.ofInt 0), .int (Int32.ofInt 0)]) rfl (fun _ => rfl) ⟨Nat.le_of_ble_eq_true rfl, Nat.le_of_ble_eq_true rfl, pj_T_rcv iG14 rfl⟩ ⟨rfl, rfl⟩ (pj_Y_up (by decide) (ct_206x G14 iG14 (Int32.ofInt 0) (Int32.ofInt 0))) ?_
    rintro _ _ ⟨y18, rfl, rfl, ry18, ey18, fy18⟩
    replace ey18 := ey18 _ rfl
    show pj_X _ _ G14 45 [(0, .ref 171), (1, .int bk)] [.int y18, .int z16, .ref 171] _
    have q19 : (pj_fi G14 171 1).toInt = y15.toInt := by rw [show pj_fi G14 171 1 = y15 from hy15.symm]
    refine pj_X_ca (vs := [.ref 171, .int z16, .int y18]) rfl (fun _ => rfl) ⟨Nat.le_of_ble_eq_true rfl, Nat.le_of_ble_eq_true rfl, pj_T_rcv iG14 rfl⟩ ⟨rfl, rfl⟩ (pj_Y_up (by decide) (ct_208 G14 iG14 z16 y18)) ?_
    rintro _ _ ⟨y20, rfl, rfl, ry20⟩
    show pj_X _ _ G14 48 [(0, .ref 171), (1, .int bk)] [.int y20] _
    have q21 : (pj_fi G14 171 1).toInt = y15.toInt := by rw [show pj_fi G14 171 1 = y15 from hy15.symm]
    exact pj_X_rt rfl rfl ⟨_, rfl, iG14, kG14, pj_i32 _⟩
  | false =>
    have ub5 := pj_u0_neF b5
    refine pj_X_of (fun r h => pj_R_ifF rfl b5 h) ?_
    refine pj_X_of (fun r h => pj_R_to (G2, 14, [(0, .ref 171), (1, .int bk)], [.int (Int32.ofInt (-1))], 0, 0) 14 2 (fun _ => rfl) h) ?_
    have q22 : (pj_fi G2 171 1).toInt = y1.toInt := by rw [show pj_fi G2 171 1 = y1 from by rw [hG2, pj_fi_wv_ne _ _ _ _ _ _ (by decide)]; exact hy1.symm]
    exact pj_X_rt rfl rfl ⟨_, rfl, iG2, kG2, pj_i32 _⟩
def kc_235 : pj_KT := ([(171, 0)], [171], [])
theorem lp_ct_235 (G0 : pj_G) (hI0 : pj_Inv G0) (p : Int32) (bk : Int32) : ∀ mn : Nat, (∀ (G : pj_G) (hI : pj_Inv G) (hK : pj_kpt kc_235 G0 G) (v3 : Int32) (v4 : Int32), ((-2147483648 : Int) ≤ v3.toInt ∧ v3.toInt ≤ 2147483647) → ((0 : Int) ≤ v4.toInt ∧ v4.toInt ≤ 100) → (0 ≤ p.toInt ∧ p.toInt ≤ 5) → 100 - v4.toInt < (mn : Int) → pj_X 3 pj_m235 G 38 [(0, .ref 171), (1, .int p), (2, .int bk), (3, .int v3), (4, .int v4)] [] (fun v G' => ∃ y : Int32, v = some (.int y) ∧ pj_Inv G' ∧ pj_kpt kc_235 G0 G' ∧ ((-2147483648 : Int) ≤ y.toInt ∧ y.toInt ≤ 2147483647))) := by
  have c0_ : ((Int8.ofInt (-2)).toInt32).toInt = -2 := by decide
  have c1_ : ((Int8.ofInt 24).toInt32).toInt = 24 := by decide
  have c2_ : ((Int8.ofInt 99).toInt32).toInt = 99 := by decide
  have c3_ : (Int32.ofInt (-1)).toInt = -1 := by decide
  have c4_ : (Int32.ofInt 0).toInt = 0 := by decide
  have c5_ : (Int32.ofInt 1).toInt = 1 := by decide
  intro mn
  induction mn with
  | zero =>
    intro G hI hK v3 v4 rv3 rv4 x0_ hm
    exfalso
    omega
  | succ mn ih =>
    intro G hI hK v3 v4 rv3 rv4 x0_ hm
    refine pj_X_of (fun r h => pj_R_to (G, 42, [(0, .ref 171), (1, .int p), (2, .int bk), (3, .int v3), (4, .int v4)], [.int ((Int8.ofInt 99).toInt32), .int v4], 0, 0) 42 3 (fun _ => rfl) h) ?_
    cases b1 : pj_c1 .gt v4 ((Int8.ofInt 99).toInt32) with
    | true =>
      have ub1 := pj_u_gtT b1
      refine pj_X_of (fun r h => pj_R_icT 80 rfl rfl b1 h) ?_
      refine pj_X_of (fun r h => pj_R_to (G, 82, [(0, .ref 171), (1, .int p), (2, .int bk), (3, .int v3), (4, .int v4)], [.int ((Int8.ofInt (-2)).toInt32)], 0, 0) 82 2 (fun _ => rfl) h) ?_
      exact pj_X_rt rfl rfl ⟨_, rfl, hI, hK, pj_i32 _⟩
    | false =>
      have ub1 := pj_u_gtF b1
      refine pj_X_of (fun r h => pj_R_icF rfl b1 h) ?_
      refine pj_X_of (fun r h => pj_R_to (G, 47, [(0, .ref 171), (1, .int p), (2, .int bk), (3, .int v3), (4, .int v4)], [.int bk, .int v3], 0, 0) 47 3 (fun _ => rfl) h) ?_
      refine pj_X_ca (vs := [.int v3, .int bk]) rfl (fun _ => rfl) ⟨Nat.le_of_ble_eq_true rfl, Nat.le_of_ble_eq_true rfl, rfl⟩ ⟨rfl, rfl⟩ (pj_Y_up (by decide) (ct_171bx G hI v3 bk)) ?_
      rintro _ _ ⟨y2, rfl, rfl, ry2, ey2, fy2⟩
      show pj_X _ _ G 50 [(0, .ref 171), (1, .int p), (2, .int bk), (3, .int v3), (4, .int v4)] [.int y2] _
      cases b3 : pj_c1 .eq y2 0 with
      | true =>
        have ub3 := pj_u0_eqT b3
        refine pj_X_of (fun r h => pj_R_ifT 56 rfl rfl b3 h) ?_
        refine pj_X_of (fun r h => pj_R_to (G, 62, [(0, .ref 171), (1, .int p), (2, .int bk), (3, .int v3), (4, .int v4)], [.ref 171, .int v4, .ref 171, .int v3, .ref 171], 0, 0) 62 6 (fun _ => rfl) h) ?_
        refine pj_X_of (fun r h => pj_T_gr hI rfl rfl rfl h) ?_
        refine pj_X_of (fun r h => pj_R_to (G, 66, [(0, .ref 171), (1, .int p), (2, .int bk), (3, .int v3), (4, .int v4)], [.int p, .ref 178, .int v4, .ref 171, .int v3, .ref 171], 0, 0) 66 2 (fun _ => rfl) h) ?_
        refine pj_X_of (fun r h => pj_T_il hI rfl rfl (by omega) (by omega) h) ?_
        show pj_X _ _ G 67 [(0, .ref 171), (1, .int p), (2, .int bk), (3, .int v3), (4, .int v4)] [.int (pj_ai G 178 p.toInt.toNat), .int v4, .ref 171, .int v3, .ref 171] _
        obtain ⟨z4, hz4⟩ : ∃ z : Int32, z = pj_ai G 178 p.toInt.toNat := ⟨_, rfl⟩
        refine pj_X_eqi hz4.symm ?_
        have ez4 : (pj_ai G 178 p.toInt.toNat).toInt = z4.toInt := by rw [hz4]
        refine pj_X_ca (vs := [.ref 171, .int v4, .int z4]) rfl (fun _ => rfl) ⟨Nat.le_of_ble_eq_true rfl, Nat.le_of_ble_eq_true rfl, pj_T_rcv hI rfl⟩ ⟨rfl, rfl⟩ (pj_Y_up (by decide) (ct_206x G hI v4 z4)) ?_
        rintro _ _ ⟨y5, rfl, rfl, ry5, ey5, fy5⟩
        replace ey5 := ey5 _ rfl
        show pj_X _ _ G 70 [(0, .ref 171), (1, .int p), (2, .int bk), (3, .int v3), (4, .int v4)] [.int y5, .int v3, .ref 171] _
        refine pj_X_ca (vs := [.ref 171, .int v3, .int y5]) rfl (fun _ => rfl) ⟨Nat.le_of_ble_eq_true rfl, Nat.le_of_ble_eq_true rfl, pj_T_rcv hI rfl⟩ ⟨rfl, rfl⟩ (pj_Y_up (by decide) (ct_207 G hI v3 y5)) ?_
        rintro _ _ ⟨y6, rfl, rfl, ry6⟩
        show pj_X _ _ G 73 [(0, .ref 171), (1, .int p), (2, .int bk), (3, .int v3), (4, .int v4)] [.int y6] _
        refine pj_X_of (fun r h => pj_R_to (G, 77, [(4, .int (v4 + Int32.ofInt 1)), (3, .int y6), (0, .ref 171), (1, .int p), (2, .int bk)], [], 0, 0) 77 3 (fun _ => rfl) h) ?_
        obtain ⟨z7, hz7⟩ : ∃ z : Int32, z = v4 + Int32.ofInt 1 := ⟨_, rfl⟩
        rw [← hz7]
        have fz7_0 : z7.toInt = v4.toInt + (Int32.ofInt 1).toInt := by rw [hz7]; exact pj_addI (by have := pj_i32 v4; have := pj_i32 (Int32.ofInt 1); omega) (by have := pj_i32 v4; have := pj_i32 (Int32.ofInt 1); omega)
        refine pj_X_of (fun r h => pj_R_to (G, 38, [(4, .int z7), (3, .int y6), (0, .ref 171), (1, .int p), (2, .int bk)], [], 0, 0) 38 2 (fun _ => rfl) h) ?_
        exact pj_X_sub [(0, .ref 171), (1, .int p), (2, .int bk), (3, .int y6), (4, .int z7)] (show List.Nodup [0, 1, 2, 3, 4] by decide) ⟨rfl, rfl, rfl, rfl, rfl, trivial⟩ (ih G hI hK y6 z7 (pj_i32 _) ⟨by omega, by omega⟩ (by omega) (by omega))
      | false =>
        have ub3 := pj_u0_eqF b3
        refine pj_X_of (fun r h => pj_R_ifF rfl b3 h) ?_
        refine pj_X_of (fun r h => pj_R_to (G, 55, [(0, .ref 171), (1, .int p), (2, .int bk), (3, .int v3), (4, .int v4)], [.int v4], 0, 0) 55 2 (fun _ => rfl) h) ?_
        exact pj_X_rt rfl rfl ⟨_, rfl, hI, hK, pj_i32 _⟩
theorem ct_235 (G0 : pj_G) (hI : pj_Inv G0) (p : Int32) (bk : Int32) : pj_Y 4 235 [.ref 171, .int p, .int bk] G0 (fun v G' => ∃ y : Int32, v = some (.int y) ∧ pj_Inv G' ∧ pj_kpt kc_235 G0 G' ∧ ((-2147483648 : Int) ≤ y.toInt ∧ y.toInt ≤ 2147483647)) := by
  have c0_ : ((Int8.ofInt (-2)).toInt32).toInt = -2 := by decide
  have c1_ : ((Int8.ofInt 24).toInt32).toInt = 24 := by decide
  have c2_ : ((Int8.ofInt 99).toInt32).toInt = 99 := by decide
  have c3_ : (Int32.ofInt (-1)).toInt = -1 := by decide
  have c4_ : (Int32.ofInt 0).toInt = 0 := by decide
  have c5_ : (Int32.ofInt 1).toInt = 1 := by decide
  refine pj_Y_X (M := pj_m235) rfl rfl (Nat.le_of_ble_eq_true rfl) ?_
  have hK : pj_kpt kc_235 G0 G0 := pj_kpt_r _ _
  show pj_X _ _ G0 0 [(0, .ref 171), (1, .int p), (2, .int bk)] [] _
  refine pj_X_of (fun r h => pj_R_to (G0, 2, [(0, .ref 171), (1, .int p), (2, .int bk)], [.int (Int32.ofInt 0), .ref 171], 0, 0) 2 3 (fun _ => rfl) h) ?_
  refine pj_X_of (fun r h => pj_T_pf hI rfl rfl rfl h) ?_
  show pj_X _ _ (pj_wv G0 171 0 (.int (Int32.ofInt 0))) 5 [(0, .ref 171), (1, .int p), (2, .int bk)] [] _
  obtain ⟨G8, hG8⟩ : ∃ H, H = pj_wv G0 171 0 (.int (Int32.ofInt 0)) := ⟨_, rfl⟩
  have iG8 : pj_Inv G8 := by rw [hG8]; exact pj_Inv_wi hI (ci := 12) rfl (fun q hq => by cases hq)
  have kG8 : pj_kpt kc_235 G0 G8 := by rw [hG8]; exact pj_kpt_v hK rfl
  rw [← hG8]
  refine pj_X_of (fun r h => pj_R_to (G8, 7, [(0, .ref 171), (1, .int p), (2, .int bk)], [.int p, .ref 171], 0, 0) 7 3 (fun _ => rfl) h) ?_
  refine pj_X_ca (vs := [.ref 171, .int p]) rfl (fun _ => rfl) ⟨Nat.le_of_ble_eq_true rfl, Nat.le_of_ble_eq_true rfl, pj_T_rcv iG8 rfl⟩ ⟨rfl, rfl⟩ (pj_Y_up (by decide) (ct_178x G8 iG8 p)) ?_
  rintro _ _ ⟨y9, rfl, rfl, ry9, ey9, fy9⟩
  replace ey9 := ey9 _ rfl
  show pj_X _ _ G8 10 [(0, .ref 171), (1, .int p), (2, .int bk)] [.int y9] _
  cases b10 : pj_c1 .eq y9 0 with
  | true =>
    have ub10 := pj_u0_eqT b10
    refine pj_X_of (fun r h => pj_R_ifT 21 rfl rfl b10 h) ?_
    refine pj_X_of (fun r h => pj_R_to (G8, 22, [(0, .ref 171), (1, .int p), (2, .int bk)], [.int (Int32.ofInt (-1))], 0, 0) 22 2 (fun _ => rfl) h) ?_
    exact pj_X_rt rfl rfl ⟨_, rfl, iG8, kG8, pj_i32 _⟩
  | false =>
    have ub10 := pj_u0_eqF b10
    refine pj_X_of (fun r h => pj_R_ifF rfl b10 h) ?_
    refine pj_X_of (fun r h => pj_R_to (G8, 15, [(0, .ref 171), (1, .int p), (2, .int bk)], [.int bk, .ref 171], 0, 0) 15 3 (fun _ => rfl) h) ?_
    refine pj_X_ca (vs := [.ref 171, .int bk]) rfl (fun _ => rfl) ⟨Nat.le_of_ble_eq_true rfl, Nat.le_of_ble_eq_true rfl, pj_T_rcv iG8 rfl⟩ ⟨rfl, rfl⟩ (pj_Y_up (by decide) (ct_175x G8 iG8 bk)) ?_
    rintro _ _ ⟨y11, rfl, rfl, ry11, ey11, fy11⟩
    replace ey11 := ey11 _ rfl
    show pj_X _ _ G8 18 [(0, .ref 171), (1, .int p), (2, .int bk)] [.int y11] _
    cases b12 : pj_c1 .ne y11 0 with
    | true =>
      have ub12 := pj_u0_neT b12
      refine pj_X_of (fun r h => pj_R_ifT 23 rfl rfl b12 h) ?_
      refine pj_X_of (fun r h => pj_R_to (G8, 25, [(0, .ref 171), (1, .int p), (2, .int bk)], [.ref 171, .int (Int32.ofInt 1)], 0, 0) 25 3 (fun _ => rfl) h) ?_
      refine pj_X_of (fun r h => pj_T_gr iG8 rfl rfl rfl h) ?_
      refine pj_X_of (fun r h => pj_R_to (G8, 32, [(0, .ref 171), (1, .int p), (2, .int bk)], [.int (((Int8.ofInt 24).toInt32) + p), .ref 179, .int (Int32.ofInt 1)], 0, 0) 32 4 (fun _ => rfl) h) ?_
      obtain ⟨z13, hz13⟩ : ∃ z : Int32, z = ((Int8.ofInt 24).toInt32) + p := ⟨_, rfl⟩
      refine pj_X_eqi hz13.symm ?_
      have fz13_0 : z13.toInt = ((Int8.ofInt 24).toInt32).toInt + p.toInt := by rw [hz13]; exact pj_addI (by have := pj_i32 ((Int8.ofInt 24).toInt32); have := pj_i32 p; omega) (by have := pj_i32 ((Int8.ofInt 24).toInt32); have := pj_i32 p; omega)
      refine pj_X_of (fun r h => pj_T_il iG8 rfl rfl (by omega) (by omega) h) ?_
      show pj_X _ _ G8 33 [(0, .ref 171), (1, .int p), (2, .int bk)] [.int (pj_ai G8 179 z13.toInt.toNat), .int (Int32.ofInt 1)] _
      obtain ⟨z14, hz14⟩ : ∃ z : Int32, z = pj_ai G8 179 z13.toInt.toNat := ⟨_, rfl⟩
      refine pj_X_eqi hz14.symm ?_
      have ez14 : (pj_ai G8 179 z13.toInt.toNat).toInt = z14.toInt := by rw [hz14]
      have fz14_0 : 0 ≤ z14.toInt ∧ z14.toInt ≤ 7 := by rw [hz14]; exact (iG8.2.2.2 179 32 rfl _ (by show _ < 32; omega)).2 ⟨by omega, by omega⟩
      refine pj_X_of (fun r h => pj_R_to (G8, 34, [(0, .ref 171), (1, .int p), (2, .int bk)], [.int ((Int32.ofInt 1) <<< (z14 &&& 31))], 0, 0) 34 2 (fun _ => rfl) h) ?_
      obtain ⟨z15, hz15⟩ : ∃ z : Int32, z = (Int32.ofInt 1) <<< (z14 &&& 31) := ⟨_, rfl⟩
      refine pj_X_eqi hz15.symm ?_
      have fz15_0 : 1 ≤ z15.toInt ∧ z15.toInt ≤ 128 := by rw [hz15]; exact pj_shlI7 (by omega) (by omega)
      refine pj_X_of (fun r h => pj_R_to (G8, 38, [(4, .int (Int32.ofInt 0)), (3, .int z15), (0, .ref 171), (1, .int p), (2, .int bk)], [], 0, 0) 38 4 (fun _ => rfl) h) ?_
      exact pj_X_sub [(0, .ref 171), (1, .int p), (2, .int bk), (3, .int z15), (4, .int (Int32.ofInt 0))] (show List.Nodup [0, 1, 2, 3, 4] by decide) ⟨rfl, rfl, rfl, rfl, rfl, trivial⟩ ((lp_ct_235 G0 hI p bk  101) G8 iG8 kG8 z15 (Int32.ofInt 0) (pj_i32 _) ⟨by omega, by omega⟩ (by omega) (by omega))
    | false =>
      have ub12 := pj_u0_neF b12
      refine pj_X_of (fun r h => pj_R_ifF rfl b12 h) ?_
      refine pj_X_of (fun r h => pj_R_to (G8, 22, [(0, .ref 171), (1, .int p), (2, .int bk)], [.int (Int32.ofInt (-1))], 0, 0) 22 2 (fun _ => rfl) h) ?_
      exact pj_X_rt rfl rfl ⟨_, rfl, iG8, kG8, pj_i32 _⟩
theorem ct_236 (G0 : pj_G) (hI : pj_Inv G0) (c : Int32) : pj_Y 2 236 [.ref 171, .int c] G0 (fun v G' => ∃ y : Int32, v = some (.int y) ∧ G0 = G' ∧ ((0 : Int) ≤ y.toInt ∧ y.toInt ≤ 1)) := by
  have c0_ : (Int32.ofInt 0).toInt = 0 := by decide
  have c1_ : (Int32.ofInt 1).toInt = 1 := by decide
  refine pj_Y_X (M := pj_m236) rfl rfl (Nat.le_of_ble_eq_true rfl) ?_
  have hK : pj_kpt ([], [], []) G0 G0 := pj_kpt_r _ _
  show pj_X _ _ G0 0 [(0, .ref 171), (1, .int c)] [] _
  refine pj_X_of (fun r h => pj_R_to (G0, 3, [(0, .ref 171), (1, .int c)], [.int (Int32.ofInt 1), .int c, .ref 171], 0, 0) 3 4 (fun _ => rfl) h) ?_
  refine pj_X_ca (vs := [.ref 171, .int c, .int (Int32.ofInt 1)]) rfl (fun _ => rfl) ⟨Nat.le_of_ble_eq_true rfl, Nat.le_of_ble_eq_true rfl, pj_T_rcv hI rfl⟩ ⟨rfl, rfl⟩ (pj_Y_up (by decide) (ct_205x G0 hI c (Int32.ofInt 1) ⟨by omega, by omega⟩)) ?_
  rintro _ _ ⟨y1, rfl, rfl, ry1, ey1, fy1⟩
  replace ey1 := ey1 _ rfl
  show pj_X _ _ G0 6 [(0, .ref 171), (1, .int c)] [.int y1] _
  cases b2 : pj_c1 .ge y1 0 with
  | true =>
    have ub2 := pj_u0_geT b2
    refine pj_X_of (fun r h => pj_R_ifT 22 rfl rfl b2 h) ?_
    refine pj_X_of (fun r h => pj_R_to (G0, 23, [(0, .ref 171), (1, .int c)], [.int (Int32.ofInt 0)], 0, 0) 23 2 (fun _ => rfl) h) ?_
    exact pj_X_rt rfl rfl ⟨_, rfl, rfl, ⟨by omega, by omega⟩⟩
  | false =>
    have ub2 := pj_u0_geF b2
    refine pj_X_of (fun r h => pj_R_ifF rfl b2 h) ?_
    refine pj_X_of (fun r h => pj_R_to (G0, 12, [(0, .ref 171), (1, .int c)], [.int (Int32.ofInt 0), .int c, .ref 171], 0, 0) 12 4 (fun _ => rfl) h) ?_
    refine pj_X_ca (vs := [.ref 171, .int c, .int (Int32.ofInt 0)]) rfl (fun _ => rfl) ⟨Nat.le_of_ble_eq_true rfl, Nat.le_of_ble_eq_true rfl, pj_T_rcv hI rfl⟩ ⟨rfl, rfl⟩ (pj_Y_up (by decide) (ct_205x G0 hI c (Int32.ofInt 0) ⟨by omega, by omega⟩)) ?_
    rintro _ _ ⟨y3, rfl, rfl, ry3, ey3, fy3⟩
    replace ey3 := ey3 _ rfl
    show pj_X _ _ G0 15 [(0, .ref 171), (1, .int c)] [.int y3] _
    cases b4 : pj_c1 .ge y3 0 with
    | true =>
      have ub4 := pj_u0_geT b4
      refine pj_X_of (fun r h => pj_R_ifT 22 rfl rfl b4 h) ?_
      refine pj_X_of (fun r h => pj_R_to (G0, 23, [(0, .ref 171), (1, .int c)], [.int (Int32.ofInt 0)], 0, 0) 23 2 (fun _ => rfl) h) ?_
      exact pj_X_rt rfl rfl ⟨_, rfl, rfl, ⟨by omega, by omega⟩⟩
    | false =>
      have ub4 := pj_u0_geF b4
      refine pj_X_of (fun r h => pj_R_ifF rfl b4 h) ?_
      refine pj_X_of (fun r h => pj_R_to (G0, 23, [(0, .ref 171), (1, .int c)], [.int (Int32.ofInt 1)], 0, 0) 23 3 (fun _ => rfl) h) ?_
      exact pj_X_rt rfl rfl ⟨_, rfl, rfl, ⟨by omega, by omega⟩⟩
theorem ct_237 (G0 : pj_G) (hI : pj_Inv G0) (b : Int32) (c : Int32) (rb : (0 : Int) ≤ b.toInt ∧ b.toInt ≤ 5) (rc : (0 : Int) ≤ c.toInt ∧ c.toInt ≤ 9) : pj_Y 3 237 [.ref 171, .int b, .int c] G0 (fun v G' => ∃ y : Int32, v = some (.int y) ∧ G0 = G' ∧ ((0 : Int) ≤ y.toInt ∧ y.toInt ≤ 1)) := by
  have c0_ : (Int32.ofInt 0).toInt = 0 := by decide
  have c1_ : (Int32.ofInt 1).toInt = 1 := by decide
  have c2_ : (Int32.ofInt 4).toInt = 4 := by decide
  refine pj_Y_X (M := pj_m237) rfl rfl (Nat.le_of_ble_eq_true rfl) ?_
  have hK : pj_kpt ([], [], []) G0 G0 := pj_kpt_r _ _
  show pj_X _ _ G0 0 [(0, .ref 171), (1, .int b), (2, .int c)] [] _
  refine pj_X_of (fun r h => pj_R_to (G0, 1, [(0, .ref 171), (1, .int b), (2, .int c)], [.ref 171], 0, 0) 1 2 (fun _ => rfl) h) ?_
  refine pj_X_of (fun r h => pj_T_gr hI rfl rfl rfl h) ?_
  refine pj_X_of (fun r h => pj_R_to (G0, 7, [(0, .ref 171), (1, .int b), (2, .int c)], [.int ((Int32.ofInt 4) * b), .ref 179], 0, 0) 7 4 (fun _ => rfl) h) ?_
  obtain ⟨z1, hz1⟩ : ∃ z : Int32, z = (Int32.ofInt 4) * b := ⟨_, rfl⟩
  refine pj_X_eqi hz1.symm ?_
  have fz1_0 : z1.toInt = 4 * b.toInt := by rw [hz1]; exact pj_mulL (by decide) (by omega) (by omega)
  refine pj_X_of (fun r h => pj_R_to (G0, 9, [(0, .ref 171), (1, .int b), (2, .int c)], [.int (z1 + (Int32.ofInt 1)), .ref 179], 0, 0) 9 3 (fun _ => rfl) h) ?_
  obtain ⟨z2, hz2⟩ : ∃ z : Int32, z = z1 + (Int32.ofInt 1) := ⟨_, rfl⟩
  refine pj_X_eqi hz2.symm ?_
  have fz2_0 : z2.toInt = z1.toInt + (Int32.ofInt 1).toInt := by rw [hz2]; exact pj_addI (by have := pj_i32 z1; have := pj_i32 (Int32.ofInt 1); omega) (by have := pj_i32 z1; have := pj_i32 (Int32.ofInt 1); omega)
  refine pj_X_of (fun r h => pj_T_il hI rfl rfl (by omega) (by omega) h) ?_
  show pj_X _ _ G0 10 [(0, .ref 171), (1, .int b), (2, .int c)] [.int (pj_ai G0 179 z2.toInt.toNat)] _
  obtain ⟨z3, hz3⟩ : ∃ z : Int32, z = pj_ai G0 179 z2.toInt.toNat := ⟨_, rfl⟩
  refine pj_X_eqi hz3.symm ?_
  have ez3 : (pj_ai G0 179 z2.toInt.toNat).toInt = z3.toInt := by rw [hz3]
  have fz3_0 : 0 ≤ z3.toInt := by rw [hz3]; exact ((hI.2.2.2 179 32 rfl _ (by show _ < 32; omega)).1 (by omega)).2 (by omega)
  cases b4 : pj_c1 .ne z3 0 with
  | true =>
    have ub4 := pj_u0_neT b4
    refine pj_X_of (fun r h => pj_R_ifT 40 rfl rfl b4 h) ?_
    refine pj_X_of (fun r h => pj_R_to (G0, 41, [(0, .ref 171), (1, .int b), (2, .int c)], [.int (Int32.ofInt 0)], 0, 0) 41 2 (fun _ => rfl) h) ?_
    exact pj_X_rt rfl rfl ⟨_, rfl, rfl, ⟨by omega, by omega⟩⟩
  | false =>
    have ub4 := pj_u0_neF b4
    refine pj_X_of (fun r h => pj_R_ifF rfl b4 h) ?_
    refine pj_X_of (fun r h => pj_R_to (G0, 15, [(0, .ref 171), (1, .int b), (2, .int c)], [.int c, .ref 171], 0, 0) 15 3 (fun _ => rfl) h) ?_
    refine pj_X_ca (vs := [.ref 171, .int c]) rfl (fun _ => rfl) ⟨Nat.le_of_ble_eq_true rfl, Nat.le_of_ble_eq_true rfl, pj_T_rcv hI rfl⟩ ⟨rfl, rfl⟩ (pj_Y_up (by decide) (ct_236 G0 hI c)) ?_
    rintro _ _ ⟨y5, rfl, rfl, ry5⟩
    show pj_X _ _ G0 18 [(0, .ref 171), (1, .int b), (2, .int c)] [.int y5] _
    cases b6 : pj_c1 .eq y5 0 with
    | true =>
      have ub6 := pj_u0_eqT b6
      refine pj_X_of (fun r h => pj_R_ifT 40 rfl rfl b6 h) ?_
      refine pj_X_of (fun r h => pj_R_to (G0, 41, [(0, .ref 171), (1, .int b), (2, .int c)], [.int (Int32.ofInt 0)], 0, 0) 41 2 (fun _ => rfl) h) ?_
      exact pj_X_rt rfl rfl ⟨_, rfl, rfl, ⟨by omega, by omega⟩⟩
    | false =>
      have ub6 := pj_u0_eqF b6
      refine pj_X_of (fun r h => pj_R_ifF rfl b6 h) ?_
      refine pj_X_of (fun r h => pj_R_to (G0, 22, [(0, .ref 171), (1, .int b), (2, .int c)], [.ref 171], 0, 0) 22 2 (fun _ => rfl) h) ?_
      refine pj_X_of (fun r h => pj_T_gr hI rfl rfl rfl h) ?_
      refine pj_X_of (fun r h => pj_R_to (G0, 26, [(0, .ref 171), (1, .int b), (2, .int c)], [.int b, .ref 177], 0, 0) 26 2 (fun _ => rfl) h) ?_
      refine pj_X_of (fun r h => pj_T_il hI rfl rfl (by omega) (by omega) h) ?_
      show pj_X _ _ G0 27 [(0, .ref 171), (1, .int b), (2, .int c)] [.int (pj_ai G0 177 b.toInt.toNat)] _
      obtain ⟨z7, hz7⟩ : ∃ z : Int32, z = pj_ai G0 177 b.toInt.toNat := ⟨_, rfl⟩
      refine pj_X_eqi hz7.symm ?_
      have ez7 : (pj_ai G0 177 b.toInt.toNat).toInt = z7.toInt := by rw [hz7]
      refine pj_X_of (fun r h => pj_R_to (G0, 28, [(0, .ref 171), (1, .int b), (2, .int c)], [.ref 171, .int z7], 0, 0) 28 2 (fun _ => rfl) h) ?_
      refine pj_X_of (fun r h => pj_T_gr hI rfl rfl rfl h) ?_
      refine pj_X_of (fun r h => pj_R_to (G0, 32, [(0, .ref 171), (1, .int b), (2, .int c)], [.int c, .ref 176, .int z7], 0, 0) 32 2 (fun _ => rfl) h) ?_
      refine pj_X_of (fun r h => pj_T_il hI rfl rfl (by omega) (by omega) h) ?_
      show pj_X _ _ G0 33 [(0, .ref 171), (1, .int b), (2, .int c)] [.int (pj_ai G0 176 c.toInt.toNat), .int z7] _
      obtain ⟨z8, hz8⟩ : ∃ z : Int32, z = pj_ai G0 176 c.toInt.toNat := ⟨_, rfl⟩
      refine pj_X_eqi hz8.symm ?_
      have ez8 : (pj_ai G0 176 c.toInt.toNat).toInt = z8.toInt := by rw [hz8]
      cases b9 : pj_c1 .lt z7 z8 with
      | true =>
        have ub9 := pj_u_ltT b9
        refine pj_X_of (fun r h => pj_R_icT 40 rfl rfl b9 h) ?_
        refine pj_X_of (fun r h => pj_R_to (G0, 41, [(0, .ref 171), (1, .int b), (2, .int c)], [.int (Int32.ofInt 0)], 0, 0) 41 2 (fun _ => rfl) h) ?_
        exact pj_X_rt rfl rfl ⟨_, rfl, rfl, ⟨by omega, by omega⟩⟩
      | false =>
        have ub9 := pj_u_ltF b9
        refine pj_X_of (fun r h => pj_R_icF rfl b9 h) ?_
        refine pj_X_of (fun r h => pj_R_to (G0, 41, [(0, .ref 171), (1, .int b), (2, .int c)], [.int (Int32.ofInt 1)], 0, 0) 41 3 (fun _ => rfl) h) ?_
        exact pj_X_rt rfl rfl ⟨_, rfl, rfl, ⟨by omega, by omega⟩⟩
theorem ct_238 (G0 : pj_G) (hI : pj_Inv G0) (op : Int32) (b : Int32) (c : Int32) (w : Int32) (rb : (-1 : Int) ≤ b.toInt ∧ b.toInt ≤ 5) : pj_Y 1 238 [.ref 171, .int op, .int b, .int c, .int w] G0 (fun v G' => ∃ y : Int32, v = some (.int y) ∧ G0 = G' ∧ ((-2147483648 : Int) ≤ y.toInt ∧ y.toInt ≤ 2147483647)) := by
  have c0_ : (Int32.ofInt (-1)).toInt = -1 := by decide
  have c1_ : (Int32.ofInt 0).toInt = 0 := by decide
  have c2_ : (Int32.ofInt 1).toInt = 1 := by decide
  have c3_ : (Int32.ofInt 3).toInt = 3 := by decide
  have c4_ : (Int32.ofInt 4).toInt = 4 := by decide
  refine pj_Y_X (M := pj_m238) rfl rfl (Nat.le_of_ble_eq_true rfl) ?_
  have hK : pj_kpt ([], [], []) G0 G0 := pj_kpt_r _ _
  show pj_X _ _ G0 0 [(0, .ref 171), (1, .int op), (2, .int b), (3, .int c), (4, .int w)] [] _
  refine pj_X_of (fun r h => pj_R_to (G0, 1, [(0, .ref 171), (1, .int op), (2, .int b), (3, .int c), (4, .int w)], [.int b], 0, 0) 1 2 (fun _ => rfl) h) ?_
  cases b1 : pj_c1 .ge b 0 with
  | true =>
    have ub1 := pj_u0_geT b1
    refine pj_X_of (fun r h => pj_R_ifT 8 rfl rfl b1 h) ?_
    refine pj_X_of (fun r h => pj_R_to (G0, 9, [(0, .ref 171), (1, .int op), (2, .int b), (3, .int c), (4, .int w)], [.ref 171], 0, 0) 9 2 (fun _ => rfl) h) ?_
    refine pj_X_of (fun r h => pj_T_gr hI rfl rfl rfl h) ?_
    refine pj_X_of (fun r h => pj_R_to (G0, 15, [(0, .ref 171), (1, .int op), (2, .int b), (3, .int c), (4, .int w)], [.int ((Int32.ofInt 4) * b), .ref 179], 0, 0) 15 4 (fun _ => rfl) h) ?_
    obtain ⟨z2, hz2⟩ : ∃ z : Int32, z = (Int32.ofInt 4) * b := ⟨_, rfl⟩
    refine pj_X_eqi hz2.symm ?_
    have fz2_0 : z2.toInt = 4 * b.toInt := by rw [hz2]; exact pj_mulL (by decide) (by omega) (by omega)
    refine pj_X_of (fun r h => pj_R_to (G0, 17, [(0, .ref 171), (1, .int op), (2, .int b), (3, .int c), (4, .int w)], [.int (z2 + (Int32.ofInt 0)), .ref 179], 0, 0) 17 3 (fun _ => rfl) h) ?_
    obtain ⟨z3, hz3⟩ : ∃ z : Int32, z = z2 + (Int32.ofInt 0) := ⟨_, rfl⟩
    refine pj_X_eqi hz3.symm ?_
    have fz3_0 : z3.toInt = z2.toInt + (Int32.ofInt 0).toInt := by rw [hz3]; exact pj_addI (by have := pj_i32 z2; have := pj_i32 (Int32.ofInt 0); omega) (by have := pj_i32 z2; have := pj_i32 (Int32.ofInt 0); omega)
    refine pj_X_of (fun r h => pj_T_il hI rfl rfl (by omega) (by omega) h) ?_
    show pj_X _ _ G0 18 [(0, .ref 171), (1, .int op), (2, .int b), (3, .int c), (4, .int w)] [.int (pj_ai G0 179 z3.toInt.toNat)] _
    obtain ⟨z4, hz4⟩ : ∃ z : Int32, z = pj_ai G0 179 z3.toInt.toNat := ⟨_, rfl⟩
    refine pj_X_eqi hz4.symm ?_
    have ez4 : (pj_ai G0 179 z3.toInt.toNat).toInt = z4.toInt := by rw [hz4]
    have fz4_0 : -1 ≤ z4.toInt ∧ z4.toInt ≤ 9 := by rw [hz4]; exact ((hI.2.2.2 179 32 rfl _ (by show _ < 32; omega)).1 (by omega)).1 (by omega)
    refine pj_X_of (fun r h => pj_R_to (G0, 22, [(5, .int z4), (0, .ref 171), (1, .int op), (2, .int b), (3, .int c), (4, .int w)], [.int z4], 0, 0) 22 3 (fun _ => rfl) h) ?_
    cases b5 : pj_c1 .ge z4 0 with
    | true =>
      have ub5 := pj_u0_geT b5
      refine pj_X_of (fun r h => pj_R_ifT 29 rfl rfl b5 h) ?_
      refine pj_X_of (fun r h => pj_R_to (G0, 34, [(5, .int z4), (0, .ref 171), (1, .int op), (2, .int b), (3, .int c), (4, .int w)], [.int ((Int32.ofInt 1) <<< (z4 &&& 31)), .int op], 0, 0) 34 5 (fun _ => rfl) h) ?_
      obtain ⟨z6, hz6⟩ : ∃ z : Int32, z = (Int32.ofInt 1) <<< (z4 &&& 31) := ⟨_, rfl⟩
      refine pj_X_eqi hz6.symm ?_
      have fz6_0 : 1 ≤ z6.toInt ∧ z6.toInt ≤ 512 := by rw [hz6]; exact pj_shlI9 (by omega) (by omega)
      refine pj_X_of (fun r h => pj_R_to (G0, 36, [(5, .int z4), (0, .ref 171), (1, .int op), (2, .int b), (3, .int c), (4, .int w)], [.int (z6 ^^^ (Int32.ofInt (-1))), .int op], 0, 0) 36 3 (fun _ => rfl) h) ?_
      obtain ⟨z7, hz7⟩ : ∃ z : Int32, z = z6 ^^^ (Int32.ofInt (-1)) := ⟨_, rfl⟩
      refine pj_X_eqi hz7.symm ?_
      refine pj_X_of (fun r h => pj_R_to (G0, 37, [(5, .int z4), (0, .ref 171), (1, .int op), (2, .int b), (3, .int c), (4, .int w)], [.int (op &&& z7)], 0, 0) 37 2 (fun _ => rfl) h) ?_
      obtain ⟨z8, hz8⟩ : ∃ z : Int32, z = op &&& z7 := ⟨_, rfl⟩
      refine pj_X_eqi hz8.symm ?_
      refine pj_X_of (fun r h => pj_R_to (G0, 40, [(6, .int z8), (5, .int z4), (0, .ref 171), (1, .int op), (2, .int b), (3, .int c), (4, .int w)], [.int b], 0, 0) 40 3 (fun _ => rfl) h) ?_
      refine pj_X_of (fun r h => pj_R_ifF rfl (pj_b0_ltF (by omega)) h) ?_
      refine pj_X_of (fun r h => pj_R_to (G0, 44, [(6, .int z8), (5, .int z4), (0, .ref 171), (1, .int op), (2, .int b), (3, .int c), (4, .int w)], [.ref 171], 0, 0) 44 2 (fun _ => rfl) h) ?_
      refine pj_X_of (fun r h => pj_T_gr hI rfl rfl rfl h) ?_
      refine pj_X_of (fun r h => pj_R_to (G0, 50, [(6, .int z8), (5, .int z4), (0, .ref 171), (1, .int op), (2, .int b), (3, .int c), (4, .int w)], [.int ((Int32.ofInt 4) * b), .ref 179], 0, 0) 50 4 (fun _ => rfl) h) ?_
      obtain ⟨z9, hz9⟩ : ∃ z : Int32, z = (Int32.ofInt 4) * b := ⟨_, rfl⟩
      refine pj_X_eqi hz9.symm ?_
      have fz9_0 : z9.toInt = 4 * b.toInt := by rw [hz9]; exact pj_mulL (by decide) (by omega) (by omega)
      refine pj_X_of (fun r h => pj_R_to (G0, 52, [(6, .int z8), (5, .int z4), (0, .ref 171), (1, .int op), (2, .int b), (3, .int c), (4, .int w)], [.int (z9 + (Int32.ofInt 3)), .ref 179], 0, 0) 52 3 (fun _ => rfl) h) ?_
      obtain ⟨z10, hz10⟩ : ∃ z : Int32, z = z9 + (Int32.ofInt 3) := ⟨_, rfl⟩
      refine pj_X_eqi hz10.symm ?_
      have fz10_0 : z10.toInt = z9.toInt + (Int32.ofInt 3).toInt := by rw [hz10]; exact pj_addI (by have := pj_i32 z9; have := pj_i32 (Int32.ofInt 3); omega) (by have := pj_i32 z9; have := pj_i32 (Int32.ofInt 3); omega)
      refine pj_X_of (fun r h => pj_T_il hI rfl rfl (by omega) (by omega) h) ?_
      show pj_X _ _ G0 53 [(6, .int z8), (5, .int z4), (0, .ref 171), (1, .int op), (2, .int b), (3, .int c), (4, .int w)] [.int (pj_ai G0 179 z10.toInt.toNat)] _
      obtain ⟨z11, hz11⟩ : ∃ z : Int32, z = pj_ai G0 179 z10.toInt.toNat := ⟨_, rfl⟩
      refine pj_X_eqi hz11.symm ?_
      have ez11 : (pj_ai G0 179 z10.toInt.toNat).toInt = z11.toInt := by rw [hz11]
      refine pj_X_of (fun r h => pj_R_to (G0, 55, [(6, .int z8), (5, .int z4), (0, .ref 171), (1, .int op), (2, .int b), (3, .int c), (4, .int w)], [.int w, .int z11], 0, 0) 55 2 (fun _ => rfl) h) ?_
      cases b12 : pj_c1 .lt z11 w with
      | true =>
        have ub12 := pj_u_ltT b12
        refine pj_X_of (fun r h => pj_R_icT 67 rfl rfl b12 h) ?_
        refine pj_X_of (fun r h => pj_R_to (G0, 69, [(6, .int z8), (5, .int z4), (0, .ref 171), (1, .int op), (2, .int b), (3, .int c), (4, .int w)], [.int z8], 0, 0) 69 2 (fun _ => rfl) h) ?_
        exact pj_X_rt rfl rfl ⟨_, rfl, rfl, pj_i32 _⟩
      | false =>
        have ub12 := pj_u_ltF b12
        refine pj_X_of (fun r h => pj_R_icF rfl b12 h) ?_
        refine pj_X_of (fun r h => pj_R_to (G0, 63, [(6, .int z8), (5, .int z4), (0, .ref 171), (1, .int op), (2, .int b), (3, .int c), (4, .int w)], [.int ((Int32.ofInt 1) <<< (c &&& 31)), .int z8], 0, 0) 63 5 (fun _ => rfl) h) ?_
        obtain ⟨z13, hz13⟩ : ∃ z : Int32, z = (Int32.ofInt 1) <<< (c &&& 31) := ⟨_, rfl⟩
        refine pj_X_eqi hz13.symm ?_
        refine pj_X_of (fun r h => pj_R_to (G0, 64, [(6, .int z8), (5, .int z4), (0, .ref 171), (1, .int op), (2, .int b), (3, .int c), (4, .int w)], [.int (z8 ||| z13)], 0, 0) 64 2 (fun _ => rfl) h) ?_
        obtain ⟨z14, hz14⟩ : ∃ z : Int32, z = z8 ||| z13 := ⟨_, rfl⟩
        refine pj_X_eqi hz14.symm ?_
        refine pj_X_of (fun r h => pj_R_to (G0, 69, [(6, .int z8), (5, .int z4), (0, .ref 171), (1, .int op), (2, .int b), (3, .int c), (4, .int w)], [.int z14], 0, 0) 69 2 (fun _ => rfl) h) ?_
        exact pj_X_rt rfl rfl ⟨_, rfl, rfl, pj_i32 _⟩
    | false =>
      have ub5 := pj_u0_geF b5
      refine pj_X_of (fun r h => pj_R_ifF rfl b5 h) ?_
      refine pj_X_of (fun r h => pj_R_to (G0, 40, [(6, .int op), (5, .int z4), (0, .ref 171), (1, .int op), (2, .int b), (3, .int c), (4, .int w)], [.int b], 0, 0) 40 5 (fun _ => rfl) h) ?_
      refine pj_X_of (fun r h => pj_R_ifF rfl (pj_b0_ltF (by omega)) h) ?_
      refine pj_X_of (fun r h => pj_R_to (G0, 44, [(6, .int op), (5, .int z4), (0, .ref 171), (1, .int op), (2, .int b), (3, .int c), (4, .int w)], [.ref 171], 0, 0) 44 2 (fun _ => rfl) h) ?_
      refine pj_X_of (fun r h => pj_T_gr hI rfl rfl rfl h) ?_
      refine pj_X_of (fun r h => pj_R_to (G0, 50, [(6, .int op), (5, .int z4), (0, .ref 171), (1, .int op), (2, .int b), (3, .int c), (4, .int w)], [.int ((Int32.ofInt 4) * b), .ref 179], 0, 0) 50 4 (fun _ => rfl) h) ?_
      obtain ⟨z15, hz15⟩ : ∃ z : Int32, z = (Int32.ofInt 4) * b := ⟨_, rfl⟩
      refine pj_X_eqi hz15.symm ?_
      have fz15_0 : z15.toInt = 4 * b.toInt := by rw [hz15]; exact pj_mulL (by decide) (by omega) (by omega)
      refine pj_X_of (fun r h => pj_R_to (G0, 52, [(6, .int op), (5, .int z4), (0, .ref 171), (1, .int op), (2, .int b), (3, .int c), (4, .int w)], [.int (z15 + (Int32.ofInt 3)), .ref 179], 0, 0) 52 3 (fun _ => rfl) h) ?_
      obtain ⟨z16, hz16⟩ : ∃ z : Int32, z = z15 + (Int32.ofInt 3) := ⟨_, rfl⟩
      refine pj_X_eqi hz16.symm ?_
      have fz16_0 : z16.toInt = z15.toInt + (Int32.ofInt 3).toInt := by rw [hz16]; exact pj_addI (by have := pj_i32 z15; have := pj_i32 (Int32.ofInt 3); omega) (by have := pj_i32 z15; have := pj_i32 (Int32.ofInt 3); omega)
      refine pj_X_of (fun r h => pj_T_il hI rfl rfl (by omega) (by omega) h) ?_
      show pj_X _ _ G0 53 [(6, .int op), (5, .int z4), (0, .ref 171), (1, .int op), (2, .int b), (3, .int c), (4, .int w)] [.int (pj_ai G0 179 z16.toInt.toNat)] _
      obtain ⟨z17, hz17⟩ : ∃ z : Int32, z = pj_ai G0 179 z16.toInt.toNat := ⟨_, rfl⟩
      refine pj_X_eqi hz17.symm ?_
      have ez17 : (pj_ai G0 179 z16.toInt.toNat).toInt = z17.toInt := by rw [hz17]
      refine pj_X_of (fun r h => pj_R_to (G0, 55, [(6, .int op), (5, .int z4), (0, .ref 171), (1, .int op), (2, .int b), (3, .int c), (4, .int w)], [.int w, .int z17], 0, 0) 55 2 (fun _ => rfl) h) ?_
      cases b18 : pj_c1 .lt z17 w with
      | true =>
        have ub18 := pj_u_ltT b18
        refine pj_X_of (fun r h => pj_R_icT 67 rfl rfl b18 h) ?_
        refine pj_X_of (fun r h => pj_R_to (G0, 69, [(6, .int op), (5, .int z4), (0, .ref 171), (1, .int op), (2, .int b), (3, .int c), (4, .int w)], [.int op], 0, 0) 69 2 (fun _ => rfl) h) ?_
        exact pj_X_rt rfl rfl ⟨_, rfl, rfl, pj_i32 _⟩
      | false =>
        have ub18 := pj_u_ltF b18
        refine pj_X_of (fun r h => pj_R_icF rfl b18 h) ?_
        refine pj_X_of (fun r h => pj_R_to (G0, 63, [(6, .int op), (5, .int z4), (0, .ref 171), (1, .int op), (2, .int b), (3, .int c), (4, .int w)], [.int ((Int32.ofInt 1) <<< (c &&& 31)), .int op], 0, 0) 63 5 (fun _ => rfl) h) ?_
        obtain ⟨z19, hz19⟩ : ∃ z : Int32, z = (Int32.ofInt 1) <<< (c &&& 31) := ⟨_, rfl⟩
        refine pj_X_eqi hz19.symm ?_
        refine pj_X_of (fun r h => pj_R_to (G0, 64, [(6, .int op), (5, .int z4), (0, .ref 171), (1, .int op), (2, .int b), (3, .int c), (4, .int w)], [.int (op ||| z19)], 0, 0) 64 2 (fun _ => rfl) h) ?_
        obtain ⟨z20, hz20⟩ : ∃ z : Int32, z = op ||| z19 := ⟨_, rfl⟩
        refine pj_X_eqi hz20.symm ?_
        refine pj_X_of (fun r h => pj_R_to (G0, 69, [(6, .int op), (5, .int z4), (0, .ref 171), (1, .int op), (2, .int b), (3, .int c), (4, .int w)], [.int z20], 0, 0) 69 2 (fun _ => rfl) h) ?_
        exact pj_X_rt rfl rfl ⟨_, rfl, rfl, pj_i32 _⟩
  | false =>
    have ub1 := pj_u0_geF b1
    refine pj_X_of (fun r h => pj_R_ifF rfl b1 h) ?_
    refine pj_X_of (fun r h => pj_R_to (G0, 22, [(5, .int (Int32.ofInt (-1))), (0, .ref 171), (1, .int op), (2, .int b), (3, .int c), (4, .int w)], [.int (Int32.ofInt (-1))], 0, 0) 22 5 (fun _ => rfl) h) ?_
    refine pj_X_of (fun r h => pj_R_ifF rfl (pj_b0_geF (by omega)) h) ?_
    refine pj_X_of (fun r h => pj_R_to (G0, 40, [(6, .int op), (5, .int (Int32.ofInt (-1))), (0, .ref 171), (1, .int op), (2, .int b), (3, .int c), (4, .int w)], [.int b], 0, 0) 40 5 (fun _ => rfl) h) ?_
    refine pj_X_of (fun r h => pj_R_ifT 67 rfl rfl (pj_b0_ltT (by omega)) h) ?_
    refine pj_X_of (fun r h => pj_R_to (G0, 69, [(6, .int op), (5, .int (Int32.ofInt (-1))), (0, .ref 171), (1, .int op), (2, .int b), (3, .int c), (4, .int w)], [.int op], 0, 0) 69 2 (fun _ => rfl) h) ?_
    exact pj_X_rt rfl rfl ⟨_, rfl, rfl, pj_i32 _⟩
theorem ct_239 (G0 : pj_G) (hI : pj_Inv G0) (p : Int32) (bk : Int32) (op : Int32) (rp : (0 : Int) ≤ p.toInt ∧ p.toInt ≤ 5) : pj_Y 4 239 [.ref 171, .int p, .int bk, .int op] G0 (fun v G' => ∃ y : Int32, v = some (.int y) ∧ G0 = G' ∧ ((0 : Int) ≤ y.toInt ∧ y.toInt ≤ 1)) := by
  have c0_ : ((Int8.ofInt 24).toInt32).toInt = 24 := by decide
  have c1_ : (Int32.ofInt 1).toInt = 1 := by decide
  refine pj_Y_X (M := pj_m239) rfl rfl (Nat.le_of_ble_eq_true rfl) ?_
  have hK : pj_kpt ([], [], []) G0 G0 := pj_kpt_r _ _
  show pj_X _ _ G0 0 [(0, .ref 171), (1, .int p), (2, .int bk), (3, .int op)] [] _
  refine pj_X_of (fun r h => pj_R_to (G0, 3, [(0, .ref 171), (1, .int p), (2, .int bk), (3, .int op)], [.ref 171, .int (Int32.ofInt 1), .ref 171], 0, 0) 3 4 (fun _ => rfl) h) ?_
  refine pj_X_of (fun r h => pj_T_gr hI rfl rfl rfl h) ?_
  refine pj_X_of (fun r h => pj_R_to (G0, 10, [(0, .ref 171), (1, .int p), (2, .int bk), (3, .int op)], [.int (((Int8.ofInt 24).toInt32) + p), .ref 179, .int (Int32.ofInt 1), .ref 171], 0, 0) 10 4 (fun _ => rfl) h) ?_
  obtain ⟨z1, hz1⟩ : ∃ z : Int32, z = ((Int8.ofInt 24).toInt32) + p := ⟨_, rfl⟩
  refine pj_X_eqi hz1.symm ?_
  have fz1_0 : z1.toInt = ((Int8.ofInt 24).toInt32).toInt + p.toInt := by rw [hz1]; exact pj_addI (by have := pj_i32 ((Int8.ofInt 24).toInt32); have := pj_i32 p; omega) (by have := pj_i32 ((Int8.ofInt 24).toInt32); have := pj_i32 p; omega)
  refine pj_X_of (fun r h => pj_T_il hI rfl rfl (by omega) (by omega) h) ?_
  show pj_X _ _ G0 11 [(0, .ref 171), (1, .int p), (2, .int bk), (3, .int op)] [.int (pj_ai G0 179 z1.toInt.toNat), .int (Int32.ofInt 1), .ref 171] _
  obtain ⟨z2, hz2⟩ : ∃ z : Int32, z = pj_ai G0 179 z1.toInt.toNat := ⟨_, rfl⟩
  refine pj_X_eqi hz2.symm ?_
  have ez2 : (pj_ai G0 179 z1.toInt.toNat).toInt = z2.toInt := by rw [hz2]
  have fz2_0 : 0 ≤ z2.toInt ∧ z2.toInt ≤ 7 := by rw [hz2]; exact (hI.2.2.2 179 32 rfl _ (by show _ < 32; omega)).2 ⟨by omega, by omega⟩
  refine pj_X_of (fun r h => pj_R_to (G0, 12, [(0, .ref 171), (1, .int p), (2, .int bk), (3, .int op)], [.int ((Int32.ofInt 1) <<< (z2 &&& 31)), .ref 171], 0, 0) 12 2 (fun _ => rfl) h) ?_
  obtain ⟨z3, hz3⟩ : ∃ z : Int32, z = (Int32.ofInt 1) <<< (z2 &&& 31) := ⟨_, rfl⟩
  refine pj_X_eqi hz3.symm ?_
  have fz3_0 : 1 ≤ z3.toInt ∧ z3.toInt ≤ 128 := by rw [hz3]; exact pj_shlI7 (by omega) (by omega)
  refine pj_X_of (fun r h => pj_R_to (G0, 13, [(0, .ref 171), (1, .int p), (2, .int bk), (3, .int op)], [.int op, .int z3, .ref 171], 0, 0) 13 2 (fun _ => rfl) h) ?_
  refine pj_X_ca (vs := [.ref 171, .int z3, .int op]) rfl (fun _ => rfl) ⟨Nat.le_of_ble_eq_true rfl, Nat.le_of_ble_eq_true rfl, pj_T_rcv hI rfl⟩ ⟨rfl, rfl⟩ (pj_Y_up (by decide) (ct_208 G0 hI z3 op)) ?_
  rintro _ _ ⟨y4, rfl, rfl, ry4⟩
  show pj_X _ _ G0 16 [(0, .ref 171), (1, .int p), (2, .int bk), (3, .int op)] [.int y4] _
  refine pj_X_of (fun r h => pj_R_to (G0, 17, [(0, .ref 171), (1, .int p), (2, .int bk), (3, .int op)], [.int bk, .int y4], 0, 0) 17 2 (fun _ => rfl) h) ?_
  refine pj_X_ca (vs := [.int y4, .int bk]) rfl (fun _ => rfl) ⟨Nat.le_of_ble_eq_true rfl, Nat.le_of_ble_eq_true rfl, rfl⟩ ⟨rfl, rfl⟩ (pj_Y_up (by decide) (ct_171bx G0 hI y4 bk)) ?_
  rintro _ _ ⟨y5, rfl, rfl, ry5, ey5, fy5⟩
  show pj_X _ _ G0 20 [(0, .ref 171), (1, .int p), (2, .int bk), (3, .int op)] [.int y5] _
  exact pj_X_rt (v := some (.int y5)) rfl (pj_rtb ⟨by omega, by omega⟩) ⟨_, rfl, rfl, ⟨by omega, by omega⟩⟩
def kc_240 : pj_KT := ([(171, 0), (171, 1)], [171, 172], [])
theorem lp_ct_240 (G0 : pj_G) (hI0 : pj_Inv G0) (p : Int32) (bk : Int32) : ∀ mn : Nat, (∀ (G : pj_G) (hI : pj_Inv G) (hK : pj_kpt kc_240 G0 G) (v3 : Int32) (v4 : Int32), ((-2147483648 : Int) ≤ v3.toInt ∧ v3.toInt ≤ 2147483647) → ((0 : Int) ≤ v4.toInt ∧ v4.toInt ≤ 6) → (0 ≤ p.toInt ∧ p.toInt ≤ 5) → 100000 + 20 * (6 - v4.toInt) < (mn : Int) → pj_X 4 pj_m240 G 55 [(0, .ref 171), (1, .int p), (2, .int bk), (3, .int v3), (4, .int v4)] [] (fun v G' => ∃ y : Int32, v = some (.int y) ∧ pj_Inv G' ∧ pj_kpt kc_240 G0 G' ∧ ((-2147483648 : Int) ≤ y.toInt ∧ y.toInt ≤ 2147483647))) ∧ (∀ (G : pj_G) (hI : pj_Inv G) (hK : pj_kpt kc_240 G0 G) (v3 : Int32) (v4 : Int32) (v5 : Int32), ((-2147483648 : Int) ≤ v3.toInt ∧ v3.toInt ≤ 2147483647) → ((0 : Int) ≤ v4.toInt ∧ v4.toInt ≤ 5) → ((0 : Int) ≤ v5.toInt ∧ v5.toInt ≤ 10) → (0 ≤ p.toInt ∧ p.toInt ≤ 5) → 100000 + 20 * (6 - v4.toInt) - 1 - v5.toInt < (mn : Int) → pj_X 4 pj_m240 G 67 [(0, .ref 171), (1, .int p), (2, .int bk), (3, .int v3), (4, .int v4), (5, .int v5)] [] (fun v G' => ∃ y : Int32, v = some (.int y) ∧ pj_Inv G' ∧ pj_kpt kc_240 G0 G' ∧ ((-2147483648 : Int) ≤ y.toInt ∧ y.toInt ≤ 2147483647))) ∧ (∀ (G : pj_G) (hI : pj_Inv G) (hK : pj_kpt kc_240 G0 G) (v3 : Int32) (v4 : Int32), ((-2147483648 : Int) ≤ v3.toInt ∧ v3.toInt ≤ 2147483647) → ((0 : Int) ≤ v4.toInt ∧ v4.toInt ≤ 6) → (0 ≤ p.toInt ∧ p.toInt ≤ 5) → 2000 * (6 - v4.toInt) < (mn : Int) → pj_X 4 pj_m240 G 147 [(0, .ref 171), (1, .int p), (2, .int bk), (3, .int v3), (4, .int v4)] [] (fun v G' => ∃ y : Int32, v = some (.int y) ∧ pj_Inv G' ∧ pj_kpt kc_240 G0 G' ∧ ((-2147483648 : Int) ≤ y.toInt ∧ y.toInt ≤ 2147483647))) ∧ (∀ (G : pj_G) (hI : pj_Inv G) (hK : pj_kpt kc_240 G0 G) (v3 : Int32) (v4 : Int32) (v5 : Int32), ((-2147483648 : Int) ≤ v3.toInt ∧ v3.toInt ≤ 2147483647) → ((0 : Int) ≤ v4.toInt ∧ v4.toInt ≤ 5) → ((0 : Int) ≤ v5.toInt ∧ v5.toInt ≤ 10) → (0 ≤ p.toInt ∧ p.toInt ≤ 5) → 2000 * (6 - v4.toInt) - 1 - 150 * v5.toInt < (mn : Int) → pj_X 4 pj_m240 G 159 [(0, .ref 171), (1, .int p), (2, .int bk), (3, .int v3), (4, .int v4), (5, .int v5)] [] (fun v G' => ∃ y : Int32, v = some (.int y) ∧ pj_Inv G' ∧ pj_kpt kc_240 G0 G' ∧ ((-2147483648 : Int) ≤ y.toInt ∧ y.toInt ≤ 2147483647))) ∧ (∀ (G : pj_G) (hI : pj_Inv G) (hK : pj_kpt kc_240 G0 G) (v3 : Int32) (v4 : Int32) (v5 : Int32) (v6 : Int32) (v7 : Int32), ((-2147483648 : Int) ≤ v3.toInt ∧ v3.toInt ≤ 2147483647) → ((0 : Int) ≤ v4.toInt ∧ v4.toInt ≤ 5) → ((0 : Int) ≤ v5.toInt ∧ v5.toInt ≤ 9) → ((-2147483648 : Int) ≤ v6.toInt ∧ v6.toInt ≤ 2147483647) → ((1 : Int) ≤ v7.toInt ∧ v7.toInt ≤ 6) → (0 ≤ p.toInt ∧ p.toInt ≤ 5) → 2000 * (6 - v4.toInt) - 2 - 150 * v5.toInt - 20 * v7.toInt < (mn : Int) → pj_X 4 pj_m240 G 191 [(0, .ref 171), (1, .int p), (2, .int bk), (3, .int v3), (4, .int v4), (5, .int v5), (6, .int v6), (7, .int v7)] [] (fun v G' => ∃ y : Int32, v = some (.int y) ∧ pj_Inv G' ∧ pj_kpt kc_240 G0 G' ∧ ((-2147483648 : Int) ≤ y.toInt ∧ y.toInt ≤ 2147483647))) ∧ (∀ (G : pj_G) (hI : pj_Inv G) (hK : pj_kpt kc_240 G0 G) (v3 : Int32) (v4 : Int32) (v5 : Int32) (v6 : Int32) (v7 : Int32) (v8 : Int32), ((-2147483648 : Int) ≤ v3.toInt ∧ v3.toInt ≤ 2147483647) → ((0 : Int) ≤ v4.toInt ∧ v4.toInt ≤ 5) → ((0 : Int) ≤ v5.toInt ∧ v5.toInt ≤ 9) → ((-2147483648 : Int) ≤ v6.toInt ∧ v6.toInt ≤ 2147483647) → ((1 : Int) ≤ v7.toInt ∧ v7.toInt ≤ 5) → ((0 : Int) ≤ v8.toInt ∧ v8.toInt ≤ 10) → (0 ≤ p.toInt ∧ p.toInt ≤ 5) → 2000 * (6 - v4.toInt) - 3 - 150 * v5.toInt - 20 * v7.toInt - v8.toInt < (mn : Int) → pj_X 4 pj_m240 G 214 [(0, .ref 171), (1, .int p), (2, .int bk), (3, .int v3), (4, .int v4), (5, .int v5), (6, .int v6), (7, .int v7), (8, .int v8)] [] (fun v G' => ∃ y : Int32, v = some (.int y) ∧ pj_Inv G' ∧ pj_kpt kc_240 G0 G' ∧ ((-2147483648 : Int) ≤ y.toInt ∧ y.toInt ≤ 2147483647))) := by
  have c0_ : ((Int8.ofInt (-2)).toInt32).toInt = -2 := by decide
  have c1_ : (Int32.ofInt (-1)).toInt = -1 := by decide
  have c2_ : (Int32.ofInt 0).toInt = 0 := by decide
  have c3_ : (Int32.ofInt 1).toInt = 1 := by decide
  have c4_ : (Int32.ofInt 2).toInt = 2 := by decide
  intro mn
  induction mn with
  | zero =>
    refine ⟨?_, ?_, ?_, ?_, ?_, ?_⟩
    · intro G hI hK v3 v4 rv3 rv4 x0_ hm
      exfalso
      omega
    · intro G hI hK v3 v4 v5 rv3 rv4 rv5 x0_ hm
      exfalso
      omega
    · intro G hI hK v3 v4 rv3 rv4 x0_ hm
      exfalso
      omega
    · intro G hI hK v3 v4 v5 rv3 rv4 rv5 x0_ hm
      exfalso
      omega
    · intro G hI hK v3 v4 v5 v6 v7 rv3 rv4 rv5 rv6 rv7 x0_ hm
      exfalso
      omega
    · intro G hI hK v3 v4 v5 v6 v7 v8 rv3 rv4 rv5 rv6 rv7 rv8 x0_ hm
      exfalso
      omega
  | succ mn ih =>
    refine ⟨?_, ?_, ?_, ?_, ?_, ?_⟩
    · intro G hI hK v3 v4 rv3 rv4 x0_ hm
      obtain ⟨y1, hy1⟩ : ∃ z : Int32, z = pj_fi G 171 1 := ⟨_, rfl⟩
      have ey1 : (pj_fi G 171 1).toInt = y1.toInt := by rw [hy1]
      have ry1 : (0 : Int) ≤ y1.toInt ∧ y1.toInt ≤ 24 := by rw [hy1]; exact hI.2.1 171 1 (0, 24) rfl
      refine pj_X_of (fun r h => pj_R_to (G, 58, [(0, .ref 171), (1, .int p), (2, .int bk), (3, .int v3), (4, .int v4)], [.ref 171, .int v4], 0, 0) 58 3 (fun _ => rfl) h) ?_
      refine pj_X_of (fun r h => pj_T_gi hI rfl rfl h) ?_
      show pj_X _ _ G 61 [(0, .ref 171), (1, .int p), (2, .int bk), (3, .int v3), (4, .int v4)] [.int (pj_fi G 171 5), .int v4] _
      obtain ⟨y2, hy2⟩ : ∃ z : Int32, z = pj_fi G 171 5 := ⟨_, rfl⟩
      refine pj_X_eqi hy2.symm ?_
      have ey2 : (pj_fi G 171 5).toInt = y2.toInt := by rw [hy2]
      have ry2 : (0 : Int) ≤ y2.toInt ∧ y2.toInt ≤ 6 := by rw [hy2]; exact hI.2.1 171 5 (0, 6) rfl
      cases b3 : pj_c1 .ge v4 y2 with
      | true =>
        have ub3 := pj_u_geT b3
        refine pj_X_of (fun r h => pj_R_icT 144 rfl rfl b3 h) ?_
        refine pj_X_of (fun r h => pj_R_to (G, 147, [(4, .int (Int32.ofInt 0)), (0, .ref 171), (1, .int p), (2, .int bk), (3, .int v3)], [], 0, 0) 147 3 (fun _ => rfl) h) ?_
        have q4 : (pj_fi G 171 1).toInt = y1.toInt := by rw [show pj_fi G 171 1 = y1 from hy1.symm]
        exact pj_X_sub [(0, .ref 171), (1, .int p), (2, .int bk), (3, .int v3), (4, .int (Int32.ofInt 0))] (show List.Nodup [0, 1, 2, 3, 4] by decide) ⟨rfl, rfl, rfl, rfl, rfl, trivial⟩ (ih.2.2.1 G hI hK v3 (Int32.ofInt 0) (pj_i32 _) ⟨by omega, by omega⟩ (by omega) (by omega))
      | false =>
        have ub3 := pj_u_geF b3
        refine pj_X_of (fun r h => pj_R_icF rfl b3 h) ?_
        refine pj_X_of (fun r h => pj_R_to (G, 67, [(5, .int (Int32.ofInt 0)), (0, .ref 171), (1, .int p), (2, .int bk), (3, .int v3), (4, .int v4)], [], 0, 0) 67 3 (fun _ => rfl) h) ?_
        have q5 : (pj_fi G 171 1).toInt = y1.toInt := by rw [show pj_fi G 171 1 = y1 from hy1.symm]
        exact pj_X_sub [(0, .ref 171), (1, .int p), (2, .int bk), (3, .int v3), (4, .int v4), (5, .int (Int32.ofInt 0))] (show List.Nodup [0, 1, 2, 3, 4, 5] by decide) ⟨rfl, rfl, rfl, rfl, rfl, rfl, trivial⟩ (ih.2.1 G hI hK v3 v4 (Int32.ofInt 0) (pj_i32 _) ⟨by omega, by omega⟩ ⟨by omega, by omega⟩ (by omega) (by omega))
    · intro G hI hK v3 v4 v5 rv3 rv4 rv5 x0_ hm
      obtain ⟨y6, hy6⟩ : ∃ z : Int32, z = pj_fi G 171 1 := ⟨_, rfl⟩
      have ey6 : (pj_fi G 171 1).toInt = y6.toInt := by rw [hy6]
      have ry6 : (0 : Int) ≤ y6.toInt ∧ y6.toInt ≤ 24 := by rw [hy6]; exact hI.2.1 171 1 (0, 24) rfl
      refine pj_X_of (fun r h => pj_R_to (G, 70, [(0, .ref 171), (1, .int p), (2, .int bk), (3, .int v3), (4, .int v4), (5, .int v5)], [.ref 171, .int v5], 0, 0) 70 3 (fun _ => rfl) h) ?_
      refine pj_X_of (fun r h => pj_T_gi hI rfl rfl h) ?_
      show pj_X _ _ G 73 [(0, .ref 171), (1, .int p), (2, .int bk), (3, .int v3), (4, .int v4), (5, .int v5)] [.int (pj_fi G 171 4), .int v5] _
      obtain ⟨y7, hy7⟩ : ∃ z : Int32, z = pj_fi G 171 4 := ⟨_, rfl⟩
      refine pj_X_eqi hy7.symm ?_
      have ey7 : (pj_fi G 171 4).toInt = y7.toInt := by rw [hy7]
      have ry7 : (0 : Int) ≤ y7.toInt ∧ y7.toInt ≤ 10 := by rw [hy7]; exact hI.2.1 171 4 (0, 10) rfl
      cases b8 : pj_c1 .ge v5 y7 with
      | true =>
        have ub8 := pj_u_geT b8
        refine pj_X_of (fun r h => pj_R_icT 138 rfl rfl b8 h) ?_
        refine pj_X_of (fun r h => pj_R_to (G, 141, [(4, .int (v4 + Int32.ofInt 1)), (0, .ref 171), (1, .int p), (2, .int bk), (3, .int v3), (5, .int v5)], [], 0, 0) 141 2 (fun _ => rfl) h) ?_
        obtain ⟨z9, hz9⟩ : ∃ z : Int32, z = v4 + Int32.ofInt 1 := ⟨_, rfl⟩
        rw [← hz9]
        have fz9_0 : z9.toInt = v4.toInt + (Int32.ofInt 1).toInt := by rw [hz9]; exact pj_addI (by have := pj_i32 v4; have := pj_i32 (Int32.ofInt 1); omega) (by have := pj_i32 v4; have := pj_i32 (Int32.ofInt 1); omega)
        refine pj_X_of (fun r h => pj_R_to (G, 55, [(4, .int z9), (0, .ref 171), (1, .int p), (2, .int bk), (3, .int v3), (5, .int v5)], [], 0, 0) 55 2 (fun _ => rfl) h) ?_
        have q10 : (pj_fi G 171 1).toInt = y6.toInt := by rw [show pj_fi G 171 1 = y6 from hy6.symm]
        exact pj_X_sub [(0, .ref 171), (1, .int p), (2, .int bk), (3, .int v3), (4, .int z9)] (show List.Nodup [0, 1, 2, 3, 4] by decide) ⟨rfl, rfl, rfl, rfl, rfl, trivial⟩ (ih.1 G hI hK v3 z9 (pj_i32 _) ⟨by omega, by omega⟩ (by omega) (by omega))
      | false =>
        have ub8 := pj_u_geF b8
        refine pj_X_of (fun r h => pj_R_icF rfl b8 h) ?_
        refine pj_X_of (fun r h => pj_R_to (G, 81, [(0, .ref 171), (1, .int p), (2, .int bk), (3, .int v3), (4, .int v4), (5, .int v5)], [.int v5, .int v4, .ref 171], 0, 0) 81 4 (fun _ => rfl) h) ?_
        have q11 : (pj_fi G 171 1).toInt = y6.toInt := by rw [show pj_fi G 171 1 = y6 from hy6.symm]
        refine pj_X_ca (vs := [.ref 171, .int v4, .int v5]) rfl (fun _ => rfl) ⟨Nat.le_of_ble_eq_true rfl, Nat.le_of_ble_eq_true rfl, pj_T_rcv hI rfl⟩ ⟨rfl, rfl⟩ (pj_Y_up (by decide) (ct_237 G hI v4 v5 ⟨by omega, by omega⟩ ⟨by omega, by omega⟩)) ?_
        rintro _ _ ⟨y12, rfl, rfl, ry12⟩
        show pj_X _ _ G 84 [(0, .ref 171), (1, .int p), (2, .int bk), (3, .int v3), (4, .int v4), (5, .int v5)] [.int y12] _
        cases b13 : pj_c1 .eq y12 0 with
        | true =>
          have ub13 := pj_u0_eqT b13
          refine pj_X_of (fun r h => pj_R_ifT 132 rfl rfl b13 h) ?_
          refine pj_X_of (fun r h => pj_R_to (G, 135, [(5, .int (v5 + Int32.ofInt 1)), (0, .ref 171), (1, .int p), (2, .int bk), (3, .int v3), (4, .int v4)], [], 0, 0) 135 2 (fun _ => rfl) h) ?_
          obtain ⟨z14, hz14⟩ : ∃ z : Int32, z = v5 + Int32.ofInt 1 := ⟨_, rfl⟩
          rw [← hz14]
          have fz14_0 : z14.toInt = v5.toInt + (Int32.ofInt 1).toInt := by rw [hz14]; exact pj_addI (by have := pj_i32 v5; have := pj_i32 (Int32.ofInt 1); omega) (by have := pj_i32 v5; have := pj_i32 (Int32.ofInt 1); omega)
          refine pj_X_of (fun r h => pj_R_to (G, 67, [(5, .int z14), (0, .ref 171), (1, .int p), (2, .int bk), (3, .int v3), (4, .int v4)], [], 0, 0) 67 2 (fun _ => rfl) h) ?_
          have q15 : (pj_fi G 171 1).toInt = y6.toInt := by rw [show pj_fi G 171 1 = y6 from hy6.symm]
          exact pj_X_sub [(0, .ref 171), (1, .int p), (2, .int bk), (3, .int v3), (4, .int v4), (5, .int z14)] (show List.Nodup [0, 1, 2, 3, 4, 5] by decide) ⟨rfl, rfl, rfl, rfl, rfl, rfl, trivial⟩ (ih.2.1 G hI hK v3 v4 z14 (pj_i32 _) ⟨by omega, by omega⟩ ⟨by omega, by omega⟩ (by omega) (by omega))
        | false =>
          have ub13 := pj_u0_eqF b13
          refine pj_X_of (fun r h => pj_R_ifF rfl b13 h) ?_
          refine pj_X_of (fun r h => pj_R_to (G, 97, [(0, .ref 171), (1, .int p), (2, .int bk), (3, .int v3), (4, .int v4), (5, .int v5)], [.ref 171, .int v5, .int v4, .int v3, .ref 171, .int bk, .int p, .ref 171], 0, 0) 97 9 (fun _ => rfl) h) ?_
          refine pj_X_of (fun r h => pj_T_gr hI rfl rfl rfl h) ?_
          refine pj_X_of (fun r h => pj_R_to (G, 101, [(0, .ref 171), (1, .int p), (2, .int bk), (3, .int v3), (4, .int v4), (5, .int v5)], [.int p, .ref 178, .int v5, .int v4, .int v3, .ref 171, .int bk, .int p, .ref 171], 0, 0) 101 2 (fun _ => rfl) h) ?_
          refine pj_X_of (fun r h => pj_T_il hI rfl rfl (by omega) (by omega) h) ?_
          show pj_X _ _ G 102 [(0, .ref 171), (1, .int p), (2, .int bk), (3, .int v3), (4, .int v4), (5, .int v5)] [.int (pj_ai G 178 p.toInt.toNat), .int v5, .int v4, .int v3, .ref 171, .int bk, .int p, .ref 171] _
          obtain ⟨z16, hz16⟩ : ∃ z : Int32, z = pj_ai G 178 p.toInt.toNat := ⟨_, rfl⟩
          refine pj_X_eqi hz16.symm ?_
          have ez16 : (pj_ai G 178 p.toInt.toNat).toInt = z16.toInt := by rw [hz16]
          have q17 : (pj_fi G 171 1).toInt = y6.toInt := by rw [show pj_fi G 171 1 = y6 from hy6.symm]
          refine pj_X_ca (vs := [.ref 171, .int v3, .int v4, .int v5, .int z16]) rfl (fun _ => rfl) ⟨Nat.le_of_ble_eq_true rfl, Nat.le_of_ble_eq_true rfl, pj_T_rcv hI rfl⟩ ⟨rfl, rfl⟩ (pj_Y_up (by decide) (ct_238 G hI v3 v4 v5 z16 ⟨by omega, by omega⟩)) ?_
          rintro _ _ ⟨y18, rfl, rfl, ry18⟩
          show pj_X _ _ G 105 [(0, .ref 171), (1, .int p), (2, .int bk), (3, .int v3), (4, .int v4), (5, .int v5)] [.int y18, .int bk, .int p, .ref 171] _
          have q19 : (pj_fi G 171 1).toInt = y6.toInt := by rw [show pj_fi G 171 1 = y6 from hy6.symm]
          refine pj_X_ca (vs := [.ref 171, .int p, .int bk, .int y18]) rfl (fun _ => rfl) ⟨Nat.le_of_ble_eq_true rfl, Nat.le_of_ble_eq_true rfl, pj_T_rcv hI rfl⟩ ⟨rfl, rfl⟩ (pj_Y_up (by decide) (ct_239 G hI p bk y18 ⟨by omega, by omega⟩)) ?_
          rintro _ _ ⟨y20, rfl, rfl, ry20⟩
          show pj_X _ _ G 108 [(0, .ref 171), (1, .int p), (2, .int bk), (3, .int v3), (4, .int v4), (5, .int v5)] [.int y20] _
          cases b21 : pj_c1 .eq y20 0 with
          | true =>
            have ub21 := pj_u0_eqT b21
            refine pj_X_of (fun r h => pj_R_ifT 132 rfl rfl b21 h) ?_
            refine pj_X_of (fun r h => pj_R_to (G, 135, [(5, .int (v5 + Int32.ofInt 1)), (0, .ref 171), (1, .int p), (2, .int bk), (3, .int v3), (4, .int v4)], [], 0, 0) 135 2 (fun _ => rfl) h) ?_
            obtain ⟨z22, hz22⟩ : ∃ z : Int32, z = v5 + Int32.ofInt 1 := ⟨_, rfl⟩
            rw [← hz22]
            have fz22_0 : z22.toInt = v5.toInt + (Int32.ofInt 1).toInt := by rw [hz22]; exact pj_addI (by have := pj_i32 v5; have := pj_i32 (Int32.ofInt 1); omega) (by have := pj_i32 v5; have := pj_i32 (Int32.ofInt 1); omega)
            refine pj_X_of (fun r h => pj_R_to (G, 67, [(5, .int z22), (0, .ref 171), (1, .int p), (2, .int bk), (3, .int v3), (4, .int v4)], [], 0, 0) 67 2 (fun _ => rfl) h) ?_
            have q23 : (pj_fi G 171 1).toInt = y6.toInt := by rw [show pj_fi G 171 1 = y6 from hy6.symm]
            exact pj_X_sub [(0, .ref 171), (1, .int p), (2, .int bk), (3, .int v3), (4, .int v4), (5, .int z22)] (show List.Nodup [0, 1, 2, 3, 4, 5] by decide) ⟨rfl, rfl, rfl, rfl, rfl, rfl, trivial⟩ (ih.2.1 G hI hK v3 v4 z22 (pj_i32 _) ⟨by omega, by omega⟩ ⟨by omega, by omega⟩ (by omega) (by omega))
          | false =>
            have ub21 := pj_u0_eqF b21
            refine pj_X_of (fun r h => pj_R_ifF rfl b21 h) ?_
            refine pj_X_of (fun r h => pj_R_to (G, 113, [(0, .ref 171), (1, .int p), (2, .int bk), (3, .int v3), (4, .int v4), (5, .int v5)], [.int (Int32.ofInt 0), .ref 171], 0, 0) 113 3 (fun _ => rfl) h) ?_
            refine pj_X_of (fun r h => pj_T_pf hI rfl rfl rfl h) ?_
            show pj_X _ _ (pj_wv G 171 1 (.int (Int32.ofInt 0))) 116 [(0, .ref 171), (1, .int p), (2, .int bk), (3, .int v3), (4, .int v4), (5, .int v5)] [] _
            obtain ⟨G24, hG24⟩ : ∃ H, H = pj_wv G 171 1 (.int (Int32.ofInt 0)) := ⟨_, rfl⟩
            have iG24 : pj_Inv G24 := by rw [hG24]; exact pj_Inv_wi hI (ci := 12) rfl (fun q hq => by cases hq; exact ⟨by show (0 : Int) ≤ _; omega, by show _ ≤ (24 : Int); omega⟩)
            have kG24 : pj_kpt kc_240 G0 G24 := by rw [hG24]; exact pj_kpt_v hK rfl
            rw [← hG24]
            refine pj_X_of (fun r h => pj_R_to (G24, 120, [(0, .ref 171), (1, .int p), (2, .int bk), (3, .int v3), (4, .int v4), (5, .int v5)], [.long v4.toInt64, .ref 171], 0, 0) 120 4 (fun _ => rfl) h) ?_
            have q25 : (pj_fi G24 171 1).toInt = (Int32.ofInt 0).toInt := by rw [show pj_fi G24 171 1 = Int32.ofInt 0 from by rw [hG24]; exact pj_fi_wi hI.1 (ci := 12) rfl _]
            have lc26 : (v4.toInt64).toInt = v4.toInt := Int32.toInt_toInt64 _
            refine pj_X_ca (vs := [.ref 171, .long v4.toInt64]) rfl (fun _ => rfl) ⟨Nat.le_of_ble_eq_true rfl, Nat.le_of_ble_eq_true rfl, pj_T_rcv iG24 rfl⟩ ⟨rfl, rfl⟩ (pj_Y_up (by decide) (ct_174x G24 iG24 v4.toInt64 (by omega))) ?_
            rintro _ G28 ⟨rfl, iG28, jG28, eG28, fy27⟩
            replace eG28 := eG28 _ rfl
            have kG28 : pj_kpt kc_240 G0 G28 := pj_kpt_t kG24 (pj_kpt_s jG28 rfl)
            obtain ⟨y29, hy29⟩ : ∃ z : Int32, z = pj_fi G28 171 1 := ⟨_, rfl⟩
            have ey29 : (pj_fi G28 171 1).toInt = y29.toInt := by rw [hy29]
            have ry29 : (0 : Int) ≤ y29.toInt ∧ y29.toInt ≤ 24 := by rw [hy29]; exact iG28.2.1 171 1 (0, 24) rfl
            show pj_X _ _ G28 123 [(0, .ref 171), (1, .int p), (2, .int bk), (3, .int v3), (4, .int v4), (5, .int v5)] [] _
            refine pj_X_of (fun r h => pj_R_to (G28, 127, [(0, .ref 171), (1, .int p), (2, .int bk), (3, .int v3), (4, .int v4), (5, .int v5)], [.long v5.toInt64, .ref 171], 0, 0) 127 4 (fun _ => rfl) h) ?_
            have q30 : (pj_fi G28 171 1).toInt = y29.toInt := by rw [show pj_fi G28 171 1 = y29 from hy29.symm]
            have lc31 : (v5.toInt64).toInt = v5.toInt := Int32.toInt_toInt64 _
            refine pj_X_ca (vs := [.ref 171, .long v5.toInt64]) rfl (fun _ => rfl) ⟨Nat.le_of_ble_eq_true rfl, Nat.le_of_ble_eq_true rfl, pj_T_rcv iG28 rfl⟩ ⟨rfl, rfl⟩ (pj_Y_up (by decide) (ct_174x G28 iG28 v5.toInt64 (by omega))) ?_
            rintro _ G33 ⟨rfl, iG33, jG33, eG33, fy32⟩
            replace eG33 := eG33 _ rfl
            have kG33 : pj_kpt kc_240 G0 G33 := pj_kpt_t kG28 (pj_kpt_s jG33 rfl)
            obtain ⟨y34, hy34⟩ : ∃ z : Int32, z = pj_fi G33 171 1 := ⟨_, rfl⟩
            have ey34 : (pj_fi G33 171 1).toInt = y34.toInt := by rw [hy34]
            have ry34 : (0 : Int) ≤ y34.toInt ∧ y34.toInt ≤ 24 := by rw [hy34]; exact iG33.2.1 171 1 (0, 24) rfl
            show pj_X _ _ G33 130 [(0, .ref 171), (1, .int p), (2, .int bk), (3, .int v3), (4, .int v4), (5, .int v5)] [] _
            refine pj_X_of (fun r h => pj_R_to (G33, 131, [(0, .ref 171), (1, .int p), (2, .int bk), (3, .int v3), (4, .int v4), (5, .int v5)], [.int (Int32.ofInt 1)], 0, 0) 131 2 (fun _ => rfl) h) ?_
            have q35 : (pj_fi G33 171 1).toInt = y34.toInt := by rw [show pj_fi G33 171 1 = y34 from hy34.symm]
            exact pj_X_rt rfl rfl ⟨_, rfl, iG33, kG33, pj_i32 _⟩
    · intro G hI hK v3 v4 rv3 rv4 x0_ hm
      obtain ⟨y36, hy36⟩ : ∃ z : Int32, z = pj_fi G 171 1 := ⟨_, rfl⟩
      have ey36 : (pj_fi G 171 1).toInt = y36.toInt := by rw [hy36]
      have ry36 : (0 : Int) ≤ y36.toInt ∧ y36.toInt ≤ 24 := by rw [hy36]; exact hI.2.1 171 1 (0, 24) rfl
      refine pj_X_of (fun r h => pj_R_to (G, 150, [(0, .ref 171), (1, .int p), (2, .int bk), (3, .int v3), (4, .int v4)], [.ref 171, .int v4], 0, 0) 150 3 (fun _ => rfl) h) ?_
      refine pj_X_of (fun r h => pj_T_gi hI rfl rfl h) ?_
      show pj_X _ _ G 153 [(0, .ref 171), (1, .int p), (2, .int bk), (3, .int v3), (4, .int v4)] [.int (pj_fi G 171 5), .int v4] _
      obtain ⟨y37, hy37⟩ : ∃ z : Int32, z = pj_fi G 171 5 := ⟨_, rfl⟩
      refine pj_X_eqi hy37.symm ?_
      have ey37 : (pj_fi G 171 5).toInt = y37.toInt := by rw [hy37]
      have ry37 : (0 : Int) ≤ y37.toInt ∧ y37.toInt ≤ 6 := by rw [hy37]; exact hI.2.1 171 5 (0, 6) rfl
      cases b38 : pj_c1 .ge v4 y37 with
      | true =>
        have ub38 := pj_u_geT b38
        refine pj_X_of (fun r h => pj_R_icT 325 rfl rfl b38 h) ?_
        refine pj_X_of (fun r h => pj_R_to (G, 327, [(0, .ref 171), (1, .int p), (2, .int bk), (3, .int v3), (4, .int v4)], [.int ((Int8.ofInt (-2)).toInt32)], 0, 0) 327 2 (fun _ => rfl) h) ?_
        have q39 : (pj_fi G 171 1).toInt = y36.toInt := by rw [show pj_fi G 171 1 = y36 from hy36.symm]
        exact pj_X_rt rfl rfl ⟨_, rfl, hI, hK, pj_i32 _⟩
      | false =>
        have ub38 := pj_u_geF b38
        refine pj_X_of (fun r h => pj_R_icF rfl b38 h) ?_
        refine pj_X_of (fun r h => pj_R_to (G, 159, [(5, .int (Int32.ofInt 0)), (0, .ref 171), (1, .int p), (2, .int bk), (3, .int v3), (4, .int v4)], [], 0, 0) 159 3 (fun _ => rfl) h) ?_
        have q40 : (pj_fi G 171 1).toInt = y36.toInt := by rw [show pj_fi G 171 1 = y36 from hy36.symm]
        exact pj_X_sub [(0, .ref 171), (1, .int p), (2, .int bk), (3, .int v3), (4, .int v4), (5, .int (Int32.ofInt 0))] (show List.Nodup [0, 1, 2, 3, 4, 5] by decide) ⟨rfl, rfl, rfl, rfl, rfl, rfl, trivial⟩ (ih.2.2.2.1 G hI hK v3 v4 (Int32.ofInt 0) (pj_i32 _) ⟨by omega, by omega⟩ ⟨by omega, by omega⟩ (by omega) (by omega))
    · intro G hI hK v3 v4 v5 rv3 rv4 rv5 x0_ hm
      obtain ⟨y41, hy41⟩ : ∃ z : Int32, z = pj_fi G 171 1 := ⟨_, rfl⟩
      have ey41 : (pj_fi G 171 1).toInt = y41.toInt := by rw [hy41]
      have ry41 : (0 : Int) ≤ y41.toInt ∧ y41.toInt ≤ 24 := by rw [hy41]; exact hI.2.1 171 1 (0, 24) rfl
      refine pj_X_of (fun r h => pj_R_to (G, 162, [(0, .ref 171), (1, .int p), (2, .int bk), (3, .int v3), (4, .int v4), (5, .int v5)], [.ref 171, .int v5], 0, 0) 162 3 (fun _ => rfl) h) ?_
      refine pj_X_of (fun r h => pj_T_gi hI rfl rfl h) ?_
      show pj_X _ _ G 165 [(0, .ref 171), (1, .int p), (2, .int bk), (3, .int v3), (4, .int v4), (5, .int v5)] [.int (pj_fi G 171 4), .int v5] _
      obtain ⟨y42, hy42⟩ : ∃ z : Int32, z = pj_fi G 171 4 := ⟨_, rfl⟩
      refine pj_X_eqi hy42.symm ?_
      have ey42 : (pj_fi G 171 4).toInt = y42.toInt := by rw [hy42]
      have ry42 : (0 : Int) ≤ y42.toInt ∧ y42.toInt ≤ 10 := by rw [hy42]; exact hI.2.1 171 4 (0, 10) rfl
      cases b43 : pj_c1 .ge v5 y42 with
      | true =>
        have ub43 := pj_u_geT b43
        refine pj_X_of (fun r h => pj_R_icT 319 rfl rfl b43 h) ?_
        refine pj_X_of (fun r h => pj_R_to (G, 322, [(4, .int (v4 + Int32.ofInt 1)), (0, .ref 171), (1, .int p), (2, .int bk), (3, .int v3), (5, .int v5)], [], 0, 0) 322 2 (fun _ => rfl) h) ?_
        obtain ⟨z44, hz44⟩ : ∃ z : Int32, z = v4 + Int32.ofInt 1 := ⟨_, rfl⟩
        rw [← hz44]
        have fz44_0 : z44.toInt = v4.toInt + (Int32.ofInt 1).toInt := by rw [hz44]; exact pj_addI (by have := pj_i32 v4; have := pj_i32 (Int32.ofInt 1); omega) (by have := pj_i32 v4; have := pj_i32 (Int32.ofInt 1); omega)
        refine pj_X_of (fun r h => pj_R_to (G, 147, [(4, .int z44), (0, .ref 171), (1, .int p), (2, .int bk), (3, .int v3), (5, .int v5)], [], 0, 0) 147 2 (fun _ => rfl) h) ?_
        have q45 : (pj_fi G 171 1).toInt = y41.toInt := by rw [show pj_fi G 171 1 = y41 from hy41.symm]
        exact pj_X_sub [(0, .ref 171), (1, .int p), (2, .int bk), (3, .int v3), (4, .int z44)] (show List.Nodup [0, 1, 2, 3, 4] by decide) ⟨rfl, rfl, rfl, rfl, rfl, trivial⟩ (ih.2.2.1 G hI hK v3 z44 (pj_i32 _) ⟨by omega, by omega⟩ (by omega) (by omega))
      | false =>
        have ub43 := pj_u_geF b43
        refine pj_X_of (fun r h => pj_R_icF rfl b43 h) ?_
        refine pj_X_of (fun r h => pj_R_to (G, 175, [(0, .ref 171), (1, .int p), (2, .int bk), (3, .int v3), (4, .int v4), (5, .int v5)], [.ref 171, .int v5, .int v4, .int v3, .ref 171], 0, 0) 175 6 (fun _ => rfl) h) ?_
        refine pj_X_of (fun r h => pj_T_gr hI rfl rfl rfl h) ?_
        refine pj_X_of (fun r h => pj_R_to (G, 179, [(0, .ref 171), (1, .int p), (2, .int bk), (3, .int v3), (4, .int v4), (5, .int v5)], [.int p, .ref 178, .int v5, .int v4, .int v3, .ref 171], 0, 0) 179 2 (fun _ => rfl) h) ?_
        refine pj_X_of (fun r h => pj_T_il hI rfl rfl (by omega) (by omega) h) ?_
        show pj_X _ _ G 180 [(0, .ref 171), (1, .int p), (2, .int bk), (3, .int v3), (4, .int v4), (5, .int v5)] [.int (pj_ai G 178 p.toInt.toNat), .int v5, .int v4, .int v3, .ref 171] _
        obtain ⟨z46, hz46⟩ : ∃ z : Int32, z = pj_ai G 178 p.toInt.toNat := ⟨_, rfl⟩
        refine pj_X_eqi hz46.symm ?_
        have ez46 : (pj_ai G 178 p.toInt.toNat).toInt = z46.toInt := by rw [hz46]
        have q47 : (pj_fi G 171 1).toInt = y41.toInt := by rw [show pj_fi G 171 1 = y41 from hy41.symm]
        refine pj_X_ca (vs := [.ref 171, .int v3, .int v4, .int v5, .int z46]) rfl (fun _ => rfl) ⟨Nat.le_of_ble_eq_true rfl, Nat.le_of_ble_eq_true rfl, pj_T_rcv hI rfl⟩ ⟨rfl, rfl⟩ (pj_Y_up (by decide) (ct_238 G hI v3 v4 v5 z46 ⟨by omega, by omega⟩)) ?_
        rintro _ _ ⟨y48, rfl, rfl, ry48⟩
        show pj_X _ _ G 183 [(0, .ref 171), (1, .int p), (2, .int bk), (3, .int v3), (4, .int v4), (5, .int v5)] [.int y48] _
        refine pj_X_of (fun r h => pj_R_to (G, 189, [(6, .int y48), (0, .ref 171), (1, .int p), (2, .int bk), (3, .int v3), (4, .int v4), (5, .int v5)], [.int (v4 + (Int32.ofInt 1))], 0, 0) 189 5 (fun _ => rfl) h) ?_
        obtain ⟨z49, hz49⟩ : ∃ z : Int32, z = v4 + (Int32.ofInt 1) := ⟨_, rfl⟩
        refine pj_X_eqi hz49.symm ?_
        have fz49_0 : z49.toInt = v4.toInt + (Int32.ofInt 1).toInt := by rw [hz49]; exact pj_addI (by have := pj_i32 v4; have := pj_i32 (Int32.ofInt 1); omega) (by have := pj_i32 v4; have := pj_i32 (Int32.ofInt 1); omega)
        refine pj_X_of (fun r h => pj_R_to (G, 191, [(7, .int z49), (6, .int y48), (0, .ref 171), (1, .int p), (2, .int bk), (3, .int v3), (4, .int v4), (5, .int v5)], [], 0, 0) 191 2 (fun _ => rfl) h) ?_
        have q50 : (pj_fi G 171 1).toInt = y41.toInt := by rw [show pj_fi G 171 1 = y41 from hy41.symm]
        exact pj_X_sub [(0, .ref 171), (1, .int p), (2, .int bk), (3, .int v3), (4, .int v4), (5, .int v5), (6, .int y48), (7, .int z49)] (show List.Nodup [0, 1, 2, 3, 4, 5, 6, 7] by decide) ⟨rfl, rfl, rfl, rfl, rfl, rfl, rfl, rfl, trivial⟩ (ih.2.2.2.2.1 G hI hK v3 v4 v5 y48 z49 (pj_i32 _) ⟨by omega, by omega⟩ ⟨by omega, by omega⟩ (pj_i32 _) ⟨by omega, by omega⟩ (by omega) (by omega))
    · intro G hI hK v3 v4 v5 v6 v7 rv3 rv4 rv5 rv6 rv7 x0_ hm
      obtain ⟨y51, hy51⟩ : ∃ z : Int32, z = pj_fi G 171 1 := ⟨_, rfl⟩
      have ey51 : (pj_fi G 171 1).toInt = y51.toInt := by rw [hy51]
      have ry51 : (0 : Int) ≤ y51.toInt ∧ y51.toInt ≤ 24 := by rw [hy51]; exact hI.2.1 171 1 (0, 24) rfl
      refine pj_X_of (fun r h => pj_R_to (G, 194, [(0, .ref 171), (1, .int p), (2, .int bk), (3, .int v3), (4, .int v4), (5, .int v5), (6, .int v6), (7, .int v7)], [.ref 171, .int v7], 0, 0) 194 3 (fun _ => rfl) h) ?_
      refine pj_X_of (fun r h => pj_T_gi hI rfl rfl h) ?_
      show pj_X _ _ G 197 [(0, .ref 171), (1, .int p), (2, .int bk), (3, .int v3), (4, .int v4), (5, .int v5), (6, .int v6), (7, .int v7)] [.int (pj_fi G 171 5), .int v7] _
      obtain ⟨y52, hy52⟩ : ∃ z : Int32, z = pj_fi G 171 5 := ⟨_, rfl⟩
      refine pj_X_eqi hy52.symm ?_
      have ey52 : (pj_fi G 171 5).toInt = y52.toInt := by rw [hy52]
      have ry52 : (0 : Int) ≤ y52.toInt ∧ y52.toInt ≤ 6 := by rw [hy52]; exact hI.2.1 171 5 (0, 6) rfl
      cases b53 : pj_c1 .ge v7 y52 with
      | true =>
        have ub53 := pj_u_geT b53
        refine pj_X_of (fun r h => pj_R_icT 313 rfl rfl b53 h) ?_
        refine pj_X_of (fun r h => pj_R_to (G, 316, [(5, .int (v5 + Int32.ofInt 1)), (0, .ref 171), (1, .int p), (2, .int bk), (3, .int v3), (4, .int v4), (6, .int v6), (7, .int v7)], [], 0, 0) 316 2 (fun _ => rfl) h) ?_
        obtain ⟨z54, hz54⟩ : ∃ z : Int32, z = v5 + Int32.ofInt 1 := ⟨_, rfl⟩
        rw [← hz54]
        have fz54_0 : z54.toInt = v5.toInt + (Int32.ofInt 1).toInt := by rw [hz54]; exact pj_addI (by have := pj_i32 v5; have := pj_i32 (Int32.ofInt 1); omega) (by have := pj_i32 v5; have := pj_i32 (Int32.ofInt 1); omega)
        refine pj_X_of (fun r h => pj_R_to (G, 159, [(5, .int z54), (0, .ref 171), (1, .int p), (2, .int bk), (3, .int v3), (4, .int v4), (6, .int v6), (7, .int v7)], [], 0, 0) 159 2 (fun _ => rfl) h) ?_
        have q55 : (pj_fi G 171 1).toInt = y51.toInt := by rw [show pj_fi G 171 1 = y51 from hy51.symm]
        exact pj_X_sub [(0, .ref 171), (1, .int p), (2, .int bk), (3, .int v3), (4, .int v4), (5, .int z54)] (show List.Nodup [0, 1, 2, 3, 4, 5] by decide) ⟨rfl, rfl, rfl, rfl, rfl, rfl, trivial⟩ (ih.2.2.2.1 G hI hK v3 v4 z54 (pj_i32 _) ⟨by omega, by omega⟩ ⟨by omega, by omega⟩ (by omega) (by omega))
      | false =>
        have ub53 := pj_u_geF b53
        refine pj_X_of (fun r h => pj_R_icF rfl b53 h) ?_
        refine pj_X_of (fun r h => pj_R_to (G, 205, [(0, .ref 171), (1, .int p), (2, .int bk), (3, .int v3), (4, .int v4), (5, .int v5), (6, .int v6), (7, .int v7)], [.int v5, .int v4, .ref 171], 0, 0) 205 4 (fun _ => rfl) h) ?_
        have q56 : (pj_fi G 171 1).toInt = y51.toInt := by rw [show pj_fi G 171 1 = y51 from hy51.symm]
        refine pj_X_ca (vs := [.ref 171, .int v4, .int v5]) rfl (fun _ => rfl) ⟨Nat.le_of_ble_eq_true rfl, Nat.le_of_ble_eq_true rfl, pj_T_rcv hI rfl⟩ ⟨rfl, rfl⟩ (pj_Y_up (by decide) (ct_237 G hI v4 v5 ⟨by omega, by omega⟩ ⟨by omega, by omega⟩)) ?_
        rintro _ _ ⟨y57, rfl, rfl, ry57⟩
        show pj_X _ _ G 208 [(0, .ref 171), (1, .int p), (2, .int bk), (3, .int v3), (4, .int v4), (5, .int v5), (6, .int v6), (7, .int v7)] [.int y57] _
        cases b58 : pj_c1 .eq y57 0 with
        | true =>
          have ub58 := pj_u0_eqT b58
          refine pj_X_of (fun r h => pj_R_ifT 313 rfl rfl b58 h) ?_
          refine pj_X_of (fun r h => pj_R_to (G, 316, [(5, .int (v5 + Int32.ofInt 1)), (0, .ref 171), (1, .int p), (2, .int bk), (3, .int v3), (4, .int v4), (6, .int v6), (7, .int v7)], [], 0, 0) 316 2 (fun _ => rfl) h) ?_
          obtain ⟨z59, hz59⟩ : ∃ z : Int32, z = v5 + Int32.ofInt 1 := ⟨_, rfl⟩
          rw [← hz59]
          have fz59_0 : z59.toInt = v5.toInt + (Int32.ofInt 1).toInt := by rw [hz59]; exact pj_addI (by have := pj_i32 v5; have := pj_i32 (Int32.ofInt 1); omega) (by have := pj_i32 v5; have := pj_i32 (Int32.ofInt 1); omega)
          refine pj_X_of (fun r h => pj_R_to (G, 159, [(5, .int z59), (0, .ref 171), (1, .int p), (2, .int bk), (3, .int v3), (4, .int v4), (6, .int v6), (7, .int v7)], [], 0, 0) 159 2 (fun _ => rfl) h) ?_
          have q60 : (pj_fi G 171 1).toInt = y51.toInt := by rw [show pj_fi G 171 1 = y51 from hy51.symm]
          exact pj_X_sub [(0, .ref 171), (1, .int p), (2, .int bk), (3, .int v3), (4, .int v4), (5, .int z59)] (show List.Nodup [0, 1, 2, 3, 4, 5] by decide) ⟨rfl, rfl, rfl, rfl, rfl, rfl, trivial⟩ (ih.2.2.2.1 G hI hK v3 v4 z59 (pj_i32 _) ⟨by omega, by omega⟩ ⟨by omega, by omega⟩ (by omega) (by omega))
        | false =>
          have ub58 := pj_u0_eqF b58
          refine pj_X_of (fun r h => pj_R_ifF rfl b58 h) ?_
          refine pj_X_of (fun r h => pj_R_to (G, 214, [(8, .int (Int32.ofInt 0)), (0, .ref 171), (1, .int p), (2, .int bk), (3, .int v3), (4, .int v4), (5, .int v5), (6, .int v6), (7, .int v7)], [], 0, 0) 214 3 (fun _ => rfl) h) ?_
          have q61 : (pj_fi G 171 1).toInt = y51.toInt := by rw [show pj_fi G 171 1 = y51 from hy51.symm]
          exact pj_X_sub [(0, .ref 171), (1, .int p), (2, .int bk), (3, .int v3), (4, .int v4), (5, .int v5), (6, .int v6), (7, .int v7), (8, .int (Int32.ofInt 0))] (show List.Nodup [0, 1, 2, 3, 4, 5, 6, 7, 8] by decide) ⟨rfl, rfl, rfl, rfl, rfl, rfl, rfl, rfl, rfl, trivial⟩ (ih.2.2.2.2.2 G hI hK v3 v4 v5 v6 v7 (Int32.ofInt 0) (pj_i32 _) ⟨by omega, by omega⟩ ⟨by omega, by omega⟩ (pj_i32 _) ⟨by omega, by omega⟩ ⟨by omega, by omega⟩ (by omega) (by omega))
    · intro G hI hK v3 v4 v5 v6 v7 v8 rv3 rv4 rv5 rv6 rv7 rv8 x0_ hm
      obtain ⟨y62, hy62⟩ : ∃ z : Int32, z = pj_fi G 171 1 := ⟨_, rfl⟩
      have ey62 : (pj_fi G 171 1).toInt = y62.toInt := by rw [hy62]
      have ry62 : (0 : Int) ≤ y62.toInt ∧ y62.toInt ≤ 24 := by rw [hy62]; exact hI.2.1 171 1 (0, 24) rfl
      refine pj_X_of (fun r h => pj_R_to (G, 217, [(0, .ref 171), (1, .int p), (2, .int bk), (3, .int v3), (4, .int v4), (5, .int v5), (6, .int v6), (7, .int v7), (8, .int v8)], [.ref 171, .int v8], 0, 0) 217 3 (fun _ => rfl) h) ?_
      refine pj_X_of (fun r h => pj_T_gi hI rfl rfl h) ?_
      show pj_X _ _ G 220 [(0, .ref 171), (1, .int p), (2, .int bk), (3, .int v3), (4, .int v4), (5, .int v5), (6, .int v6), (7, .int v7), (8, .int v8)] [.int (pj_fi G 171 4), .int v8] _
      obtain ⟨y63, hy63⟩ : ∃ z : Int32, z = pj_fi G 171 4 := ⟨_, rfl⟩
      refine pj_X_eqi hy63.symm ?_
      have ey63 : (pj_fi G 171 4).toInt = y63.toInt := by rw [hy63]
      have ry63 : (0 : Int) ≤ y63.toInt ∧ y63.toInt ≤ 10 := by rw [hy63]; exact hI.2.1 171 4 (0, 10) rfl
      cases b64 : pj_c1 .ge v8 y63 with
      | true =>
        have ub64 := pj_u_geT b64
        refine pj_X_of (fun r h => pj_R_icT 307 rfl rfl b64 h) ?_
        refine pj_X_of (fun r h => pj_R_to (G, 310, [(7, .int (v7 + Int32.ofInt 1)), (0, .ref 171), (1, .int p), (2, .int bk), (3, .int v3), (4, .int v4), (5, .int v5), (6, .int v6), (8, .int v8)], [], 0, 0) 310 2 (fun _ => rfl) h) ?_
        obtain ⟨z65, hz65⟩ : ∃ z : Int32, z = v7 + Int32.ofInt 1 := ⟨_, rfl⟩
        rw [← hz65]
        have fz65_0 : z65.toInt = v7.toInt + (Int32.ofInt 1).toInt := by rw [hz65]; exact pj_addI (by have := pj_i32 v7; have := pj_i32 (Int32.ofInt 1); omega) (by have := pj_i32 v7; have := pj_i32 (Int32.ofInt 1); omega)
        refine pj_X_of (fun r h => pj_R_to (G, 191, [(7, .int z65), (0, .ref 171), (1, .int p), (2, .int bk), (3, .int v3), (4, .int v4), (5, .int v5), (6, .int v6), (8, .int v8)], [], 0, 0) 191 2 (fun _ => rfl) h) ?_
        have q66 : (pj_fi G 171 1).toInt = y62.toInt := by rw [show pj_fi G 171 1 = y62 from hy62.symm]
        exact pj_X_sub [(0, .ref 171), (1, .int p), (2, .int bk), (3, .int v3), (4, .int v4), (5, .int v5), (6, .int v6), (7, .int z65)] (show List.Nodup [0, 1, 2, 3, 4, 5, 6, 7] by decide) ⟨rfl, rfl, rfl, rfl, rfl, rfl, rfl, rfl, trivial⟩ (ih.2.2.2.2.1 G hI hK v3 v4 v5 v6 z65 (pj_i32 _) ⟨by omega, by omega⟩ ⟨by omega, by omega⟩ (pj_i32 _) ⟨by omega, by omega⟩ (by omega) (by omega))
      | false =>
        have ub64 := pj_u_geF b64
        refine pj_X_of (fun r h => pj_R_icF rfl b64 h) ?_
        refine pj_X_of (fun r h => pj_R_to (G, 227, [(0, .ref 171), (1, .int p), (2, .int bk), (3, .int v3), (4, .int v4), (5, .int v5), (6, .int v6), (7, .int v7), (8, .int v8)], [.int v5, .int v8], 0, 0) 227 3 (fun _ => rfl) h) ?_
        cases b67 : pj_c1 .eq v8 v5 with
        | true =>
          have ub67 := pj_u_eqT b67
          refine pj_X_of (fun r h => pj_R_icT 301 rfl rfl b67 h) ?_
          refine pj_X_of (fun r h => pj_R_to (G, 304, [(8, .int (v8 + Int32.ofInt 1)), (0, .ref 171), (1, .int p), (2, .int bk), (3, .int v3), (4, .int v4), (5, .int v5), (6, .int v6), (7, .int v7)], [], 0, 0) 304 2 (fun _ => rfl) h) ?_
          obtain ⟨z68, hz68⟩ : ∃ z : Int32, z = v8 + Int32.ofInt 1 := ⟨_, rfl⟩
          rw [← hz68]
          have fz68_0 : z68.toInt = v8.toInt + (Int32.ofInt 1).toInt := by rw [hz68]; exact pj_addI (by have := pj_i32 v8; have := pj_i32 (Int32.ofInt 1); omega) (by have := pj_i32 v8; have := pj_i32 (Int32.ofInt 1); omega)
          refine pj_X_of (fun r h => pj_R_to (G, 214, [(8, .int z68), (0, .ref 171), (1, .int p), (2, .int bk), (3, .int v3), (4, .int v4), (5, .int v5), (6, .int v6), (7, .int v7)], [], 0, 0) 214 2 (fun _ => rfl) h) ?_
          have q69 : (pj_fi G 171 1).toInt = y62.toInt := by rw [show pj_fi G 171 1 = y62 from hy62.symm]
          exact pj_X_sub [(0, .ref 171), (1, .int p), (2, .int bk), (3, .int v3), (4, .int v4), (5, .int v5), (6, .int v6), (7, .int v7), (8, .int z68)] (show List.Nodup [0, 1, 2, 3, 4, 5, 6, 7, 8] by decide) ⟨rfl, rfl, rfl, rfl, rfl, rfl, rfl, rfl, rfl, trivial⟩ (ih.2.2.2.2.2 G hI hK v3 v4 v5 v6 v7 z68 (pj_i32 _) ⟨by omega, by omega⟩ ⟨by omega, by omega⟩ (pj_i32 _) ⟨by omega, by omega⟩ ⟨by omega, by omega⟩ (by omega) (by omega))
        | false =>
          have ub67 := pj_u_eqF b67
          refine pj_X_of (fun r h => pj_R_icF rfl b67 h) ?_
          refine pj_X_of (fun r h => pj_R_to (G, 235, [(0, .ref 171), (1, .int p), (2, .int bk), (3, .int v3), (4, .int v4), (5, .int v5), (6, .int v6), (7, .int v7), (8, .int v8)], [.int v8, .int v7, .ref 171], 0, 0) 235 4 (fun _ => rfl) h) ?_
          have q70 : (pj_fi G 171 1).toInt = y62.toInt := by rw [show pj_fi G 171 1 = y62 from hy62.symm]
          refine pj_X_ca (vs := [.ref 171, .int v7, .int v8]) rfl (fun _ => rfl) ⟨Nat.le_of_ble_eq_true rfl, Nat.le_of_ble_eq_true rfl, pj_T_rcv hI rfl⟩ ⟨rfl, rfl⟩ (pj_Y_up (by decide) (ct_237 G hI v7 v8 ⟨by omega, by omega⟩ ⟨by omega, by omega⟩)) ?_
          rintro _ _ ⟨y71, rfl, rfl, ry71⟩
          show pj_X _ _ G 238 [(0, .ref 171), (1, .int p), (2, .int bk), (3, .int v3), (4, .int v4), (5, .int v5), (6, .int v6), (7, .int v7), (8, .int v8)] [.int y71] _
          cases b72 : pj_c1 .eq y71 0 with
          | true =>
            have ub72 := pj_u0_eqT b72
            refine pj_X_of (fun r h => pj_R_ifT 301 rfl rfl b72 h) ?_
            refine pj_X_of (fun r h => pj_R_to (G, 304, [(8, .int (v8 + Int32.ofInt 1)), (0, .ref 171), (1, .int p), (2, .int bk), (3, .int v3), (4, .int v4), (5, .int v5), (6, .int v6), (7, .int v7)], [], 0, 0) 304 2 (fun _ => rfl) h) ?_
            obtain ⟨z73, hz73⟩ : ∃ z : Int32, z = v8 + Int32.ofInt 1 := ⟨_, rfl⟩
            rw [← hz73]
            have fz73_0 : z73.toInt = v8.toInt + (Int32.ofInt 1).toInt := by rw [hz73]; exact pj_addI (by have := pj_i32 v8; have := pj_i32 (Int32.ofInt 1); omega) (by have := pj_i32 v8; have := pj_i32 (Int32.ofInt 1); omega)
            refine pj_X_of (fun r h => pj_R_to (G, 214, [(8, .int z73), (0, .ref 171), (1, .int p), (2, .int bk), (3, .int v3), (4, .int v4), (5, .int v5), (6, .int v6), (7, .int v7)], [], 0, 0) 214 2 (fun _ => rfl) h) ?_
            have q74 : (pj_fi G 171 1).toInt = y62.toInt := by rw [show pj_fi G 171 1 = y62 from hy62.symm]
            exact pj_X_sub [(0, .ref 171), (1, .int p), (2, .int bk), (3, .int v3), (4, .int v4), (5, .int v5), (6, .int v6), (7, .int v7), (8, .int z73)] (show List.Nodup [0, 1, 2, 3, 4, 5, 6, 7, 8] by decide) ⟨rfl, rfl, rfl, rfl, rfl, rfl, rfl, rfl, rfl, trivial⟩ (ih.2.2.2.2.2 G hI hK v3 v4 v5 v6 v7 z73 (pj_i32 _) ⟨by omega, by omega⟩ ⟨by omega, by omega⟩ (pj_i32 _) ⟨by omega, by omega⟩ ⟨by omega, by omega⟩ (by omega) (by omega))
          | false =>
            have ub72 := pj_u0_eqF b72
            refine pj_X_of (fun r h => pj_R_ifF rfl b72 h) ?_
            refine pj_X_of (fun r h => pj_R_to (G, 252, [(0, .ref 171), (1, .int p), (2, .int bk), (3, .int v3), (4, .int v4), (5, .int v5), (6, .int v6), (7, .int v7), (8, .int v8)], [.ref 171, .int v8, .int v7, .int v6, .ref 171, .int bk, .int p, .ref 171], 0, 0) 252 9 (fun _ => rfl) h) ?_
            refine pj_X_of (fun r h => pj_T_gr hI rfl rfl rfl h) ?_
            refine pj_X_of (fun r h => pj_R_to (G, 256, [(0, .ref 171), (1, .int p), (2, .int bk), (3, .int v3), (4, .int v4), (5, .int v5), (6, .int v6), (7, .int v7), (8, .int v8)], [.int p, .ref 178, .int v8, .int v7, .int v6, .ref 171, .int bk, .int p, .ref 171], 0, 0) 256 2 (fun _ => rfl) h) ?_
            refine pj_X_of (fun r h => pj_T_il hI rfl rfl (by omega) (by omega) h) ?_
            show pj_X _ _ G 257 [(0, .ref 171), (1, .int p), (2, .int bk), (3, .int v3), (4, .int v4), (5, .int v5), (6, .int v6), (7, .int v7), (8, .int v8)] [.int (pj_ai G 178 p.toInt.toNat), .int v8, .int v7, .int v6, .ref 171, .int bk, .int p, .ref 171] _
            obtain ⟨z75, hz75⟩ : ∃ z : Int32, z = pj_ai G 178 p.toInt.toNat := ⟨_, rfl⟩
            refine pj_X_eqi hz75.symm ?_
            have ez75 : (pj_ai G 178 p.toInt.toNat).toInt = z75.toInt := by rw [hz75]
            have q76 : (pj_fi G 171 1).toInt = y62.toInt := by rw [show pj_fi G 171 1 = y62 from hy62.symm]
            refine pj_X_ca (vs := [.ref 171, .int v6, .int v7, .int v8, .int z75]) rfl (fun _ => rfl) ⟨Nat.le_of_ble_eq_true rfl, Nat.le_of_ble_eq_true rfl, pj_T_rcv hI rfl⟩ ⟨rfl, rfl⟩ (pj_Y_up (by decide) (ct_238 G hI v6 v7 v8 z75 ⟨by omega, by omega⟩)) ?_
            rintro _ _ ⟨y77, rfl, rfl, ry77⟩
            show pj_X _ _ G 260 [(0, .ref 171), (1, .int p), (2, .int bk), (3, .int v3), (4, .int v4), (5, .int v5), (6, .int v6), (7, .int v7), (8, .int v8)] [.int y77, .int bk, .int p, .ref 171] _
            have q78 : (pj_fi G 171 1).toInt = y62.toInt := by rw [show pj_fi G 171 1 = y62 from hy62.symm]
            refine pj_X_ca (vs := [.ref 171, .int p, .int bk, .int y77]) rfl (fun _ => rfl) ⟨Nat.le_of_ble_eq_true rfl, Nat.le_of_ble_eq_true rfl, pj_T_rcv hI rfl⟩ ⟨rfl, rfl⟩ (pj_Y_up (by decide) (ct_239 G hI p bk y77 ⟨by omega, by omega⟩)) ?_
            rintro _ _ ⟨y79, rfl, rfl, ry79⟩
            show pj_X _ _ G 263 [(0, .ref 171), (1, .int p), (2, .int bk), (3, .int v3), (4, .int v4), (5, .int v5), (6, .int v6), (7, .int v7), (8, .int v8)] [.int y79] _
            cases b80 : pj_c1 .eq y79 0 with
            | true =>
              have ub80 := pj_u0_eqT b80
              refine pj_X_of (fun r h => pj_R_ifT 301 rfl rfl b80 h) ?_
              refine pj_X_of (fun r h => pj_R_to (G, 304, [(8, .int (v8 + Int32.ofInt 1)), (0, .ref 171), (1, .int p), (2, .int bk), (3, .int v3), (4, .int v4), (5, .int v5), (6, .int v6), (7, .int v7)], [], 0, 0) 304 2 (fun _ => rfl) h) ?_
              obtain ⟨z81, hz81⟩ : ∃ z : Int32, z = v8 + Int32.ofInt 1 := ⟨_, rfl⟩
              rw [← hz81]
              have fz81_0 : z81.toInt = v8.toInt + (Int32.ofInt 1).toInt := by rw [hz81]; exact pj_addI (by have := pj_i32 v8; have := pj_i32 (Int32.ofInt 1); omega) (by have := pj_i32 v8; have := pj_i32 (Int32.ofInt 1); omega)
              refine pj_X_of (fun r h => pj_R_to (G, 214, [(8, .int z81), (0, .ref 171), (1, .int p), (2, .int bk), (3, .int v3), (4, .int v4), (5, .int v5), (6, .int v6), (7, .int v7)], [], 0, 0) 214 2 (fun _ => rfl) h) ?_
              have q82 : (pj_fi G 171 1).toInt = y62.toInt := by rw [show pj_fi G 171 1 = y62 from hy62.symm]
              exact pj_X_sub [(0, .ref 171), (1, .int p), (2, .int bk), (3, .int v3), (4, .int v4), (5, .int v5), (6, .int v6), (7, .int v7), (8, .int z81)] (show List.Nodup [0, 1, 2, 3, 4, 5, 6, 7, 8] by decide) ⟨rfl, rfl, rfl, rfl, rfl, rfl, rfl, rfl, rfl, trivial⟩ (ih.2.2.2.2.2 G hI hK v3 v4 v5 v6 v7 z81 (pj_i32 _) ⟨by omega, by omega⟩ ⟨by omega, by omega⟩ (pj_i32 _) ⟨by omega, by omega⟩ ⟨by omega, by omega⟩ (by omega) (by omega))
            | false =>
              have ub80 := pj_u0_eqF b80
              refine pj_X_of (fun r h => pj_R_ifF rfl b80 h) ?_
              refine pj_X_of (fun r h => pj_R_to (G, 268, [(0, .ref 171), (1, .int p), (2, .int bk), (3, .int v3), (4, .int v4), (5, .int v5), (6, .int v6), (7, .int v7), (8, .int v8)], [.int (Int32.ofInt 0), .ref 171], 0, 0) 268 3 (fun _ => rfl) h) ?_
              refine pj_X_of (fun r h => pj_T_pf hI rfl rfl rfl h) ?_
              show pj_X _ _ (pj_wv G 171 1 (.int (Int32.ofInt 0))) 271 [(0, .ref 171), (1, .int p), (2, .int bk), (3, .int v3), (4, .int v4), (5, .int v5), (6, .int v6), (7, .int v7), (8, .int v8)] [] _
              obtain ⟨G83, hG83⟩ : ∃ H, H = pj_wv G 171 1 (.int (Int32.ofInt 0)) := ⟨_, rfl⟩
              have iG83 : pj_Inv G83 := by rw [hG83]; exact pj_Inv_wi hI (ci := 12) rfl (fun q hq => by cases hq; exact ⟨by show (0 : Int) ≤ _; omega, by show _ ≤ (24 : Int); omega⟩)
              have kG83 : pj_kpt kc_240 G0 G83 := by rw [hG83]; exact pj_kpt_v hK rfl
              rw [← hG83]
              refine pj_X_of (fun r h => pj_R_to (G83, 275, [(0, .ref 171), (1, .int p), (2, .int bk), (3, .int v3), (4, .int v4), (5, .int v5), (6, .int v6), (7, .int v7), (8, .int v8)], [.long v4.toInt64, .ref 171], 0, 0) 275 4 (fun _ => rfl) h) ?_
              have q84 : (pj_fi G83 171 1).toInt = (Int32.ofInt 0).toInt := by rw [show pj_fi G83 171 1 = Int32.ofInt 0 from by rw [hG83]; exact pj_fi_wi hI.1 (ci := 12) rfl _]
              have lc85 : (v4.toInt64).toInt = v4.toInt := Int32.toInt_toInt64 _
              refine pj_X_ca (vs := [.ref 171, .long v4.toInt64]) rfl (fun _ => rfl) ⟨Nat.le_of_ble_eq_true rfl, Nat.le_of_ble_eq_true rfl, pj_T_rcv iG83 rfl⟩ ⟨rfl, rfl⟩ (pj_Y_up (by decide) (ct_174x G83 iG83 v4.toInt64 (by omega))) ?_
              rintro _ G87 ⟨rfl, iG87, jG87, eG87, fy86⟩
              replace eG87 := eG87 _ rfl
              have kG87 : pj_kpt kc_240 G0 G87 := pj_kpt_t kG83 (pj_kpt_s jG87 rfl)
              obtain ⟨y88, hy88⟩ : ∃ z : Int32, z = pj_fi G87 171 1 := ⟨_, rfl⟩
              have ey88 : (pj_fi G87 171 1).toInt = y88.toInt := by rw [hy88]
              have ry88 : (0 : Int) ≤ y88.toInt ∧ y88.toInt ≤ 24 := by rw [hy88]; exact iG87.2.1 171 1 (0, 24) rfl
              show pj_X _ _ G87 278 [(0, .ref 171), (1, .int p), (2, .int bk), (3, .int v3), (4, .int v4), (5, .int v5), (6, .int v6), (7, .int v7), (8, .int v8)] [] _
              refine pj_X_of (fun r h => pj_R_to (G87, 282, [(0, .ref 171), (1, .int p), (2, .int bk), (3, .int v3), (4, .int v4), (5, .int v5), (6, .int v6), (7, .int v7), (8, .int v8)], [.long v5.toInt64, .ref 171], 0, 0) 282 4 (fun _ => rfl) h) ?_
              have q89 : (pj_fi G87 171 1).toInt = y88.toInt := by rw [show pj_fi G87 171 1 = y88 from hy88.symm]
              have lc90 : (v5.toInt64).toInt = v5.toInt := Int32.toInt_toInt64 _
              refine pj_X_ca (vs := [.ref 171, .long v5.toInt64]) rfl (fun _ => rfl) ⟨Nat.le_of_ble_eq_true rfl, Nat.le_of_ble_eq_true rfl, pj_T_rcv iG87 rfl⟩ ⟨rfl, rfl⟩ (pj_Y_up (by decide) (ct_174x G87 iG87 v5.toInt64 (by omega))) ?_
              rintro _ G92 ⟨rfl, iG92, jG92, eG92, fy91⟩
              replace eG92 := eG92 _ rfl
              have kG92 : pj_kpt kc_240 G0 G92 := pj_kpt_t kG87 (pj_kpt_s jG92 rfl)
              obtain ⟨y93, hy93⟩ : ∃ z : Int32, z = pj_fi G92 171 1 := ⟨_, rfl⟩
              have ey93 : (pj_fi G92 171 1).toInt = y93.toInt := by rw [hy93]
              have ry93 : (0 : Int) ≤ y93.toInt ∧ y93.toInt ≤ 24 := by rw [hy93]; exact iG92.2.1 171 1 (0, 24) rfl
              show pj_X _ _ G92 285 [(0, .ref 171), (1, .int p), (2, .int bk), (3, .int v3), (4, .int v4), (5, .int v5), (6, .int v6), (7, .int v7), (8, .int v8)] [] _
              refine pj_X_of (fun r h => pj_R_to (G92, 289, [(0, .ref 171), (1, .int p), (2, .int bk), (3, .int v3), (4, .int v4), (5, .int v5), (6, .int v6), (7, .int v7), (8, .int v8)], [.long v7.toInt64, .ref 171], 0, 0) 289 4 (fun _ => rfl) h) ?_
              have q94 : (pj_fi G92 171 1).toInt = y93.toInt := by rw [show pj_fi G92 171 1 = y93 from hy93.symm]
              have lc95 : (v7.toInt64).toInt = v7.toInt := Int32.toInt_toInt64 _
              refine pj_X_ca (vs := [.ref 171, .long v7.toInt64]) rfl (fun _ => rfl) ⟨Nat.le_of_ble_eq_true rfl, Nat.le_of_ble_eq_true rfl, pj_T_rcv iG92 rfl⟩ ⟨rfl, rfl⟩ (pj_Y_up (by decide) (ct_174x G92 iG92 v7.toInt64 (by omega))) ?_
              rintro _ G97 ⟨rfl, iG97, jG97, eG97, fy96⟩
              replace eG97 := eG97 _ rfl
              have kG97 : pj_kpt kc_240 G0 G97 := pj_kpt_t kG92 (pj_kpt_s jG97 rfl)
              obtain ⟨y98, hy98⟩ : ∃ z : Int32, z = pj_fi G97 171 1 := ⟨_, rfl⟩
              have ey98 : (pj_fi G97 171 1).toInt = y98.toInt := by rw [hy98]
              have ry98 : (0 : Int) ≤ y98.toInt ∧ y98.toInt ≤ 24 := by rw [hy98]; exact iG97.2.1 171 1 (0, 24) rfl
              show pj_X _ _ G97 292 [(0, .ref 171), (1, .int p), (2, .int bk), (3, .int v3), (4, .int v4), (5, .int v5), (6, .int v6), (7, .int v7), (8, .int v8)] [] _
              refine pj_X_of (fun r h => pj_R_to (G97, 296, [(0, .ref 171), (1, .int p), (2, .int bk), (3, .int v3), (4, .int v4), (5, .int v5), (6, .int v6), (7, .int v7), (8, .int v8)], [.long v8.toInt64, .ref 171], 0, 0) 296 4 (fun _ => rfl) h) ?_
              have q99 : (pj_fi G97 171 1).toInt = y98.toInt := by rw [show pj_fi G97 171 1 = y98 from hy98.symm]
              have lc100 : (v8.toInt64).toInt = v8.toInt := Int32.toInt_toInt64 _
              refine pj_X_ca (vs := [.ref 171, .long v8.toInt64]) rfl (fun _ => rfl) ⟨Nat.le_of_ble_eq_true rfl, Nat.le_of_ble_eq_true rfl, pj_T_rcv iG97 rfl⟩ ⟨rfl, rfl⟩ (pj_Y_up (by decide) (ct_174x G97 iG97 v8.toInt64 (by omega))) ?_
              rintro _ G102 ⟨rfl, iG102, jG102, eG102, fy101⟩
              replace eG102 := eG102 _ rfl
              have kG102 : pj_kpt kc_240 G0 G102 := pj_kpt_t kG97 (pj_kpt_s jG102 rfl)
              obtain ⟨y103, hy103⟩ : ∃ z : Int32, z = pj_fi G102 171 1 := ⟨_, rfl⟩
              have ey103 : (pj_fi G102 171 1).toInt = y103.toInt := by rw [hy103]
              have ry103 : (0 : Int) ≤ y103.toInt ∧ y103.toInt ≤ 24 := by rw [hy103]; exact iG102.2.1 171 1 (0, 24) rfl
              show pj_X _ _ G102 299 [(0, .ref 171), (1, .int p), (2, .int bk), (3, .int v3), (4, .int v4), (5, .int v5), (6, .int v6), (7, .int v7), (8, .int v8)] [] _
              refine pj_X_of (fun r h => pj_R_to (G102, 300, [(0, .ref 171), (1, .int p), (2, .int bk), (3, .int v3), (4, .int v4), (5, .int v5), (6, .int v6), (7, .int v7), (8, .int v8)], [.int (Int32.ofInt 2)], 0, 0) 300 2 (fun _ => rfl) h) ?_
              have q104 : (pj_fi G102 171 1).toInt = y103.toInt := by rw [show pj_fi G102 171 1 = y103 from hy103.symm]
              exact pj_X_rt rfl rfl ⟨_, rfl, iG102, kG102, pj_i32 _⟩
theorem ct_240 (G0 : pj_G) (hI : pj_Inv G0) (p : Int32) (bk : Int32) : pj_Y 5 240 [.ref 171, .int p, .int bk] G0 (fun v G' => ∃ y : Int32, v = some (.int y) ∧ pj_Inv G' ∧ pj_kpt kc_240 G0 G' ∧ ((-2147483648 : Int) ≤ y.toInt ∧ y.toInt ≤ 2147483647)) := by
  have c0_ : ((Int8.ofInt (-2)).toInt32).toInt = -2 := by decide
  have c1_ : (Int32.ofInt (-1)).toInt = -1 := by decide
  have c2_ : (Int32.ofInt 0).toInt = 0 := by decide
  have c3_ : (Int32.ofInt 1).toInt = 1 := by decide
  have c4_ : (Int32.ofInt 2).toInt = 2 := by decide
  refine pj_Y_X (M := pj_m240) rfl rfl (Nat.le_of_ble_eq_true rfl) ?_
  have hK : pj_kpt kc_240 G0 G0 := pj_kpt_r _ _
  show pj_X _ _ G0 0 [(0, .ref 171), (1, .int p), (2, .int bk)] [] _
  obtain ⟨y105, hy105⟩ : ∃ z : Int32, z = pj_fi G0 171 1 := ⟨_, rfl⟩
  have ey105 : (pj_fi G0 171 1).toInt = y105.toInt := by rw [hy105]
  have ry105 : (0 : Int) ≤ y105.toInt ∧ y105.toInt ≤ 24 := by rw [hy105]; exact hI.2.1 171 1 (0, 24) rfl
  refine pj_X_of (fun r h => pj_R_to (G0, 2, [(0, .ref 171), (1, .int p), (2, .int bk)], [.int (Int32.ofInt 0), .ref 171], 0, 0) 2 3 (fun _ => rfl) h) ?_
  refine pj_X_of (fun r h => pj_T_pf hI rfl rfl rfl h) ?_
  show pj_X _ _ (pj_wv G0 171 0 (.int (Int32.ofInt 0))) 5 [(0, .ref 171), (1, .int p), (2, .int bk)] [] _
  obtain ⟨G106, hG106⟩ : ∃ H, H = pj_wv G0 171 0 (.int (Int32.ofInt 0)) := ⟨_, rfl⟩
  have iG106 : pj_Inv G106 := by rw [hG106]; exact pj_Inv_wi hI (ci := 12) rfl (fun q hq => by cases hq)
  have kG106 : pj_kpt kc_240 G0 G106 := by rw [hG106]; exact pj_kpt_v hK rfl
  rw [← hG106]
  refine pj_X_of (fun r h => pj_R_to (G106, 7, [(0, .ref 171), (1, .int p), (2, .int bk)], [.int p, .ref 171], 0, 0) 7 3 (fun _ => rfl) h) ?_
  have q107 : (pj_fi G106 171 1).toInt = y105.toInt := by rw [show pj_fi G106 171 1 = y105 from by rw [hG106, pj_fi_wv_ne _ _ _ _ _ _ (by decide)]; exact hy105.symm]
  refine pj_X_ca (vs := [.ref 171, .int p]) rfl (fun _ => rfl) ⟨Nat.le_of_ble_eq_true rfl, Nat.le_of_ble_eq_true rfl, pj_T_rcv iG106 rfl⟩ ⟨rfl, rfl⟩ (pj_Y_up (by decide) (ct_178x G106 iG106 p)) ?_
  rintro _ _ ⟨y108, rfl, rfl, ry108, ey108, fy108⟩
  replace ey108 := ey108 _ rfl
  show pj_X _ _ G106 10 [(0, .ref 171), (1, .int p), (2, .int bk)] [.int y108] _
  cases b109 : pj_c1 .eq y108 0 with
  | true =>
    have ub109 := pj_u0_eqT b109
    refine pj_X_of (fun r h => pj_R_ifT 21 rfl rfl b109 h) ?_
    refine pj_X_of (fun r h => pj_R_to (G106, 22, [(0, .ref 171), (1, .int p), (2, .int bk)], [.int (Int32.ofInt (-1))], 0, 0) 22 2 (fun _ => rfl) h) ?_
    have q110 : (pj_fi G106 171 1).toInt = y105.toInt := by rw [show pj_fi G106 171 1 = y105 from by rw [hG106, pj_fi_wv_ne _ _ _ _ _ _ (by decide)]; exact hy105.symm]
    exact pj_X_rt rfl rfl ⟨_, rfl, iG106, kG106, pj_i32 _⟩
  | false =>
    have ub109 := pj_u0_eqF b109
    refine pj_X_of (fun r h => pj_R_ifF rfl b109 h) ?_
    refine pj_X_of (fun r h => pj_R_to (G106, 15, [(0, .ref 171), (1, .int p), (2, .int bk)], [.int bk, .ref 171], 0, 0) 15 3 (fun _ => rfl) h) ?_
    have q111 : (pj_fi G106 171 1).toInt = y105.toInt := by rw [show pj_fi G106 171 1 = y105 from by rw [hG106, pj_fi_wv_ne _ _ _ _ _ _ (by decide)]; exact hy105.symm]
    refine pj_X_ca (vs := [.ref 171, .int bk]) rfl (fun _ => rfl) ⟨Nat.le_of_ble_eq_true rfl, Nat.le_of_ble_eq_true rfl, pj_T_rcv iG106 rfl⟩ ⟨rfl, rfl⟩ (pj_Y_up (by decide) (ct_175x G106 iG106 bk)) ?_
    rintro _ _ ⟨y112, rfl, rfl, ry112, ey112, fy112⟩
    replace ey112 := ey112 _ rfl
    show pj_X _ _ G106 18 [(0, .ref 171), (1, .int p), (2, .int bk)] [.int y112] _
    cases b113 : pj_c1 .ne y112 0 with
    | true =>
      have ub113 := pj_u0_neT b113
      refine pj_X_of (fun r h => pj_R_ifT 23 rfl rfl b113 h) ?_
      refine pj_X_of (fun r h => pj_R_to (G106, 26, [(0, .ref 171), (1, .int p), (2, .int bk)], [.ref 171, .int (Int32.ofInt 0), .ref 171], 0, 0) 26 4 (fun _ => rfl) h) ?_
      refine pj_X_of (fun r h => pj_T_gr iG106 rfl rfl rfl h) ?_
      refine pj_X_of (fun r h => pj_R_to (G106, 30, [(0, .ref 171), (1, .int p), (2, .int bk)], [.int p, .ref 178, .int (Int32.ofInt 0), .ref 171], 0, 0) 30 2 (fun _ => rfl) h) ?_
      refine pj_X_of (fun r h => pj_T_il iG106 rfl rfl (by omega) (by omega) h) ?_
      show pj_X _ _ G106 31 [(0, .ref 171), (1, .int p), (2, .int bk)] [.int (pj_ai G106 178 p.toInt.toNat), .int (Int32.ofInt 0), .ref 171] _
      obtain ⟨z114, hz114⟩ : ∃ z : Int32, z = pj_ai G106 178 p.toInt.toNat := ⟨_, rfl⟩
      refine pj_X_eqi hz114.symm ?_
      have ez114 : (pj_ai G106 178 p.toInt.toNat).toInt = z114.toInt := by rw [hz114]
      have q115 : (pj_fi G106 171 1).toInt = y105.toInt := by rw [show pj_fi G106 171 1 = y105 from by rw [hG106, pj_fi_wv_ne _ _ _ _ _ _ (by decide)]; exact hy105.symm]
      refine pj_X_ca (vs := [.ref 171, .int (Int32.ofInt 0), .int z114]) rfl (fun _ => rfl) ⟨Nat.le_of_ble_eq_true rfl, Nat.le_of_ble_eq_true rfl, pj_T_rcv iG106 rfl⟩ ⟨rfl, rfl⟩ (pj_Y_up (by decide) (ct_206x G106 iG106 (Int32.ofInt 0) z114)) ?_
      rintro _ _ ⟨y116, rfl, rfl, ry116, ey116, fy116⟩
      replace ey116 := ey116 _ rfl
      show pj_X _ _ G106 34 [(0, .ref 171), (1, .int p), (2, .int bk)] [.int y116] _
      refine pj_X_of (fun r h => pj_R_to (G106, 39, [(3, .int y116), (0, .ref 171), (1, .int p), (2, .int bk)], [.int y116, .int bk, .int p, .ref 171], 0, 0) 39 6 (fun _ => rfl) h) ?_
      have q117 : (pj_fi G106 171 1).toInt = y105.toInt := by rw [show pj_fi G106 171 1 = y105 from by rw [hG106, pj_fi_wv_ne _ _ _ _ _ _ (by decide)]; exact hy105.symm]
      refine pj_X_ca (vs := [.ref 171, .int p, .int bk, .int y116]) rfl (fun _ => rfl) ⟨Nat.le_of_ble_eq_true rfl, Nat.le_of_ble_eq_true rfl, pj_T_rcv iG106 rfl⟩ ⟨rfl, rfl⟩ (pj_Y_up (by decide) (ct_239 G106 iG106 p bk y116 ⟨by omega, by omega⟩)) ?_
      rintro _ _ ⟨y118, rfl, rfl, ry118⟩
      show pj_X _ _ G106 42 [(3, .int y116), (0, .ref 171), (1, .int p), (2, .int bk)] [.int y118] _
      cases b119 : pj_c1 .eq y118 0 with
      | true =>
        have ub119 := pj_u0_eqT b119
        refine pj_X_of (fun r h => pj_R_ifT 52 rfl rfl b119 h) ?_
        refine pj_X_of (fun r h => pj_R_to (G106, 55, [(4, .int (Int32.ofInt 0)), (3, .int y116), (0, .ref 171), (1, .int p), (2, .int bk)], [], 0, 0) 55 3 (fun _ => rfl) h) ?_
        have q120 : (pj_fi G106 171 1).toInt = y105.toInt := by rw [show pj_fi G106 171 1 = y105 from by rw [hG106, pj_fi_wv_ne _ _ _ _ _ _ (by decide)]; exact hy105.symm]
        exact pj_X_sub [(0, .ref 171), (1, .int p), (2, .int bk), (3, .int y116), (4, .int (Int32.ofInt 0))] (show List.Nodup [0, 1, 2, 3, 4] by decide) ⟨rfl, rfl, rfl, rfl, rfl, trivial⟩ ((lp_ct_240 G0 hI p bk  200001).1 G106 iG106 kG106 y116 (Int32.ofInt 0) (pj_i32 _) ⟨by omega, by omega⟩ (by omega) (by omega))
      | false =>
        have ub119 := pj_u0_eqF b119
        refine pj_X_of (fun r h => pj_R_ifF rfl b119 h) ?_
        refine pj_X_of (fun r h => pj_R_to (G106, 47, [(3, .int y116), (0, .ref 171), (1, .int p), (2, .int bk)], [.int (Int32.ofInt 0), .ref 171], 0, 0) 47 3 (fun _ => rfl) h) ?_
        refine pj_X_of (fun r h => pj_T_pf iG106 rfl rfl rfl h) ?_
        show pj_X _ _ (pj_wv G106 171 1 (.int (Int32.ofInt 0))) 50 [(3, .int y116), (0, .ref 171), (1, .int p), (2, .int bk)] [] _
        obtain ⟨G121, hG121⟩ : ∃ H, H = pj_wv G106 171 1 (.int (Int32.ofInt 0)) := ⟨_, rfl⟩
        have iG121 : pj_Inv G121 := by rw [hG121]; exact pj_Inv_wi iG106 (ci := 12) rfl (fun q hq => by cases hq; exact ⟨by show (0 : Int) ≤ _; omega, by show _ ≤ (24 : Int); omega⟩)
        have kG121 : pj_kpt kc_240 G0 G121 := by rw [hG121]; exact pj_kpt_v kG106 rfl
        rw [← hG121]
        refine pj_X_of (fun r h => pj_R_to (G121, 51, [(3, .int y116), (0, .ref 171), (1, .int p), (2, .int bk)], [.int (Int32.ofInt 0)], 0, 0) 51 2 (fun _ => rfl) h) ?_
        have q122 : (pj_fi G121 171 1).toInt = (Int32.ofInt 0).toInt := by rw [show pj_fi G121 171 1 = Int32.ofInt 0 from by rw [hG121]; exact pj_fi_wi iG106.1 (ci := 12) rfl _]
        exact pj_X_rt rfl rfl ⟨_, rfl, iG121, kG121, pj_i32 _⟩
    | false =>
      have ub113 := pj_u0_neF b113
      refine pj_X_of (fun r h => pj_R_ifF rfl b113 h) ?_
      refine pj_X_of (fun r h => pj_R_to (G106, 22, [(0, .ref 171), (1, .int p), (2, .int bk)], [.int (Int32.ofInt (-1))], 0, 0) 22 2 (fun _ => rfl) h) ?_
      have q123 : (pj_fi G106 171 1).toInt = y105.toInt := by rw [show pj_fi G106 171 1 = y105 from by rw [hG106, pj_fi_wv_ne _ _ _ _ _ _ (by decide)]; exact hy105.symm]
      exact pj_X_rt rfl rfl ⟨_, rfl, iG106, kG106, pj_i32 _⟩
def kc_241 : pj_KT := ([(171, 0), (171, 1)], [171, 172], [])
theorem lp_ct_241 (G0 : pj_G) (hI0 : pj_Inv G0) : ∀ mn : Nat, (∀ (G : pj_G) (hI : pj_Inv G) (hK : pj_kpt kc_241 G0 G) (v1 : Int32) (v2 : Int32) (v3 : Int32) (v4 : Int32), ((-2147483648 : Int) ≤ v1.toInt ∧ v1.toInt ≤ 2147483647) → ((-2147483648 : Int) ≤ v2.toInt ∧ v2.toInt ≤ 2147483647) → ((-2147483648 : Int) ≤ v3.toInt ∧ v3.toInt ≤ 2147483647) → ((0 : Int) ≤ v4.toInt ∧ v4.toInt ≤ 6) → 6 - v4.toInt < (mn : Int) → pj_X 4 pj_m241 G 22 [(0, .ref 171), (1, .int v1), (2, .int v2), (3, .int v3), (4, .int v4)] [] (fun v G' => ∃ y : Int32, v = some (.int y) ∧ pj_Inv G' ∧ pj_kpt kc_241 G0 G' ∧ ((-2147483648 : Int) ≤ y.toInt ∧ y.toInt ≤ 2147483647))) := by
  have c0_ : ((Int16.ofInt 1000).toInt32).toInt = 1000 := by decide
  have c1_ : ((Int8.ofInt (-2)).toInt32).toInt = -2 := by decide
  have c2_ : (Int32.ofInt (-1)).toInt = -1 := by decide
  have c3_ : (Int32.ofInt 0).toInt = 0 := by decide
  have c4_ : (Int32.ofInt 1).toInt = 1 := by decide
  have c5_ : (Int32.ofInt 4).toInt = 4 := by decide
  intro mn
  induction mn with
  | zero =>
    intro G hI hK v1 v2 v3 v4 rv1 rv2 rv3 rv4 hm
    exfalso
    omega
  | succ mn ih =>
    intro G hI hK v1 v2 v3 v4 rv1 rv2 rv3 rv4 hm
    obtain ⟨y1, hy1⟩ : ∃ z : Int32, z = pj_fi G 171 1 := ⟨_, rfl⟩
    have ey1 : (pj_fi G 171 1).toInt = y1.toInt := by rw [hy1]
    have ry1 : (0 : Int) ≤ y1.toInt ∧ y1.toInt ≤ 24 := by rw [hy1]; exact hI.2.1 171 1 (0, 24) rfl
    refine pj_X_of (fun r h => pj_R_to (G, 25, [(0, .ref 171), (1, .int v1), (2, .int v2), (3, .int v3), (4, .int v4)], [.ref 171, .int v4], 0, 0) 25 3 (fun _ => rfl) h) ?_
    refine pj_X_of (fun r h => pj_T_gi hI rfl rfl h) ?_
    show pj_X _ _ G 28 [(0, .ref 171), (1, .int v1), (2, .int v2), (3, .int v3), (4, .int v4)] [.int (pj_fi G 171 5), .int v4] _
    obtain ⟨y2, hy2⟩ : ∃ z : Int32, z = pj_fi G 171 5 := ⟨_, rfl⟩
    refine pj_X_eqi hy2.symm ?_
    have ey2 : (pj_fi G 171 5).toInt = y2.toInt := by rw [hy2]
    have ry2 : (0 : Int) ≤ y2.toInt ∧ y2.toInt ≤ 6 := by rw [hy2]; exact hI.2.1 171 5 (0, 6) rfl
    cases b3 : pj_c1 .ge v4 y2 with
    | true =>
      have ub3 := pj_u_geT b3
      refine pj_X_of (fun r h => pj_R_icT 103 rfl rfl b3 h) ?_
      refine pj_X_of (fun r h => pj_R_to (G, 104, [(0, .ref 171), (1, .int v1), (2, .int v2), (3, .int v3), (4, .int v4)], [.int v2], 0, 0) 104 2 (fun _ => rfl) h) ?_
      cases b4 : pj_c1 .ge v2 0 with
      | true =>
        have ub4 := pj_u0_geT b4
        refine pj_X_of (fun r h => pj_R_ifT 110 rfl rfl b4 h) ?_
        refine pj_X_of (fun r h => pj_R_to (G, 112, [(0, .ref 171), (1, .int v1), (2, .int v2), (3, .int v3), (4, .int v4)], [.int (Int32.ofInt 0), .ref 171], 0, 0) 112 3 (fun _ => rfl) h) ?_
        refine pj_X_of (fun r h => pj_T_pf hI rfl rfl rfl h) ?_
        show pj_X _ _ (pj_wv G 171 1 (.int (Int32.ofInt 0))) 115 [(0, .ref 171), (1, .int v1), (2, .int v2), (3, .int v3), (4, .int v4)] [] _
        obtain ⟨G5, hG5⟩ : ∃ H, H = pj_wv G 171 1 (.int (Int32.ofInt 0)) := ⟨_, rfl⟩
        have iG5 : pj_Inv G5 := by rw [hG5]; exact pj_Inv_wi hI (ci := 12) rfl (fun q hq => by cases hq; exact ⟨by show (0 : Int) ≤ _; omega, by show _ ≤ (24 : Int); omega⟩)
        have kG5 : pj_kpt kc_241 G0 G5 := by rw [hG5]; exact pj_kpt_v hK rfl
        rw [← hG5]
        refine pj_X_of (fun r h => pj_R_to (G5, 118, [(0, .ref 171), (1, .int v1), (2, .int v2), (3, .int v3), (4, .int v4)], [.long v3.toInt64, .ref 171], 0, 0) 118 4 (fun _ => rfl) h) ?_
        have q6 : (pj_fi G5 171 1).toInt = (Int32.ofInt 0).toInt := by rw [show pj_fi G5 171 1 = Int32.ofInt 0 from by rw [hG5]; exact pj_fi_wi hI.1 (ci := 12) rfl _]
        have lc7 : (v3.toInt64).toInt = v3.toInt := Int32.toInt_toInt64 _
        refine pj_X_ca (vs := [.ref 171, .long v3.toInt64]) rfl (fun _ => rfl) ⟨Nat.le_of_ble_eq_true rfl, Nat.le_of_ble_eq_true rfl, pj_T_rcv iG5 rfl⟩ ⟨rfl, rfl⟩ (pj_Y_up (by decide) (ct_174x G5 iG5 v3.toInt64 (by omega))) ?_
        rintro _ G9 ⟨rfl, iG9, jG9, eG9, fy8⟩
        replace eG9 := eG9 _ rfl
        have kG9 : pj_kpt kc_241 G0 G9 := pj_kpt_t kG5 (pj_kpt_s jG9 rfl)
        obtain ⟨y10, hy10⟩ : ∃ z : Int32, z = pj_fi G9 171 1 := ⟨_, rfl⟩
        have ey10 : (pj_fi G9 171 1).toInt = y10.toInt := by rw [hy10]
        have ry10 : (0 : Int) ≤ y10.toInt ∧ y10.toInt ≤ 24 := by rw [hy10]; exact iG9.2.1 171 1 (0, 24) rfl
        show pj_X _ _ G9 121 [(0, .ref 171), (1, .int v1), (2, .int v2), (3, .int v3), (4, .int v4)] [] _
        refine pj_X_of (fun r h => pj_R_to (G9, 124, [(0, .ref 171), (1, .int v1), (2, .int v2), (3, .int v3), (4, .int v4)], [.int v1, .ref 171, .ref 171], 0, 0) 124 4 (fun _ => rfl) h) ?_
        have q11 : (pj_fi G9 171 1).toInt = y10.toInt := by rw [show pj_fi G9 171 1 = y10 from hy10.symm]
        refine pj_X_ca (vs := [.ref 171, .int v1]) rfl (fun _ => rfl) ⟨Nat.le_of_ble_eq_true rfl, Nat.le_of_ble_eq_true rfl, pj_T_rcv iG9 rfl⟩ ⟨rfl, rfl⟩ (pj_Y_up (by decide) (ct_209 G9 iG9 v1)) ?_
        rintro _ _ ⟨y12, rfl, rfl, ry12⟩
        show pj_X _ _ G9 127 [(0, .ref 171), (1, .int v1), (2, .int v2), (3, .int v3), (4, .int v4)] [.int y12, .ref 171] _
        refine pj_X_of (fun r h => pj_R_to (G9, 128, [(0, .ref 171), (1, .int v1), (2, .int v2), (3, .int v3), (4, .int v4)], [.long y12.toInt64, .ref 171], 0, 0) 128 2 (fun _ => rfl) h) ?_
        have q13 : (pj_fi G9 171 1).toInt = y10.toInt := by rw [show pj_fi G9 171 1 = y10 from hy10.symm]
        have lc14 : (y12.toInt64).toInt = y12.toInt := Int32.toInt_toInt64 _
        refine pj_X_ca (vs := [.ref 171, .long y12.toInt64]) rfl (fun _ => rfl) ⟨Nat.le_of_ble_eq_true rfl, Nat.le_of_ble_eq_true rfl, pj_T_rcv iG9 rfl⟩ ⟨rfl, rfl⟩ (pj_Y_up (by decide) (ct_174x G9 iG9 y12.toInt64 (by omega))) ?_
        rintro _ G16 ⟨rfl, iG16, jG16, eG16, fy15⟩
        replace eG16 := eG16 _ rfl
        have kG16 : pj_kpt kc_241 G0 G16 := pj_kpt_t kG9 (pj_kpt_s jG16 rfl)
        obtain ⟨y17, hy17⟩ : ∃ z : Int32, z = pj_fi G16 171 1 := ⟨_, rfl⟩
        have ey17 : (pj_fi G16 171 1).toInt = y17.toInt := by rw [hy17]
        have ry17 : (0 : Int) ≤ y17.toInt ∧ y17.toInt ≤ 24 := by rw [hy17]; exact iG16.2.1 171 1 (0, 24) rfl
        show pj_X _ _ G16 131 [(0, .ref 171), (1, .int v1), (2, .int v2), (3, .int v3), (4, .int v4)] [] _
        refine pj_X_of (fun r h => pj_R_to (G16, 132, [(0, .ref 171), (1, .int v1), (2, .int v2), (3, .int v3), (4, .int v4)], [.int v2], 0, 0) 132 2 (fun _ => rfl) h) ?_
        have q18 : (pj_fi G16 171 1).toInt = y17.toInt := by rw [show pj_fi G16 171 1 = y17 from hy17.symm]
        exact pj_X_rt rfl rfl ⟨_, rfl, iG16, kG16, pj_i32 _⟩
      | false =>
        have ub4 := pj_u0_geF b4
        refine pj_X_of (fun r h => pj_R_ifF rfl b4 h) ?_
        refine pj_X_of (fun r h => pj_R_to (G, 109, [(0, .ref 171), (1, .int v1), (2, .int v2), (3, .int v3), (4, .int v4)], [.int ((Int8.ofInt (-2)).toInt32)], 0, 0) 109 2 (fun _ => rfl) h) ?_
        have q19 : (pj_fi G 171 1).toInt = y1.toInt := by rw [show pj_fi G 171 1 = y1 from hy1.symm]
        exact pj_X_rt rfl rfl ⟨_, rfl, hI, hK, pj_i32 _⟩
    | false =>
      have ub3 := pj_u_geF b3
      refine pj_X_of (fun r h => pj_R_icF rfl b3 h) ?_
      refine pj_X_of (fun r h => pj_R_to (G, 32, [(0, .ref 171), (1, .int v1), (2, .int v2), (3, .int v3), (4, .int v4)], [.ref 171], 0, 0) 32 2 (fun _ => rfl) h) ?_
      refine pj_X_of (fun r h => pj_T_gr hI rfl rfl rfl h) ?_
      refine pj_X_of (fun r h => pj_R_to (G, 39, [(0, .ref 171), (1, .int v1), (2, .int v2), (3, .int v3), (4, .int v4)], [.int ((Int32.ofInt 4) * v4), .ref 179], 0, 0) 39 4 (fun _ => rfl) h) ?_
      obtain ⟨z20, hz20⟩ : ∃ z : Int32, z = (Int32.ofInt 4) * v4 := ⟨_, rfl⟩
      refine pj_X_eqi hz20.symm ?_
      have fz20_0 : z20.toInt = 4 * v4.toInt := by rw [hz20]; exact pj_mulL (by decide) (by omega) (by omega)
      refine pj_X_of (fun r h => pj_R_to (G, 41, [(0, .ref 171), (1, .int v1), (2, .int v2), (3, .int v3), (4, .int v4)], [.int (z20 + (Int32.ofInt 0)), .ref 179], 0, 0) 41 3 (fun _ => rfl) h) ?_
      obtain ⟨z21, hz21⟩ : ∃ z : Int32, z = z20 + (Int32.ofInt 0) := ⟨_, rfl⟩
      refine pj_X_eqi hz21.symm ?_
      have fz21_0 : z21.toInt = z20.toInt + (Int32.ofInt 0).toInt := by rw [hz21]; exact pj_addI (by have := pj_i32 z20; have := pj_i32 (Int32.ofInt 0); omega) (by have := pj_i32 z20; have := pj_i32 (Int32.ofInt 0); omega)
      refine pj_X_of (fun r h => pj_T_il hI rfl rfl (by omega) (by omega) h) ?_
      show pj_X _ _ G 42 [(0, .ref 171), (1, .int v1), (2, .int v2), (3, .int v3), (4, .int v4)] [.int (pj_ai G 179 z21.toInt.toNat)] _
      obtain ⟨z22, hz22⟩ : ∃ z : Int32, z = pj_ai G 179 z21.toInt.toNat := ⟨_, rfl⟩
      refine pj_X_eqi hz22.symm ?_
      have ez22 : (pj_ai G 179 z21.toInt.toNat).toInt = z22.toInt := by rw [hz22]
      have fz22_0 : -1 ≤ z22.toInt ∧ z22.toInt ≤ 9 := by rw [hz22]; exact ((hI.2.2.2 179 32 rfl _ (by show _ < 32; omega)).1 (by omega)).1 (by omega)
      refine pj_X_of (fun r h => pj_R_to (G, 46, [(5, .int z22), (0, .ref 171), (1, .int v1), (2, .int v2), (3, .int v3), (4, .int v4)], [.int z22], 0, 0) 46 3 (fun _ => rfl) h) ?_
      cases b23 : pj_c1 .lt z22 0 with
      | true =>
        have ub23 := pj_u0_ltT b23
        refine pj_X_of (fun r h => pj_R_ifT 97 rfl rfl b23 h) ?_
        refine pj_X_of (fun r h => pj_R_to (G, 100, [(4, .int (v4 + Int32.ofInt 1)), (5, .int z22), (0, .ref 171), (1, .int v1), (2, .int v2), (3, .int v3)], [], 0, 0) 100 2 (fun _ => rfl) h) ?_
        obtain ⟨z24, hz24⟩ : ∃ z : Int32, z = v4 + Int32.ofInt 1 := ⟨_, rfl⟩
        rw [← hz24]
        have fz24_0 : z24.toInt = v4.toInt + (Int32.ofInt 1).toInt := by rw [hz24]; exact pj_addI (by have := pj_i32 v4; have := pj_i32 (Int32.ofInt 1); omega) (by have := pj_i32 v4; have := pj_i32 (Int32.ofInt 1); omega)
        refine pj_X_of (fun r h => pj_R_to (G, 22, [(4, .int z24), (5, .int z22), (0, .ref 171), (1, .int v1), (2, .int v2), (3, .int v3)], [], 0, 0) 22 2 (fun _ => rfl) h) ?_
        have q25 : (pj_fi G 171 1).toInt = y1.toInt := by rw [show pj_fi G 171 1 = y1 from hy1.symm]
        exact pj_X_sub [(0, .ref 171), (1, .int v1), (2, .int v2), (3, .int v3), (4, .int z24)] (show List.Nodup [0, 1, 2, 3, 4] by decide) ⟨rfl, rfl, rfl, rfl, rfl, trivial⟩ (ih G hI hK v1 v2 v3 z24 (pj_i32 _) (pj_i32 _) (pj_i32 _) ⟨by omega, by omega⟩ (by omega))
      | false =>
        have ub23 := pj_u0_ltF b23
        refine pj_X_of (fun r h => pj_R_ifF rfl b23 h) ?_
        refine pj_X_of (fun r h => pj_R_to (G, 50, [(5, .int z22), (0, .ref 171), (1, .int v1), (2, .int v2), (3, .int v3), (4, .int v4)], [.ref 171], 0, 0) 50 2 (fun _ => rfl) h) ?_
        refine pj_X_of (fun r h => pj_T_gr hI rfl rfl rfl h) ?_
        refine pj_X_of (fun r h => pj_R_to (G, 57, [(5, .int z22), (0, .ref 171), (1, .int v1), (2, .int v2), (3, .int v3), (4, .int v4)], [.int ((Int32.ofInt 4) * v4), .ref 179], 0, 0) 57 4 (fun _ => rfl) h) ?_
        obtain ⟨z26, hz26⟩ : ∃ z : Int32, z = (Int32.ofInt 4) * v4 := ⟨_, rfl⟩
        refine pj_X_eqi hz26.symm ?_
        have fz26_0 : z26.toInt = 4 * v4.toInt := by rw [hz26]; exact pj_mulL (by decide) (by omega) (by omega)
        refine pj_X_of (fun r h => pj_R_to (G, 59, [(5, .int z22), (0, .ref 171), (1, .int v1), (2, .int v2), (3, .int v3), (4, .int v4)], [.int (z26 + (Int32.ofInt 1)), .ref 179], 0, 0) 59 3 (fun _ => rfl) h) ?_
        obtain ⟨z27, hz27⟩ : ∃ z : Int32, z = z26 + (Int32.ofInt 1) := ⟨_, rfl⟩
        refine pj_X_eqi hz27.symm ?_
        have fz27_0 : z27.toInt = z26.toInt + (Int32.ofInt 1).toInt := by rw [hz27]; exact pj_addI (by have := pj_i32 z26; have := pj_i32 (Int32.ofInt 1); omega) (by have := pj_i32 z26; have := pj_i32 (Int32.ofInt 1); omega)
        refine pj_X_of (fun r h => pj_T_il hI rfl rfl (by omega) (by omega) h) ?_
        show pj_X _ _ G 60 [(5, .int z22), (0, .ref 171), (1, .int v1), (2, .int v2), (3, .int v3), (4, .int v4)] [.int (pj_ai G 179 z27.toInt.toNat)] _
        obtain ⟨z28, hz28⟩ : ∃ z : Int32, z = pj_ai G 179 z27.toInt.toNat := ⟨_, rfl⟩
        refine pj_X_eqi hz28.symm ?_
        have ez28 : (pj_ai G 179 z27.toInt.toNat).toInt = z28.toInt := by rw [hz28]
        have fz28_0 : 0 ≤ z28.toInt := by rw [hz28]; exact ((hI.2.2.2 179 32 rfl _ (by show _ < 32; omega)).1 (by omega)).2 (by omega)
        cases b29 : pj_c1 .ne z28 0 with
        | true =>
          have ub29 := pj_u0_neT b29
          refine pj_X_of (fun r h => pj_R_ifT 97 rfl rfl b29 h) ?_
          refine pj_X_of (fun r h => pj_R_to (G, 100, [(4, .int (v4 + Int32.ofInt 1)), (5, .int z22), (0, .ref 171), (1, .int v1), (2, .int v2), (3, .int v3)], [], 0, 0) 100 2 (fun _ => rfl) h) ?_
          obtain ⟨z30, hz30⟩ : ∃ z : Int32, z = v4 + Int32.ofInt 1 := ⟨_, rfl⟩
          rw [← hz30]
          have fz30_0 : z30.toInt = v4.toInt + (Int32.ofInt 1).toInt := by rw [hz30]; exact pj_addI (by have := pj_i32 v4; have := pj_i32 (Int32.ofInt 1); omega) (by have := pj_i32 v4; have := pj_i32 (Int32.ofInt 1); omega)
          refine pj_X_of (fun r h => pj_R_to (G, 22, [(4, .int z30), (5, .int z22), (0, .ref 171), (1, .int v1), (2, .int v2), (3, .int v3)], [], 0, 0) 22 2 (fun _ => rfl) h) ?_
          have q31 : (pj_fi G 171 1).toInt = y1.toInt := by rw [show pj_fi G 171 1 = y1 from hy1.symm]
          exact pj_X_sub [(0, .ref 171), (1, .int v1), (2, .int v2), (3, .int v3), (4, .int z30)] (show List.Nodup [0, 1, 2, 3, 4] by decide) ⟨rfl, rfl, rfl, rfl, rfl, trivial⟩ (ih G hI hK v1 v2 v3 z30 (pj_i32 _) (pj_i32 _) (pj_i32 _) ⟨by omega, by omega⟩ (by omega))
        | false =>
          have ub29 := pj_u0_neF b29
          refine pj_X_of (fun r h => pj_R_ifF rfl b29 h) ?_
          refine pj_X_of (fun r h => pj_R_to (G, 69, [(5, .int z22), (0, .ref 171), (1, .int v1), (2, .int v2), (3, .int v3), (4, .int v4)], [.int ((Int32.ofInt 1) <<< (z22 &&& 31)), .int v1, .ref 171], 0, 0) 69 6 (fun _ => rfl) h) ?_
          obtain ⟨z32, hz32⟩ : ∃ z : Int32, z = (Int32.ofInt 1) <<< (z22 &&& 31) := ⟨_, rfl⟩
          refine pj_X_eqi hz32.symm ?_
          have fz32_0 : 1 ≤ z32.toInt ∧ z32.toInt ≤ 512 := by rw [hz32]; exact pj_shlI9 (by omega) (by omega)
          refine pj_X_of (fun r h => pj_R_to (G, 71, [(5, .int z22), (0, .ref 171), (1, .int v1), (2, .int v2), (3, .int v3), (4, .int v4)], [.int (z32 ^^^ (Int32.ofInt (-1))), .int v1, .ref 171], 0, 0) 71 3 (fun _ => rfl) h) ?_
          obtain ⟨z33, hz33⟩ : ∃ z : Int32, z = z32 ^^^ (Int32.ofInt (-1)) := ⟨_, rfl⟩
          refine pj_X_eqi hz33.symm ?_
          refine pj_X_of (fun r h => pj_R_to (G, 72, [(5, .int z22), (0, .ref 171), (1, .int v1), (2, .int v2), (3, .int v3), (4, .int v4)], [.int (v1 &&& z33), .ref 171], 0, 0) 72 2 (fun _ => rfl) h) ?_
          obtain ⟨z34, hz34⟩ : ∃ z : Int32, z = v1 &&& z33 := ⟨_, rfl⟩
          refine pj_X_eqi hz34.symm ?_
          have q35 : (pj_fi G 171 1).toInt = y1.toInt := by rw [show pj_fi G 171 1 = y1 from hy1.symm]
          refine pj_X_ca (vs := [.ref 171, .int z34]) rfl (fun _ => rfl) ⟨Nat.le_of_ble_eq_true rfl, Nat.le_of_ble_eq_true rfl, pj_T_rcv hI rfl⟩ ⟨rfl, rfl⟩ (pj_Y_up (by decide) (ct_209 G hI z34)) ?_
          rintro _ _ ⟨y36, rfl, rfl, ry36⟩
          show pj_X _ _ G 75 [(5, .int z22), (0, .ref 171), (1, .int v1), (2, .int v2), (3, .int v3), (4, .int v4)] [.int y36] _
          refine pj_X_of (fun r h => pj_R_to (G, 80, [(6, .int y36), (5, .int z22), (0, .ref 171), (1, .int v1), (2, .int v2), (3, .int v3), (4, .int v4)], [.int v3, .int y36], 0, 0) 80 4 (fun _ => rfl) h) ?_
          cases b37 : pj_c1 .ge y36 v3 with
          | true =>
            have ub37 := pj_u_geT b37
            refine pj_X_of (fun r h => pj_R_icT 88 rfl rfl b37 h) ?_
            refine pj_X_of (fun r h => pj_R_to (G, 93, [(2, .int v2), (6, .int y36), (5, .int z22), (0, .ref 171), (1, .int v1), (3, .int v3), (4, .int v4)], [.int y36, .int v3], 0, 0) 93 5 (fun _ => rfl) h) ?_
            refine pj_X_of (fun r h => pj_R_mn (v := (if y36 < v3 then y36 else v3)) rfl rfl rfl (Nat.le_of_ble_eq_true rfl) h) ?_
            show pj_X _ _ G 96 [(2, .int v2), (6, .int y36), (5, .int z22), (0, .ref 171), (1, .int v1), (3, .int v3), (4, .int v4)] [.int (if y36 < v3 then y36 else v3)] _
            obtain ⟨z38, hz38⟩ : ∃ z : Int32, z = (if y36 < v3 then y36 else v3) := ⟨_, rfl⟩
            refine pj_X_eqi hz38.symm ?_
            have fz38_0 : z38.toInt ≤ v3.toInt ∧ z38.toInt ≤ y36.toInt ∧ (z38.toInt = v3.toInt ∨ z38.toInt = y36.toInt) := by rw [hz38]; exact pj_minI
            refine pj_X_of (fun r h => pj_R_to (G, 100, [(4, .int (v4 + Int32.ofInt 1)), (3, .int z38), (2, .int v2), (6, .int y36), (5, .int z22), (0, .ref 171), (1, .int v1)], [], 0, 0) 100 3 (fun _ => rfl) h) ?_
            obtain ⟨z39, hz39⟩ : ∃ z : Int32, z = v4 + Int32.ofInt 1 := ⟨_, rfl⟩
            rw [← hz39]
            have fz39_0 : z39.toInt = v4.toInt + (Int32.ofInt 1).toInt := by rw [hz39]; exact pj_addI (by have := pj_i32 v4; have := pj_i32 (Int32.ofInt 1); omega) (by have := pj_i32 v4; have := pj_i32 (Int32.ofInt 1); omega)
            refine pj_X_of (fun r h => pj_R_to (G, 22, [(4, .int z39), (3, .int z38), (2, .int v2), (6, .int y36), (5, .int z22), (0, .ref 171), (1, .int v1)], [], 0, 0) 22 2 (fun _ => rfl) h) ?_
            have q40 : (pj_fi G 171 1).toInt = y1.toInt := by rw [show pj_fi G 171 1 = y1 from hy1.symm]
            exact pj_X_sub [(0, .ref 171), (1, .int v1), (2, .int v2), (3, .int z38), (4, .int z39)] (show List.Nodup [0, 1, 2, 3, 4] by decide) ⟨rfl, rfl, rfl, rfl, rfl, trivial⟩ (ih G hI hK v1 v2 z38 z39 (pj_i32 _) (pj_i32 _) (pj_i32 _) ⟨by omega, by omega⟩ (by omega))
          | false =>
            have ub37 := pj_u_geF b37
            refine pj_X_of (fun r h => pj_R_icF rfl b37 h) ?_
            refine pj_X_of (fun r h => pj_R_to (G, 93, [(2, .int v4), (6, .int y36), (5, .int z22), (0, .ref 171), (1, .int v1), (3, .int v3), (4, .int v4)], [.int y36, .int v3], 0, 0) 93 6 (fun _ => rfl) h) ?_
            refine pj_X_of (fun r h => pj_R_mn (v := (if y36 < v3 then y36 else v3)) rfl rfl rfl (Nat.le_of_ble_eq_true rfl) h) ?_
            show pj_X _ _ G 96 [(2, .int v4), (6, .int y36), (5, .int z22), (0, .ref 171), (1, .int v1), (3, .int v3), (4, .int v4)] [.int (if y36 < v3 then y36 else v3)] _
            obtain ⟨z41, hz41⟩ : ∃ z : Int32, z = (if y36 < v3 then y36 else v3) := ⟨_, rfl⟩
            refine pj_X_eqi hz41.symm ?_
            have fz41_0 : z41.toInt ≤ v3.toInt ∧ z41.toInt ≤ y36.toInt ∧ (z41.toInt = v3.toInt ∨ z41.toInt = y36.toInt) := by rw [hz41]; exact pj_minI
            refine pj_X_of (fun r h => pj_R_to (G, 100, [(4, .int (v4 + Int32.ofInt 1)), (3, .int z41), (2, .int v4), (6, .int y36), (5, .int z22), (0, .ref 171), (1, .int v1)], [], 0, 0) 100 3 (fun _ => rfl) h) ?_
            obtain ⟨z42, hz42⟩ : ∃ z : Int32, z = v4 + Int32.ofInt 1 := ⟨_, rfl⟩
            rw [← hz42]
            have fz42_0 : z42.toInt = v4.toInt + (Int32.ofInt 1).toInt := by rw [hz42]; exact pj_addI (by have := pj_i32 v4; have := pj_i32 (Int32.ofInt 1); omega) (by have := pj_i32 v4; have := pj_i32 (Int32.ofInt 1); omega)
            refine pj_X_of (fun r h => pj_R_to (G, 22, [(4, .int z42), (3, .int z41), (2, .int v4), (6, .int y36), (5, .int z22), (0, .ref 171), (1, .int v1)], [], 0, 0) 22 2 (fun _ => rfl) h) ?_
            have q43 : (pj_fi G 171 1).toInt = y1.toInt := by rw [show pj_fi G 171 1 = y1 from hy1.symm]
            exact pj_X_sub [(0, .ref 171), (1, .int v1), (2, .int v4), (3, .int z41), (4, .int z42)] (show List.Nodup [0, 1, 2, 3, 4] by decide) ⟨rfl, rfl, rfl, rfl, rfl, trivial⟩ (ih G hI hK v1 v4 z41 z42 (pj_i32 _) (pj_i32 _) (pj_i32 _) ⟨by omega, by omega⟩ (by omega))
theorem ct_241 (G0 : pj_G) (hI : pj_Inv G0) : pj_Y 5 241 [.ref 171] G0 (fun v G' => ∃ y : Int32, v = some (.int y) ∧ pj_Inv G' ∧ pj_kpt kc_241 G0 G' ∧ ((-2147483648 : Int) ≤ y.toInt ∧ y.toInt ≤ 2147483647)) := by
  have c0_ : ((Int16.ofInt 1000).toInt32).toInt = 1000 := by decide
  have c1_ : ((Int8.ofInt (-2)).toInt32).toInt = -2 := by decide
  have c2_ : (Int32.ofInt (-1)).toInt = -1 := by decide
  have c3_ : (Int32.ofInt 0).toInt = 0 := by decide
  have c4_ : (Int32.ofInt 1).toInt = 1 := by decide
  have c5_ : (Int32.ofInt 4).toInt = 4 := by decide
  refine pj_Y_X (M := pj_m241) rfl rfl (Nat.le_of_ble_eq_true rfl) ?_
  have hK : pj_kpt kc_241 G0 G0 := pj_kpt_r _ _
  show pj_X _ _ G0 0 [(0, .ref 171)] [] _
  obtain ⟨y44, hy44⟩ : ∃ z : Int32, z = pj_fi G0 171 1 := ⟨_, rfl⟩
  have ey44 : (pj_fi G0 171 1).toInt = y44.toInt := by rw [hy44]
  have ry44 : (0 : Int) ≤ y44.toInt ∧ y44.toInt ≤ 24 := by rw [hy44]; exact hI.2.1 171 1 (0, 24) rfl
  refine pj_X_of (fun r h => pj_R_to (G0, 2, [(0, .ref 171)], [.int (Int32.ofInt 0), .ref 171], 0, 0) 2 3 (fun _ => rfl) h) ?_
  refine pj_X_of (fun r h => pj_T_pf hI rfl rfl rfl h) ?_
  show pj_X _ _ (pj_wv G0 171 0 (.int (Int32.ofInt 0))) 5 [(0, .ref 171)] [] _
  obtain ⟨G45, hG45⟩ : ∃ H, H = pj_wv G0 171 0 (.int (Int32.ofInt 0)) := ⟨_, rfl⟩
  have iG45 : pj_Inv G45 := by rw [hG45]; exact pj_Inv_wi hI (ci := 12) rfl (fun q hq => by cases hq)
  have kG45 : pj_kpt kc_241 G0 G45 := by rw [hG45]; exact pj_kpt_v hK rfl
  rw [← hG45]
  refine pj_X_of (fun r h => pj_R_to (G45, 8, [(0, .ref 171)], [.int (Int32.ofInt 0), .int (Int32.ofInt 0), .ref 171], 0, 0) 8 4 (fun _ => rfl) h) ?_
  have q46 : (pj_fi G45 171 1).toInt = y44.toInt := by rw [show pj_fi G45 171 1 = y44 from by rw [hG45, pj_fi_wv_ne _ _ _ _ _ _ (by decide)]; exact hy44.symm]
  refine pj_X_ca (vs := [.ref 171, .int (Int32.ofInt 0), .int (Int32.ofInt 0)]) rfl (fun _ => rfl) ⟨Nat.le_of_ble_eq_true rfl, Nat.le_of_ble_eq_true rfl, pj_T_rcv iG45 rfl⟩ ⟨rfl, rfl⟩ (pj_Y_up (by decide) (ct_206x G45 iG45 (Int32.ofInt 0) (Int32.ofInt 0))) ?_
  rintro _ _ ⟨y47, rfl, rfl, ry47, ey47, fy47⟩
  replace ey47 := ey47 _ rfl
  show pj_X _ _ G45 11 [(0, .ref 171)] [.int y47] _
  refine pj_X_of (fun r h => pj_R_to (G45, 22, [(4, .int (Int32.ofInt 0)), (3, .int ((Int16.ofInt 1000).toInt32)), (2, .int ((Int8.ofInt (-2)).toInt32)), (1, .int y47), (0, .ref 171)], [], 0, 0) 22 8 (fun _ => rfl) h) ?_
  have q48 : (pj_fi G45 171 1).toInt = y44.toInt := by rw [show pj_fi G45 171 1 = y44 from by rw [hG45, pj_fi_wv_ne _ _ _ _ _ _ (by decide)]; exact hy44.symm]
  exact pj_X_sub [(0, .ref 171), (1, .int y47), (2, .int ((Int8.ofInt (-2)).toInt32)), (3, .int ((Int16.ofInt 1000).toInt32)), (4, .int (Int32.ofInt 0))] (show List.Nodup [0, 1, 2, 3, 4] by decide) ⟨rfl, rfl, rfl, rfl, rfl, trivial⟩ ((lp_ct_241 G0 hI   7) G45 iG45 kG45 y47 ((Int8.ofInt (-2)).toInt32) ((Int16.ofInt 1000).toInt32) (Int32.ofInt 0) (pj_i32 _) (pj_i32 _) (pj_i32 _) ⟨by omega, by omega⟩ (by omega))
