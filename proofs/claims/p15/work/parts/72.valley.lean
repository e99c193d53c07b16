theorem ct_93 (G0 : pj_G) (hI : pj_Inv G0) (b : Int32) : pj_Y 1 93 [.ref 6, .int b] G0 (fun v G' => ∃ y : Int32, v = some (.int y) ∧ G0 = G' ∧ ((0 : Int) ≤ y.toInt ∧ y.toInt ≤ 1)) := by
  have c0_ : (Int32.ofInt 0).toInt = 0 := by decide
  have c1_ : (Int32.ofInt 1).toInt = 1 := by decide
  refine pj_Y_X (M := pj_m93) rfl rfl (Nat.le_of_ble_eq_true rfl) ?_
  have hK : pj_kpt ([], [], []) G0 G0 := pj_kpt_r _ _
  show pj_X _ _ G0 0 [(0, .ref 6), (1, .int b)] [] _
  refine pj_X_of (fun r h => pj_R_to (G0, 1, [(0, .ref 6), (1, .int b)], [.int b], 0, 0) 1 2 (fun _ => rfl) h) ?_
  cases b1 : pj_c1 .lt b 0 with
  | true =>
    have ub1 := pj_u0_ltT b1
    refine pj_X_of (fun r h => pj_R_ifT 19 rfl rfl b1 h) ?_
    refine pj_X_of (fun r h => pj_R_to (G0, 20, [(0, .ref 6), (1, .int b)], [.int (Int32.ofInt 0)], 0, 0) 20 2 (fun _ => rfl) h) ?_
    exact pj_X_rt rfl rfl ⟨_, rfl, rfl, ⟨by omega, by omega⟩⟩
  | false =>
    have ub1 := pj_u0_ltF b1
    refine pj_X_of (fun r h => pj_R_ifF rfl b1 h) ?_
    refine pj_X_of (fun r h => pj_R_to (G0, 6, [(0, .ref 6), (1, .int b)], [.ref 6, .int b], 0, 0) 6 3 (fun _ => rfl) h) ?_
    refine pj_X_gm hI rfl rfl (fun q2 => ?_) (fun q2 => ?_)
    · refine pj_X_of (fun r h => pj_T_gi hI rfl rfl h) ?_
      show pj_X _ _ G0 12 [(0, .ref 6), (1, .int b)] [.int (pj_fi G0 7 0), .int b] _
      obtain ⟨y3, hy3⟩ : ∃ z : Int32, z = pj_fi G0 7 0 := ⟨_, rfl⟩
      rw [← hy3]
      have ey3 : (pj_fi G0 7 0).toInt = y3.toInt := by rw [hy3]
      have ry3 : (0 : Int) ≤ y3.toInt ∧ y3.toInt ≤ 8 := by rw [hy3]; exact hI.2.1 7 0 (0, 8) rfl
      cases b4 : pj_c1 .ge b y3 with
      | true =>
        have ub4 := pj_u_geT b4
        refine pj_X_of (fun r h => pj_R_icT 19 rfl rfl b4 h) ?_
        refine pj_X_of (fun r h => pj_R_to (G0, 20, [(0, .ref 6), (1, .int b)], [.int (Int32.ofInt 0)], 0, 0) 20 2 (fun _ => rfl) h) ?_
        exact pj_X_rt rfl rfl ⟨_, rfl, rfl, ⟨by omega, by omega⟩⟩
      | false =>
        have ub4 := pj_u_geF b4
        refine pj_X_of (fun r h => pj_R_icF rfl b4 h) ?_
        refine pj_X_of (fun r h => pj_R_to (G0, 20, [(0, .ref 6), (1, .int b)], [.int (Int32.ofInt 1)], 0, 0) 20 3 (fun _ => rfl) h) ?_
        exact pj_X_rt rfl rfl ⟨_, rfl, rfl, ⟨by omega, by omega⟩⟩
    · refine pj_X_of (fun r h => pj_T_gi hI rfl rfl h) ?_
      show pj_X _ _ G0 12 [(0, .ref 6), (1, .int b)] [.int (pj_fi G0 14 0), .int b] _
      obtain ⟨y5, hy5⟩ : ∃ z : Int32, z = pj_fi G0 14 0 := ⟨_, rfl⟩
      rw [← hy5]
      have ey5 : (pj_fi G0 14 0).toInt = y5.toInt := by rw [hy5]
      have ry5 : (0 : Int) ≤ y5.toInt ∧ y5.toInt ≤ 8 := by rw [hy5]; exact hI.2.1 14 0 (0, 8) rfl
      cases b6 : pj_c1 .ge b y5 with
      | true =>
        have ub6 := pj_u_geT b6
        refine pj_X_of (fun r h => pj_R_icT 19 rfl rfl b6 h) ?_
        refine pj_X_of (fun r h => pj_R_to (G0, 20, [(0, .ref 6), (1, .int b)], [.int (Int32.ofInt 0)], 0, 0) 20 2 (fun _ => rfl) h) ?_
        exact pj_X_rt rfl rfl ⟨_, rfl, rfl, ⟨by omega, by omega⟩⟩
      | false =>
        have ub6 := pj_u_geF b6
        refine pj_X_of (fun r h => pj_R_icF rfl b6 h) ?_
        refine pj_X_of (fun r h => pj_R_to (G0, 20, [(0, .ref 6), (1, .int b)], [.int (Int32.ofInt 1)], 0, 0) 20 3 (fun _ => rfl) h) ?_
        exact pj_X_rt rfl rfl ⟨_, rfl, rfl, ⟨by omega, by omega⟩⟩
noncomputable def F_94x (G0 : pj_G) (b : Int32) : Int32 := cond (pj_c1 .lt b 0) (Int32.ofInt 0) (cond (pj_rb G0 6 0 7) (pj_nm (pj_fi G0 7 1) (fun y3 => cond (pj_c1 .ge b y3) (Int32.ofInt 0) (Int32.ofInt 1))) (pj_nm (pj_fi G0 14 1) (fun y5 => cond (pj_c1 .ge b y5) (Int32.ofInt 0) (Int32.ofInt 1))))
theorem F_94x_e (G0 : pj_G) (b : Int32) : F_94x G0 b = cond (pj_c1 .lt b 0) (Int32.ofInt 0) (cond (pj_rb G0 6 0 7) (pj_nm (pj_fi G0 7 1) (fun y3 => cond (pj_c1 .ge b y3) (Int32.ofInt 0) (Int32.ofInt 1))) (pj_nm (pj_fi G0 14 1) (fun y5 => cond (pj_c1 .ge b y5) (Int32.ofInt 0) (Int32.ofInt 1)))) := rfl
theorem ct_94x (G0 : pj_G) (hI : pj_Inv G0) (b : Int32) : pj_Y 1 94 [.ref 6, .int b] G0 (fun v' G' => ∃ y : Int32, v' = some (.int y) ∧ G0 = G' ∧ ((0 : Int) ≤ y.toInt ∧ y.toInt ≤ 1) ∧ (1 ≤ y.toInt → 0 ≤ b.toInt ∧ b.toInt ≤ 9) ∧ (y = F_94x G0 b)) := by
  have c0_ : (Int32.ofInt 0).toInt = 0 := by decide
  have c1_ : (Int32.ofInt 1).toInt = 1 := by decide
  refine pj_Y_X (M := pj_m94) rfl rfl (Nat.le_of_ble_eq_true rfl) ?_
  have hK : pj_kpt ([], [], []) G0 G0 := pj_kpt_r _ _
  show pj_X _ _ G0 0 [(0, .ref 6), (1, .int b)] [] _
  rw [F_94x_e]
  refine pj_X_of (fun r h => pj_R_to (G0, 1, [(0, .ref 6), (1, .int b)], [.int b], 0, 0) 1 2 (fun _ => rfl) h) ?_
  cases b1 : pj_c1 .lt b 0 with
  | true =>
    rw [pj_cT]
    have ub1 := pj_u0_ltT b1
    refine pj_X_of (fun r h => pj_R_ifT 19 rfl rfl b1 h) ?_
    refine pj_X_of (fun r h => pj_R_to (G0, 20, [(0, .ref 6), (1, .int b)], [.int (Int32.ofInt 0)], 0, 0) 20 2 (fun _ => rfl) h) ?_
    exact pj_X_rt rfl rfl ⟨_, rfl, rfl, ⟨by omega, by omega⟩, by omega, rfl⟩
  | false =>
    rw [pj_cF]
    have ub1 := pj_u0_ltF b1
    refine pj_X_of (fun r h => pj_R_ifF rfl b1 h) ?_
    refine pj_X_of (fun r h => pj_R_to (G0, 6, [(0, .ref 6), (1, .int b)], [.ref 6, .int b], 0, 0) 6 3 (fun _ => rfl) h) ?_
    refine pj_X_gm hI rfl rfl (fun q2 => ?_) (fun q2 => ?_)
    · rw [show pj_rb G0 6 0 7 = true from pj_rb_t q2, pj_cT]
      refine pj_X_of (fun r h => pj_T_gi hI rfl rfl h) ?_
      show pj_X _ _ G0 12 [(0, .ref 6), (1, .int b)] [.int (pj_fi G0 7 1), .int b] _
      obtain ⟨y3, hy3⟩ : ∃ z : Int32, z = pj_fi G0 7 1 := ⟨_, rfl⟩
      rw [← hy3]
      rw [pj_nm_e]
      have ey3 : (pj_fi G0 7 1).toInt = y3.toInt := by rw [hy3]
      have ry3 : (0 : Int) ≤ y3.toInt ∧ y3.toInt ≤ 10 := by rw [hy3]; exact hI.2.1 7 1 (0, 10) rfl
      cases b4 : pj_c1 .ge b y3 with
      | true =>
        rw [pj_cT]
        have ub4 := pj_u_geT b4
        refine pj_X_of (fun r h => pj_R_icT 19 rfl rfl b4 h) ?_
        refine pj_X_of (fun r h => pj_R_to (G0, 20, [(0, .ref 6), (1, .int b)], [.int (Int32.ofInt 0)], 0, 0) 20 2 (fun _ => rfl) h) ?_
        exact pj_X_rt rfl rfl ⟨_, rfl, rfl, ⟨by omega, by omega⟩, by omega, rfl⟩
      | false =>
        rw [pj_cF]
        have ub4 := pj_u_geF b4
        refine pj_X_of (fun r h => pj_R_icF rfl b4 h) ?_
        refine pj_X_of (fun r h => pj_R_to (G0, 20, [(0, .ref 6), (1, .int b)], [.int (Int32.ofInt 1)], 0, 0) 20 3 (fun _ => rfl) h) ?_
        exact pj_X_rt rfl rfl ⟨_, rfl, rfl, ⟨by omega, by omega⟩, by omega, rfl⟩
    · rw [show pj_rb G0 6 0 7 = false from pj_rb_f q2 rfl, pj_cF]
      refine pj_X_of (fun r h => pj_T_gi hI rfl rfl h) ?_
      show pj_X _ _ G0 12 [(0, .ref 6), (1, .int b)] [.int (pj_fi G0 14 1), .int b] _
      obtain ⟨y5, hy5⟩ : ∃ z : Int32, z = pj_fi G0 14 1 := ⟨_, rfl⟩
      rw [← hy5]
      rw [pj_nm_e]
      have ey5 : (pj_fi G0 14 1).toInt = y5.toInt := by rw [hy5]
      have ry5 : (0 : Int) ≤ y5.toInt ∧ y5.toInt ≤ 10 := by rw [hy5]; exact hI.2.1 14 1 (0, 10) rfl
      cases b6 : pj_c1 .ge b y5 with
      | true =>
        rw [pj_cT]
        have ub6 := pj_u_geT b6
        refine pj_X_of (fun r h => pj_R_icT 19 rfl rfl b6 h) ?_
        refine pj_X_of (fun r h => pj_R_to (G0, 20, [(0, .ref 6), (1, .int b)], [.int (Int32.ofInt 0)], 0, 0) 20 2 (fun _ => rfl) h) ?_
        exact pj_X_rt rfl rfl ⟨_, rfl, rfl, ⟨by omega, by omega⟩, by omega, rfl⟩
      | false =>
        rw [pj_cF]
        have ub6 := pj_u_geF b6
        refine pj_X_of (fun r h => pj_R_icF rfl b6 h) ?_
        refine pj_X_of (fun r h => pj_R_to (G0, 20, [(0, .ref 6), (1, .int b)], [.int (Int32.ofInt 1)], 0, 0) 20 3 (fun _ => rfl) h) ?_
        exact pj_X_rt rfl rfl ⟨_, rfl, rfl, ⟨by omega, by omega⟩, by omega, rfl⟩
theorem fr_94x (G0 : pj_G) (hI : pj_Inv G0) (b : Int32) : ((0 : Int) ≤ (F_94x G0 b).toInt ∧ (F_94x G0 b).toInt ≤ 1) ∧ (1 ≤ (F_94x G0 b).toInt → 0 ≤ b.toInt ∧ b.toInt ≤ 9) := by
  obtain ⟨v, G', -, y, -, rfl, r, x, e⟩ := ct_94x G0 hI b
  rw [← e]
  exact ⟨r, x⟩
noncomputable def F_95x (G0 : pj_G) (b : Int32) : Int32 := cond (pj_c1 .lt b 0) (Int32.ofInt 0) (pj_nm (pj_fi G0 21 0) (fun y2 => cond (pj_c1 .ge b y2) (Int32.ofInt 0) (Int32.ofInt 1)))
theorem F_95x_e (G0 : pj_G) (b : Int32) : F_95x G0 b = cond (pj_c1 .lt b 0) (Int32.ofInt 0) (pj_nm (pj_fi G0 21 0) (fun y2 => cond (pj_c1 .ge b y2) (Int32.ofInt 0) (Int32.ofInt 1))) := rfl
theorem ct_95x (G0 : pj_G) (hI : pj_Inv G0) (b : Int32) : pj_Y 1 95 [.ref 6, .int b] G0 (fun v' G' => ∃ y : Int32, v' = some (.int y) ∧ G0 = G' ∧ ((0 : Int) ≤ y.toInt ∧ y.toInt ≤ 1) ∧ (1 ≤ y.toInt → 0 ≤ b.toInt ∧ b.toInt ≤ 5) ∧ (y = F_95x G0 b)) := by
  have c0_ : (Int32.ofInt 0).toInt = 0 := by decide
  have c1_ : (Int32.ofInt 1).toInt = 1 := by decide
  refine pj_Y_X (M := pj_m95) rfl rfl (Nat.le_of_ble_eq_true rfl) ?_
  have hK : pj_kpt ([], [], []) G0 G0 := pj_kpt_r _ _
  show pj_X _ _ G0 0 [(0, .ref 6), (1, .int b)] [] _
  rw [F_95x_e]
  refine pj_X_of (fun r h => pj_R_to (G0, 1, [(0, .ref 6), (1, .int b)], [.int b], 0, 0) 1 2 (fun _ => rfl) h) ?_
  cases b1 : pj_c1 .lt b 0 with
  | true =>
    rw [pj_cT]
    have ub1 := pj_u0_ltT b1
    refine pj_X_of (fun r h => pj_R_ifT 19 rfl rfl b1 h) ?_
    refine pj_X_of (fun r h => pj_R_to (G0, 20, [(0, .ref 6), (1, .int b)], [.int (Int32.ofInt 0)], 0, 0) 20 2 (fun _ => rfl) h) ?_
    exact pj_X_rt rfl rfl ⟨_, rfl, rfl, ⟨by omega, by omega⟩, by omega, rfl⟩
  | false =>
    rw [pj_cF]
    have ub1 := pj_u0_ltF b1
    refine pj_X_of (fun r h => pj_R_ifF rfl b1 h) ?_
    refine pj_X_of (fun r h => pj_R_to (G0, 6, [(0, .ref 6), (1, .int b)], [.ref 6, .int b], 0, 0) 6 3 (fun _ => rfl) h) ?_
    refine pj_X_of (fun r h => pj_T_gr hI rfl rfl rfl h) ?_
    refine pj_X_of (fun r h => pj_T_gi hI rfl rfl h) ?_
    show pj_X _ _ G0 12 [(0, .ref 6), (1, .int b)] [.int (pj_fi G0 21 0), .int b] _
    obtain ⟨y2, hy2⟩ : ∃ z : Int32, z = pj_fi G0 21 0 := ⟨_, rfl⟩
    rw [← hy2]
    rw [pj_nm_e]
    have ey2 : (pj_fi G0 21 0).toInt = y2.toInt := by rw [hy2]
    have ry2 : (0 : Int) ≤ y2.toInt ∧ y2.toInt ≤ 6 := by rw [hy2]; exact hI.2.1 21 0 (0, 6) rfl
    cases b3 : pj_c1 .ge b y2 with
    | true =>
      rw [pj_cT]
      have ub3 := pj_u_geT b3
      refine pj_X_of (fun r h => pj_R_icT 19 rfl rfl b3 h) ?_
      refine pj_X_of (fun r h => pj_R_to (G0, 20, [(0, .ref 6), (1, .int b)], [.int (Int32.ofInt 0)], 0, 0) 20 2 (fun _ => rfl) h) ?_
      exact pj_X_rt rfl rfl ⟨_, rfl, rfl, ⟨by omega, by omega⟩, by omega, rfl⟩
    | false =>
      rw [pj_cF]
      have ub3 := pj_u_geF b3
      refine pj_X_of (fun r h => pj_R_icF rfl b3 h) ?_
      refine pj_X_of (fun r h => pj_R_to (G0, 20, [(0, .ref 6), (1, .int b)], [.int (Int32.ofInt 1)], 0, 0) 20 3 (fun _ => rfl) h) ?_
      exact pj_X_rt rfl rfl ⟨_, rfl, rfl, ⟨by omega, by omega⟩, by omega, rfl⟩
theorem fr_95x (G0 : pj_G) (hI : pj_Inv G0) (b : Int32) : ((0 : Int) ≤ (F_95x G0 b).toInt ∧ (F_95x G0 b).toInt ≤ 1) ∧ (1 ≤ (F_95x G0 b).toInt → 0 ≤ b.toInt ∧ b.toInt ≤ 5) := by
  obtain ⟨v, G', -, y, -, rfl, r, x, e⟩ := ct_95x G0 hI b
  rw [← e]
  exact ⟨r, x⟩
noncomputable def F_96x (G0 : pj_G) (b : Int32) : Int32 := cond (pj_c1 .lt b 0) (Int32.ofInt 0) (pj_nm (pj_fi G0 21 5) (fun y2 => cond (pj_c1 .ge b y2) (Int32.ofInt 0) (Int32.ofInt 1)))
theorem F_96x_e (G0 : pj_G) (b : Int32) : F_96x G0 b = cond (pj_c1 .lt b 0) (Int32.ofInt 0) (pj_nm (pj_fi G0 21 5) (fun y2 => cond (pj_c1 .ge b y2) (Int32.ofInt 0) (Int32.ofInt 1))) := rfl
theorem ct_96x (G0 : pj_G) (hI : pj_Inv G0) (b : Int32) : pj_Y 1 96 [.ref 6, .int b] G0 (fun v' G' => ∃ y : Int32, v' = some (.int y) ∧ G0 = G' ∧ ((0 : Int) ≤ y.toInt ∧ y.toInt ≤ 1) ∧ (1 ≤ y.toInt → 0 ≤ b.toInt ∧ b.toInt ≤ 5) ∧ (y = F_96x G0 b)) := by
  have c0_ : (Int32.ofInt 0).toInt = 0 := by decide
  have c1_ : (Int32.ofInt 1).toInt = 1 := by decide
  refine pj_Y_X (M := pj_m96) rfl rfl (Nat.le_of_ble_eq_true rfl) ?_
  have hK : pj_kpt ([], [], []) G0 G0 := pj_kpt_r _ _
  show pj_X _ _ G0 0 [(0, .ref 6), (1, .int b)] [] _
  rw [F_96x_e]
  refine pj_X_of (fun r h => pj_R_to (G0, 1, [(0, .ref 6), (1, .int b)], [.int b], 0, 0) 1 2 (fun _ => rfl) h) ?_
  cases b1 : pj_c1 .lt b 0 with
  | true =>
    rw [pj_cT]
    have ub1 := pj_u0_ltT b1
    refine pj_X_of (fun r h => pj_R_ifT 19 rfl rfl b1 h) ?_
    refine pj_X_of (fun r h => pj_R_to (G0, 20, [(0, .ref 6), (1, .int b)], [.int (Int32.ofInt 0)], 0, 0) 20 2 (fun _ => rfl) h) ?_
    exact pj_X_rt rfl rfl ⟨_, rfl, rfl, ⟨by omega, by omega⟩, by omega, rfl⟩
  | false =>
    rw [pj_cF]
    have ub1 := pj_u0_ltF b1
    refine pj_X_of (fun r h => pj_R_ifF rfl b1 h) ?_
    refine pj_X_of (fun r h => pj_R_to (G0, 6, [(0, .ref 6), (1, .int b)], [.ref 6, .int b], 0, 0) 6 3 (fun _ => rfl) h) ?_
    refine pj_X_of (fun r h => pj_T_gr hI rfl rfl rfl h) ?_
    refine pj_X_of (fun r h => pj_T_gi hI rfl rfl h) ?_
    show pj_X _ _ G0 12 [(0, .ref 6), (1, .int b)] [.int (pj_fi G0 21 5), .int b] _
    obtain ⟨y2, hy2⟩ : ∃ z : Int32, z = pj_fi G0 21 5 := ⟨_, rfl⟩
    rw [← hy2]
    rw [pj_nm_e]
    have ey2 : (pj_fi G0 21 5).toInt = y2.toInt := by rw [hy2]
    have ry2 : (0 : Int) ≤ y2.toInt ∧ y2.toInt ≤ 6 := by rw [hy2]; exact hI.2.1 21 5 (0, 6) rfl
    cases b3 : pj_c1 .ge b y2 with
    | true =>
      rw [pj_cT]
      have ub3 := pj_u_geT b3
      refine pj_X_of (fun r h => pj_R_icT 19 rfl rfl b3 h) ?_
      refine pj_X_of (fun r h => pj_R_to (G0, 20, [(0, .ref 6), (1, .int b)], [.int (Int32.ofInt 0)], 0, 0) 20 2 (fun _ => rfl) h) ?_
      exact pj_X_rt rfl rfl ⟨_, rfl, rfl, ⟨by omega, by omega⟩, by omega, rfl⟩
    | false =>
      rw [pj_cF]
      have ub3 := pj_u_geF b3
      refine pj_X_of (fun r h => pj_R_icF rfl b3 h) ?_
      refine pj_X_of (fun r h => pj_R_to (G0, 20, [(0, .ref 6), (1, .int b)], [.int (Int32.ofInt 1)], 0, 0) 20 3 (fun _ => rfl) h) ?_
      exact pj_X_rt rfl rfl ⟨_, rfl, rfl, ⟨by omega, by omega⟩, by omega, rfl⟩
theorem fr_96x (G0 : pj_G) (hI : pj_Inv G0) (b : Int32) : ((0 : Int) ≤ (F_96x G0 b).toInt ∧ (F_96x G0 b).toInt ≤ 1) ∧ (1 ≤ (F_96x G0 b).toInt → 0 ≤ b.toInt ∧ b.toInt ≤ 5) := by
  obtain ⟨v, G', -, y, -, rfl, r, x, e⟩ := ct_96x G0 hI b
  rw [← e]
  exact ⟨r, x⟩
theorem ct_98 (G0 : pj_G) (hI : pj_Inv G0) (k : Int32) (w : Int32) : pj_Y 1 98 [.int k, .int w] G0 (fun v G' => ∃ y : Int32, v = some (.int y) ∧ G0 = G' ∧ ((0 : Int) ≤ y.toInt ∧ y.toInt ≤ 9)) := by
  have c0_ : ((Int8.ofInt 9).toInt32).toInt = 9 := by decide
  have c1_ : (Int32.ofInt 0).toInt = 0 := by decide
  have c2_ : (Int32.ofInt 1).toInt = 1 := by decide
  refine pj_Y_X (M := pj_m98) rfl rfl (Nat.le_of_ble_eq_true rfl) ?_
  have hK : pj_kpt ([], [], []) G0 G0 := pj_kpt_r _ _
  show pj_X _ _ G0 0 [(0, .int k), (1, .int w)] [] _
  refine pj_X_of (fun r h => pj_R_to (G0, 3, [(2, .int w), (0, .int k), (1, .int w)], [.int k], 0, 0) 3 4 (fun _ => rfl) h) ?_
  cases b1 : pj_c1 .ne k 0 with
  | true =>
    have ub1 := pj_u0_neT b1
    refine pj_X_of (fun r h => pj_R_ifT 12 rfl rfl b1 h) ?_
    refine pj_X_of (fun r h => pj_R_to (G0, 14, [(2, .int w), (0, .int k), (1, .int w)], [.int (Int32.ofInt 1), .int k], 0, 0) 14 3 (fun _ => rfl) h) ?_
    cases b2 : pj_c1 .ne k (Int32.ofInt 1) with
    | true =>
      have ub2 := pj_u_neT b2
      refine pj_X_of (fun r h => pj_R_icT 20 rfl rfl b2 h) ?_
      refine pj_X_of (fun r h => pj_R_to (G0, 24, [(2, .int w), (0, .int k), (1, .int w)], [.int w, .int ((Int8.ofInt 9).toInt32), .int (Int32.ofInt 0)], 0, 0) 24 4 (fun _ => rfl) h) ?_
      refine pj_X_of (fun r h => pj_R_mn (v := (if w < ((Int8.ofInt 9).toInt32) then w else ((Int8.ofInt 9).toInt32))) rfl rfl rfl (Nat.le_of_ble_eq_true rfl) h) ?_
      show pj_X _ _ G0 27 [(2, .int w), (0, .int k), (1, .int w)] [.int (if w < ((Int8.ofInt 9).toInt32) then w else ((Int8.ofInt 9).toInt32)), .int (Int32.ofInt 0)] _
      obtain ⟨z3, hz3⟩ : ∃ z : Int32, z = (if w < ((Int8.ofInt 9).toInt32) then w else ((Int8.ofInt 9).toInt32)) := ⟨_, rfl⟩
      rw [← hz3]
      have fz3_0 : z3.toInt ≤ ((Int8.ofInt 9).toInt32).toInt ∧ z3.toInt ≤ w.toInt ∧ (z3.toInt = ((Int8.ofInt 9).toInt32).toInt ∨ z3.toInt = w.toInt) := by rw [hz3]; exact pj_minI
      refine pj_X_of (fun r h => pj_R_mx (v := (if (Int32.ofInt 0) < z3 then z3 else (Int32.ofInt 0))) rfl rfl rfl (Nat.le_of_ble_eq_true rfl) h) ?_
      show pj_X _ _ G0 30 [(2, .int w), (0, .int k), (1, .int w)] [.int (if (Int32.ofInt 0) < z3 then z3 else (Int32.ofInt 0))] _
      obtain ⟨z4, hz4⟩ : ∃ z : Int32, z = (if (Int32.ofInt 0) < z3 then z3 else (Int32.ofInt 0)) := ⟨_, rfl⟩
      rw [← hz4]
      have fz4_0 : (Int32.ofInt 0).toInt ≤ z4.toInt ∧ z3.toInt ≤ z4.toInt ∧ (z4.toInt = (Int32.ofInt 0).toInt ∨ z4.toInt = z3.toInt) := by rw [hz4]; exact pj_maxI
      exact pj_X_rt rfl rfl ⟨_, rfl, rfl, ⟨by omega, by omega⟩⟩
    | false =>
      have ub2 := pj_u_neF b2
      refine pj_X_of (fun r h => pj_R_icF rfl b2 h) ?_
      refine pj_X_of (fun r h => pj_R_to (G0, 19, [(2, .int w), (0, .int k), (1, .int w)], [.int w.toInt16.toInt32], 0, 0) 19 3 (fun _ => rfl) h) ?_
      obtain ⟨z5, hz5⟩ : ∃ z : Int32, z = w.toInt16.toInt32 := ⟨_, rfl⟩
      rw [← hz5]
      refine pj_X_of (fun r h => pj_R_to (G0, 24, [(2, .int z5), (0, .int k), (1, .int w)], [.int z5, .int ((Int8.ofInt 9).toInt32), .int (Int32.ofInt 0)], 0, 0) 24 5 (fun _ => rfl) h) ?_
      refine pj_X_of (fun r h => pj_R_mn (v := (if z5 < ((Int8.ofInt 9).toInt32) then z5 else ((Int8.ofInt 9).toInt32))) rfl rfl rfl (Nat.le_of_ble_eq_true rfl) h) ?_
      show pj_X _ _ G0 27 [(2, .int z5), (0, .int k), (1, .int w)] [.int (if z5 < ((Int8.ofInt 9).toInt32) then z5 else ((Int8.ofInt 9).toInt32)), .int (Int32.ofInt 0)] _
      obtain ⟨z6, hz6⟩ : ∃ z : Int32, z = (if z5 < ((Int8.ofInt 9).toInt32) then z5 else ((Int8.ofInt 9).toInt32)) := ⟨_, rfl⟩
      rw [← hz6]
      have fz6_0 : z6.toInt ≤ ((Int8.ofInt 9).toInt32).toInt ∧ z6.toInt ≤ z5.toInt ∧ (z6.toInt = ((Int8.ofInt 9).toInt32).toInt ∨ z6.toInt = z5.toInt) := by rw [hz6]; exact pj_minI
      refine pj_X_of (fun r h => pj_R_mx (v := (if (Int32.ofInt 0) < z6 then z6 else (Int32.ofInt 0))) rfl rfl rfl (Nat.le_of_ble_eq_true rfl) h) ?_
      show pj_X _ _ G0 30 [(2, .int z5), (0, .int k), (1, .int w)] [.int (if (Int32.ofInt 0) < z6 then z6 else (Int32.ofInt 0))] _
      obtain ⟨z7, hz7⟩ : ∃ z : Int32, z = (if (Int32.ofInt 0) < z6 then z6 else (Int32.ofInt 0)) := ⟨_, rfl⟩
      rw [← hz7]
      have fz7_0 : (Int32.ofInt 0).toInt ≤ z7.toInt ∧ z6.toInt ≤ z7.toInt ∧ (z7.toInt = (Int32.ofInt 0).toInt ∨ z7.toInt = z6.toInt) := by rw [hz7]; exact pj_maxI
      exact pj_X_rt rfl rfl ⟨_, rfl, rfl, ⟨by omega, by omega⟩⟩
  | false =>
    have ub1 := pj_u0_neF b1
    refine pj_X_of (fun r h => pj_R_ifF rfl b1 h) ?_
    refine pj_X_of (fun r h => pj_R_to (G0, 8, [(2, .int w), (0, .int k), (1, .int w)], [.int w.toInt8.toInt32], 0, 0) 8 3 (fun _ => rfl) h) ?_
    obtain ⟨z8, hz8⟩ : ∃ z : Int32, z = w.toInt8.toInt32 := ⟨_, rfl⟩
    rw [← hz8]
    refine pj_X_of (fun r h => pj_R_to (G0, 24, [(2, .int z8), (0, .int k), (1, .int w)], [.int z8, .int ((Int8.ofInt 9).toInt32), .int (Int32.ofInt 0)], 0, 0) 24 6 (fun _ => rfl) h) ?_
    refine pj_X_of (fun r h => pj_R_mn (v := (if z8 < ((Int8.ofInt 9).toInt32) then z8 else ((Int8.ofInt 9).toInt32))) rfl rfl rfl (Nat.le_of_ble_eq_true rfl) h) ?_
    show pj_X _ _ G0 27 [(2, .int z8), (0, .int k), (1, .int w)] [.int (if z8 < ((Int8.ofInt 9).toInt32) then z8 else ((Int8.ofInt 9).toInt32)), .int (Int32.ofInt 0)] _
    obtain ⟨z9, hz9⟩ : ∃ z : Int32, z = (if z8 < ((Int8.ofInt 9).toInt32) then z8 else ((Int8.ofInt 9).toInt32)) := ⟨_, rfl⟩
    rw [← hz9]
    have fz9_0 : z9.toInt ≤ ((Int8.ofInt 9).toInt32).toInt ∧ z9.toInt ≤ z8.toInt ∧ (z9.toInt = ((Int8.ofInt 9).toInt32).toInt ∨ z9.toInt = z8.toInt) := by rw [hz9]; exact pj_minI
    refine pj_X_of (fun r h => pj_R_mx (v := (if (Int32.ofInt 0) < z9 then z9 else (Int32.ofInt 0))) rfl rfl rfl (Nat.le_of_ble_eq_true rfl) h) ?_
    show pj_X _ _ G0 30 [(2, .int z8), (0, .int k), (1, .int w)] [.int (if (Int32.ofInt 0) < z9 then z9 else (Int32.ofInt 0))] _
    obtain ⟨z10, hz10⟩ : ∃ z : Int32, z = (if (Int32.ofInt 0) < z9 then z9 else (Int32.ofInt 0)) := ⟨_, rfl⟩
    rw [← hz10]
    have fz10_0 : (Int32.ofInt 0).toInt ≤ z10.toInt ∧ z9.toInt ≤ z10.toInt ∧ (z10.toInt = (Int32.ofInt 0).toInt ∨ z10.toInt = z9.toInt) := by rw [hz10]; exact pj_maxI
    exact pj_X_rt rfl rfl ⟨_, rfl, rfl, ⟨by omega, by omega⟩⟩
def kc_97 : pj_KT := ([], [24], [24])
theorem lp_ct_97 (G0 : pj_G) (hI0 : pj_Inv G0) (k : Int32) (n : Int32) (f : Int32) (sp : Int32) : ∀ mn : Nat, (∀ (G : pj_G) (hI : pj_Inv G) (hK : pj_kpt kc_97 G0 G) (v5 : Int32) (v6 : Int32), ((-2147483648 : Int) ≤ v5.toInt ∧ v5.toInt ≤ 2147483647) → ((0 : Int) ≤ v6.toInt ∧ v6.toInt ≤ 6) → 6 - v6.toInt < (mn : Int) → pj_X 1 pj_m97 G 6 [(0, .ref 6), (1, .int k), (2, .int n), (3, .int f), (4, .int sp), (5, .int v5), (6, .int v6)] [] (fun v G' => ∃ y : Int32, v = some (.int y) ∧ pj_Inv G' ∧ pj_kpt kc_97 G0 G' ∧ ((-2147483648 : Int) ≤ y.toInt ∧ y.toInt ≤ 2147483647))) := by
  have c0_ : (Int32.ofInt 0).toInt = 0 := by decide
  have c1_ : (Int32.ofInt 1).toInt = 1 := by decide
  intro mn
  induction mn with
  | zero =>
    intro G hI hK v5 v6 rv5 rv6 hm
    exfalso
    omega
  | succ mn ih =>
    intro G hI hK v5 v6 rv5 rv6 hm
    refine pj_X_of (fun r h => pj_R_to (G, 9, [(0, .ref 6), (1, .int k), (2, .int n), (3, .int f), (4, .int sp), (5, .int v5), (6, .int v6)], [.ref 6, .int v6], 0, 0) 9 3 (fun _ => rfl) h) ?_
    refine pj_X_of (fun r h => pj_T_gr hI rfl rfl rfl h) ?_
    refine pj_X_of (fun r h => pj_T_gi hI rfl rfl h) ?_
    show pj_X _ _ G 15 [(0, .ref 6), (1, .int k), (2, .int n), (3, .int f), (4, .int sp), (5, .int v5), (6, .int v6)] [.int (pj_fi G 21 0), .int v6] _
    obtain ⟨y1, hy1⟩ : ∃ z : Int32, z = pj_fi G 21 0 := ⟨_, rfl⟩
    rw [← hy1]
    have ey1 : (pj_fi G 21 0).toInt = y1.toInt := by rw [hy1]
    have ry1 : (0 : Int) ≤ y1.toInt ∧ y1.toInt ≤ 6 := by rw [hy1]; exact hI.2.1 21 0 (0, 6) rfl
    cases b2 : pj_c1 .ge v6 y1 with
    | true =>
      have ub2 := pj_u_geT b2
      refine pj_X_of (fun r h => pj_R_icT 70 rfl rfl b2 h) ?_
      refine pj_X_of (fun r h => pj_R_to (G, 72, [(0, .ref 6), (1, .int k), (2, .int n), (3, .int f), (4, .int sp), (5, .int v5), (6, .int v6)], [.int v5], 0, 0) 72 2 (fun _ => rfl) h) ?_
      exact pj_X_rt rfl rfl ⟨_, rfl, hI, hK, pj_i32 _⟩
    | false =>
      have ub2 := pj_u_geF b2
      refine pj_X_of (fun r h => pj_R_icF rfl b2 h) ?_
      refine pj_X_of (fun r h => pj_R_to (G, 19, [(0, .ref 6), (1, .int k), (2, .int n), (3, .int f), (4, .int sp), (5, .int v5), (6, .int v6)], [.ref 6], 0, 0) 19 2 (fun _ => rfl) h) ?_
      refine pj_X_of (fun r h => pj_T_gr hI rfl rfl rfl h) ?_
      refine pj_X_of (fun r h => pj_T_gr hI rfl rfl rfl h) ?_
      refine pj_X_of (fun r h => pj_R_to (G, 30, [(0, .ref 6), (1, .int k), (2, .int n), (3, .int f), (4, .int sp), (5, .int v5), (6, .int v6)], [.int n, .int v6, .int v6, .ref 24], 0, 0) 30 4 (fun _ => rfl) h) ?_
      cases b3 : pj_c1 .ge v6 n with
      | true =>
        have ub3 := pj_u_geT b3
        refine pj_X_of (fun r h => pj_R_icT 47 rfl rfl b3 h) ?_
        refine pj_X_of (fun r h => pj_R_to (G, 48, [(0, .ref 6), (1, .int k), (2, .int n), (3, .int f), (4, .int sp), (5, .int v5), (6, .int v6)], [.int (Int32.ofInt 0), .int v6, .ref 24], 0, 0) 48 2 (fun _ => rfl) h) ?_
        refine pj_X_of (fun r h => pj_T_is hI rfl rfl (by omega) (by omega) h) ?_
        show pj_X _ _ (pj_wa G 24 v6.toInt.toNat (Int32.ofInt 0)) 49 [(0, .ref 6), (1, .int k), (2, .int n), (3, .int f), (4, .int sp), (5, .int v5), (6, .int v6)] [] _
        obtain ⟨G4, hG4⟩ : ∃ H, H = pj_wa G 24 v6.toInt.toNat (Int32.ofInt 0) := ⟨_, rfl⟩
        have iG4 : pj_Inv G4 := by rw [hG4]; exact pj_Inv_wa hI rfl (fun q hq => by cases hq) (fun n hn => by cases hn)
        have kG4 : pj_kpt kc_97 G0 G4 := by rw [hG4]; exact pj_kpt_a hK rfl
        rw [← hG4]
        refine pj_X_of (fun r h => pj_R_to (G4, 52, [(0, .ref 6), (1, .int k), (2, .int n), (3, .int f), (4, .int sp), (5, .int v5), (6, .int v6)], [.ref 6, .int v5], 0, 0) 52 3 (fun _ => rfl) h) ?_
        refine pj_X_of (fun r h => pj_T_gr iG4 rfl rfl rfl h) ?_
        refine pj_X_of (fun r h => pj_T_gr iG4 rfl rfl rfl h) ?_
        refine pj_X_of (fun r h => pj_R_to (G4, 60, [(0, .ref 6), (1, .int k), (2, .int n), (3, .int f), (4, .int sp), (5, .int v5), (6, .int v6)], [.int v6, .ref 24, .int v5], 0, 0) 60 2 (fun _ => rfl) h) ?_
        refine pj_X_of (fun r h => pj_T_il iG4 rfl rfl (by omega) (by omega) h) ?_
        show pj_X _ _ G4 61 [(0, .ref 6), (1, .int k), (2, .int n), (3, .int f), (4, .int sp), (5, .int v5), (6, .int v6)] [.int (pj_ai G4 24 v6.toInt.toNat), .int v5] _
        obtain ⟨z5, hz5⟩ : ∃ z : Int32, z = pj_ai G4 24 v6.toInt.toNat := ⟨_, rfl⟩
        rw [← hz5]
        have ez5 : (pj_ai G4 24 v6.toInt.toNat).toInt = z5.toInt := by rw [hz5]
        refine pj_X_of (fun r h => pj_R_to (G4, 62, [(0, .ref 6), (1, .int k), (2, .int n), (3, .int f), (4, .int sp), (5, .int v5), (6, .int v6)], [.int (v5 + z5)], 0, 0) 62 2 (fun _ => rfl) h) ?_
        obtain ⟨z6, hz6⟩ : ∃ z : Int32, z = v5 + z5 := ⟨_, rfl⟩
        rw [← hz6]
        refine pj_X_of (fun r h => pj_R_to (G4, 67, [(6, .int (v6 + Int32.ofInt 1)), (5, .int z6), (0, .ref 6), (1, .int k), (2, .int n), (3, .int f), (4, .int sp)], [], 0, 0) 67 3 (fun _ => rfl) h) ?_
        obtain ⟨z7, hz7⟩ : ∃ z : Int32, z = v6 + Int32.ofInt 1 := ⟨_, rfl⟩
        rw [← hz7]
        have fz7_0 : z7.toInt = v6.toInt + (Int32.ofInt 1).toInt := by rw [hz7]; exact pj_addI (by have := pj_i32 v6; have := pj_i32 (Int32.ofInt 1); omega) (by have := pj_i32 v6; have := pj_i32 (Int32.ofInt 1); omega)
        refine pj_X_of (fun r h => pj_R_to (G4, 6, [(6, .int z7), (5, .int z6), (0, .ref 6), (1, .int k), (2, .int n), (3, .int f), (4, .int sp)], [], 0, 0) 6 2 (fun _ => rfl) h) ?_
        exact pj_X_sub [(0, .ref 6), (1, .int k), (2, .int n), (3, .int f), (4, .int sp), (5, .int z6), (6, .int z7)] (show List.Nodup [0, 1, 2, 3, 4, 5, 6] by decide) ⟨rfl, rfl, rfl, rfl, rfl, rfl, rfl, trivial⟩ (ih G4 iG4 kG4 z6 z7 (pj_i32 _) ⟨by omega, by omega⟩ (by omega))
      | false =>
        have ub3 := pj_u_geF b3
        refine pj_X_of (fun r h => pj_R_icF rfl b3 h) ?_
        refine pj_X_of (fun r h => pj_R_to (G, 40, [(0, .ref 6), (1, .int k), (2, .int n), (3, .int f), (4, .int sp), (5, .int v5), (6, .int v6)], [.int (v6 * sp), .int f, .int k, .int v6, .ref 24], 0, 0) 40 6 (fun _ => rfl) h) ?_
        obtain ⟨z8, hz8⟩ : ∃ z : Int32, z = v6 * sp := ⟨_, rfl⟩
        rw [← hz8]
        refine pj_X_of (fun r h => pj_R_to (G, 41, [(0, .ref 6), (1, .int k), (2, .int n), (3, .int f), (4, .int sp), (5, .int v5), (6, .int v6)], [.int (f + z8), .int k, .int v6, .ref 24], 0, 0) 41 2 (fun _ => rfl) h) ?_
        obtain ⟨z9, hz9⟩ : ∃ z : Int32, z = f + z8 := ⟨_, rfl⟩
        rw [← hz9]
        refine pj_X_ca (vs := [.int k, .int z9]) rfl (fun _ => rfl) ⟨Nat.le_of_ble_eq_true rfl, Nat.le_of_ble_eq_true rfl, rfl⟩ ⟨rfl, rfl⟩ (pj_Y_up (by decide) (ct_98 G hI k z9)) ?_
        rintro _ _ ⟨y10, rfl, rfl, ry10⟩
        show pj_X _ _ G 44 [(0, .ref 6), (1, .int k), (2, .int n), (3, .int f), (4, .int sp), (5, .int v5), (6, .int v6)] [.int y10, .int v6, .ref 24] _
        refine pj_X_of (fun r h => pj_R_to (G, 48, [(0, .ref 6), (1, .int k), (2, .int n), (3, .int f), (4, .int sp), (5, .int v5), (6, .int v6)], [.int y10, .int v6, .ref 24], 0, 0) 48 2 (fun _ => rfl) h) ?_
        refine pj_X_of (fun r h => pj_T_is hI rfl rfl (by omega) (by omega) h) ?_
        show pj_X _ _ (pj_wa G 24 v6.toInt.toNat y10) 49 [(0, .ref 6), (1, .int k), (2, .int n), (3, .int f), (4, .int sp), (5, .int v5), (6, .int v6)] [] _
        obtain ⟨G11, hG11⟩ : ∃ H, H = pj_wa G 24 v6.toInt.toNat y10 := ⟨_, rfl⟩
        have iG11 : pj_Inv G11 := by rw [hG11]; exact pj_Inv_wa hI rfl (fun q hq => by cases hq) (fun n hn => by cases hn)
        have kG11 : pj_kpt kc_97 G0 G11 := by rw [hG11]; exact pj_kpt_a hK rfl
        rw [← hG11]
        refine pj_X_of (fun r h => pj_R_to (G11, 52, [(0, .ref 6), (1, .int k), (2, .int n), (3, .int f), (4, .int sp), (5, .int v5), (6, .int v6)], [.ref 6, .int v5], 0, 0) 52 3 (fun _ => rfl) h) ?_
        refine pj_X_of (fun r h => pj_T_gr iG11 rfl rfl rfl h) ?_
        refine pj_X_of (fun r h => pj_T_gr iG11 rfl rfl rfl h) ?_
        refine pj_X_of (fun r h => pj_R_to (G11, 60, [(0, .ref 6), (1, .int k), (2, .int n), (3, .int f), (4, .int sp), (5, .int v5), (6, .int v6)], [.int v6, .ref 24, .int v5], 0, 0) 60 2 (fun _ => rfl) h) ?_
        refine pj_X_of (fun r h => pj_T_il iG11 rfl rfl (by omega) (by omega) h) ?_
        show pj_X _ _ G11 61 [(0, .ref 6), (1, .int k), (2, .int n), (3, .int f), (4, .int sp), (5, .int v5), (6, .int v6)] [.int (pj_ai G11 24 v6.toInt.toNat), .int v5] _
        obtain ⟨z12, hz12⟩ : ∃ z : Int32, z = pj_ai G11 24 v6.toInt.toNat := ⟨_, rfl⟩
        rw [← hz12]
        have ez12 : (pj_ai G11 24 v6.toInt.toNat).toInt = z12.toInt := by rw [hz12]
        refine pj_X_of (fun r h => pj_R_to (G11, 62, [(0, .ref 6), (1, .int k), (2, .int n), (3, .int f), (4, .int sp), (5, .int v5), (6, .int v6)], [.int (v5 + z12)], 0, 0) 62 2 (fun _ => rfl) h) ?_
        obtain ⟨z13, hz13⟩ : ∃ z : Int32, z = v5 + z12 := ⟨_, rfl⟩
        rw [← hz13]
        refine pj_X_of (fun r h => pj_R_to (G11, 67, [(6, .int (v6 + Int32.ofInt 1)), (5, .int z13), (0, .ref 6), (1, .int k), (2, .int n), (3, .int f), (4, .int sp)], [], 0, 0) 67 3 (fun _ => rfl) h) ?_
        obtain ⟨z14, hz14⟩ : ∃ z : Int32, z = v6 + Int32.ofInt 1 := ⟨_, rfl⟩
        rw [← hz14]
        have fz14_0 : z14.toInt = v6.toInt + (Int32.ofInt 1).toInt := by rw [hz14]; exact pj_addI (by have := pj_i32 v6; have := pj_i32 (Int32.ofInt 1); omega) (by have := pj_i32 v6; have := pj_i32 (Int32.ofInt 1); omega)
        refine pj_X_of (fun r h => pj_R_to (G11, 6, [(6, .int z14), (5, .int z13), (0, .ref 6), (1, .int k), (2, .int n), (3, .int f), (4, .int sp)], [], 0, 0) 6 2 (fun _ => rfl) h) ?_
        exact pj_X_sub [(0, .ref 6), (1, .int k), (2, .int n), (3, .int f), (4, .int sp), (5, .int z13), (6, .int z14)] (show List.Nodup [0, 1, 2, 3, 4, 5, 6] by decide) ⟨rfl, rfl, rfl, rfl, rfl, rfl, rfl, trivial⟩ (ih G11 iG11 kG11 z13 z14 (pj_i32 _) ⟨by omega, by omega⟩ (by omega))
theorem ct_97 (G0 : pj_G) (hI : pj_Inv G0) (k : Int32) (n : Int32) (f : Int32) (sp : Int32) : pj_Y 2 97 [.ref 6, .int k, .int n, .int f, .int sp] G0 (fun v G' => ∃ y : Int32, v = some (.int y) ∧ pj_Inv G' ∧ pj_kpt kc_97 G0 G' ∧ ((-2147483648 : Int) ≤ y.toInt ∧ y.toInt ≤ 2147483647)) := by
  have c0_ : (Int32.ofInt 0).toInt = 0 := by decide
  have c1_ : (Int32.ofInt 1).toInt = 1 := by decide
  refine pj_Y_X (M := pj_m97) rfl rfl (Nat.le_of_ble_eq_true rfl) ?_
  have hK : pj_kpt kc_97 G0 G0 := pj_kpt_r _ _
  show pj_X _ _ G0 0 [(0, .ref 6), (1, .int k), (2, .int n), (3, .int f), (4, .int sp)] [] _
  refine pj_X_of (fun r h => pj_R_to (G0, 6, [(6, .int (Int32.ofInt 0)), (5, .int (Int32.ofInt 0)), (0, .ref 6), (1, .int k), (2, .int n), (3, .int f), (4, .int sp)], [], 0, 0) 6 5 (fun _ => rfl) h) ?_
  exact pj_X_sub [(0, .ref 6), (1, .int k), (2, .int n), (3, .int f), (4, .int sp), (5, .int (Int32.ofInt 0)), (6, .int (Int32.ofInt 0))] (show List.Nodup [0, 1, 2, 3, 4, 5, 6] by decide) ⟨rfl, rfl, rfl, rfl, rfl, rfl, rfl, trivial⟩ ((lp_ct_97 G0 hI k n f sp  7) G0 hI hK (Int32.ofInt 0) (Int32.ofInt 0) (pj_i32 _) ⟨by omega, by omega⟩ (by omega))
noncomputable def F_100x (G0 : pj_G) (c : Int32) : Int32 := cond (pj_c1 .ne c (Int32.ofInt (-1))) (cond (pj_rb G0 6 0 7) (pj_nm (pj_ai G0 10 c.toInt.toNat) (fun z3 => z3)) (pj_nm (pj_ai G0 17 c.toInt.toNat) (fun z4 => z4))) (Int32.ofInt 0)
theorem F_100x_e (G0 : pj_G) (c : Int32) : F_100x G0 c = cond (pj_c1 .ne c (Int32.ofInt (-1))) (cond (pj_rb G0 6 0 7) (pj_nm (pj_ai G0 10 c.toInt.toNat) (fun z3 => z3)) (pj_nm (pj_ai G0 17 c.toInt.toNat) (fun z4 => z4))) (Int32.ofInt 0) := rfl
theorem ct_100x (G0 : pj_G) (hI : pj_Inv G0) (c : Int32) (rc : (-1 : Int) ≤ c.toInt ∧ c.toInt ≤ 9) : pj_Y 1 100 [.ref 6, .int c] G0 (fun v' G' => ∃ y : Int32, v' = some (.int y) ∧ G0 = G' ∧ ((-2147483648 : Int) ≤ y.toInt ∧ y.toInt ≤ 2147483647) ∧ (y = F_100x G0 c)) := by
  have c0_ : (Int32.ofInt (-1)).toInt = -1 := by decide
  have c1_ : (Int32.ofInt 0).toInt = 0 := by decide
  refine pj_Y_X (M := pj_m100) rfl rfl (Nat.le_of_ble_eq_true rfl) ?_
  have hK : pj_kpt ([], [], []) G0 G0 := pj_kpt_r _ _
  show pj_X _ _ G0 0 [(0, .ref 6), (1, .int c)] [] _
  rw [F_100x_e]
  refine pj_X_of (fun r h => pj_R_to (G0, 2, [(0, .ref 6), (1, .int c)], [.int (Int32.ofInt (-1)), .int c], 0, 0) 2 3 (fun _ => rfl) h) ?_
  cases b1 : pj_c1 .ne c (Int32.ofInt (-1)) with
  | true =>
    rw [pj_cT]
    have ub1 := pj_u_neT b1
    refine pj_X_of (fun r h => pj_R_icT 9 rfl rfl b1 h) ?_
    refine pj_X_of (fun r h => pj_R_to (G0, 10, [(0, .ref 6), (1, .int c)], [.ref 6], 0, 0) 10 2 (fun _ => rfl) h) ?_
    refine pj_X_gm hI rfl rfl (fun q2 => ?_) (fun q2 => ?_)
    · rw [show pj_rb G0 6 0 7 = true from pj_rb_t q2, pj_cT]
      refine pj_X_of (fun r h => pj_T_gr hI rfl rfl rfl h) ?_
      refine pj_X_of (fun r h => pj_R_to (G0, 17, [(0, .ref 6), (1, .int c)], [.int c, .ref 10], 0, 0) 17 2 (fun _ => rfl) h) ?_
      refine pj_X_of (fun r h => pj_T_il hI rfl rfl (by omega) (by omega) h) ?_
      show pj_X _ _ G0 18 [(0, .ref 6), (1, .int c)] [.int (pj_ai G0 10 c.toInt.toNat)] _
      obtain ⟨z3, hz3⟩ : ∃ z : Int32, z = pj_ai G0 10 c.toInt.toNat := ⟨_, rfl⟩
      rw [← hz3]
      rw [pj_nm_e]
      have ez3 : (pj_ai G0 10 c.toInt.toNat).toInt = z3.toInt := by rw [hz3]
      exact pj_X_rt rfl rfl ⟨_, rfl, rfl, pj_i32 _, rfl⟩
    · rw [show pj_rb G0 6 0 7 = false from pj_rb_f q2 rfl, pj_cF]
      refine pj_X_of (fun r h => pj_T_gr hI rfl rfl rfl h) ?_
      refine pj_X_of (fun r h => pj_R_to (G0, 17, [(0, .ref 6), (1, .int c)], [.int c, .ref 17], 0, 0) 17 2 (fun _ => rfl) h) ?_
      refine pj_X_of (fun r h => pj_T_il hI rfl rfl (by omega) (by omega) h) ?_
      show pj_X _ _ G0 18 [(0, .ref 6), (1, .int c)] [.int (pj_ai G0 17 c.toInt.toNat)] _
      obtain ⟨z4, hz4⟩ : ∃ z : Int32, z = pj_ai G0 17 c.toInt.toNat := ⟨_, rfl⟩
      rw [← hz4]
      rw [pj_nm_e]
      have ez4 : (pj_ai G0 17 c.toInt.toNat).toInt = z4.toInt := by rw [hz4]
      exact pj_X_rt rfl rfl ⟨_, rfl, rfl, pj_i32 _, rfl⟩
  | false =>
    rw [pj_cF]
    have ub1 := pj_u_neF b1
    refine pj_X_of (fun r h => pj_R_icF rfl b1 h) ?_
    refine pj_X_of (fun r h => pj_R_to (G0, 18, [(0, .ref 6), (1, .int c)], [.int (Int32.ofInt 0)], 0, 0) 18 3 (fun _ => rfl) h) ?_
    exact pj_X_rt rfl rfl ⟨_, rfl, rfl, pj_i32 _, rfl⟩
def kc_106x : pj_KT := ([(6, 7)], [6, 23], [23])
noncomputable def L_106x (G0 : pj_G) (fu : Nat) : Int32 → pj_G → pj_G := Nat.rec (motive := fun _ => Int32 → pj_G → pj_G) (fun _ G => G) (fun _ ih v1 G => pj_nm (pj_fi G 21 0) (fun y1 => cond (pj_c1 .ge v1 y1) (G) (pj_nm (pj_ai G 23 v1.toInt.toNat) (fun z3 => cond (pj_c1 .le z3 0) (pj_nm (v1 + Int32.ofInt 1) (fun z5 => ih z5 G)) (pj_nm (z3 - (Int32.ofInt 1)) (fun z6 => pj_nm (pj_wa G 23 v1.toInt.toNat z6) (fun G7 => pj_nm (pj_fi G7 6 7) (fun y8 => pj_nm (pj_ai G7 23 v1.toInt.toNat) (fun z9 => cond (pj_c1 .ne z9 0) (pj_nm (y8 ||| (Int32.ofInt 0)) (fun z11 => pj_nm (pj_wv G7 6 7 (.int z11)) (fun G12 => pj_nm (v1 + Int32.ofInt 1) (fun z13 => ih z13 G12)))) (pj_nm ((Int32.ofInt 1) <<< (v1 &&& 31)) (fun z14 => pj_nm (y8 ||| z14) (fun z15 => pj_nm (pj_wv G7 6 7 (.int z15)) (fun G16 => pj_nm (v1 + Int32.ofInt 1) (fun z17 => ih z17 G16)))))))))))))) fu
theorem L_106x_s0 (G0 : pj_G) (fu : Nat) (v1 : Int32) (G : pj_G) : L_106x G0 (fu + 1) v1 G = pj_nm (pj_fi G 21 0) (fun y1 => cond (pj_c1 .ge v1 y1) (G) (pj_nm (pj_ai G 23 v1.toInt.toNat) (fun z3 => cond (pj_c1 .le z3 0) (pj_nm (v1 + Int32.ofInt 1) (fun z5 => L_106x G0 fu z5 G)) (pj_nm (z3 - (Int32.ofInt 1)) (fun z6 => pj_nm (pj_wa G 23 v1.toInt.toNat z6) (fun G7 => pj_nm (pj_fi G7 6 7) (fun y8 => pj_nm (pj_ai G7 23 v1.toInt.toNat) (fun z9 => cond (pj_c1 .ne z9 0) (pj_nm (y8 ||| (Int32.ofInt 0)) (fun z11 => pj_nm (pj_wv G7 6 7 (.int z11)) (fun G12 => pj_nm (v1 + Int32.ofInt 1) (fun z13 => L_106x G0 fu z13 G12)))) (pj_nm ((Int32.ofInt 1) <<< (v1 &&& 31)) (fun z14 => pj_nm (y8 ||| z14) (fun z15 => pj_nm (pj_wv G7 6 7 (.int z15)) (fun G16 => pj_nm (v1 + Int32.ofInt 1) (fun z17 => L_106x G0 fu z17 G16))))))))))))) := rfl
noncomputable def F_106x (G0 : pj_G) : pj_G := L_106x G0 7 (Int32.ofInt 0) G0
theorem F_106x_e (G0 : pj_G) : F_106x G0 = L_106x G0 7 (Int32.ofInt 0) G0 := rfl
theorem lp_ct_106x (G0 : pj_G) (hI0 : pj_Inv G0) : ∀ mn : Nat, (∀ (G : pj_G) (hI : pj_Inv G) (hK : pj_kpt kc_106x G0 G) (v1 : Int32), ((0 : Int) ≤ v1.toInt ∧ v1.toInt ≤ 6) → 6 - v1.toInt < (mn : Int) → pj_X 0 pj_m106 G 2 [(0, .ref 6), (1, .int v1)] [] (fun v' G' => v' = none ∧ pj_Inv G' ∧ pj_kpt kc_106x G0 G' ∧ (G' = L_106x G0 mn v1 G))) := by
  have c0_ : (Int32.ofInt 0).toInt = 0 := by decide
  have c1_ : (Int32.ofInt 1).toInt = 1 := by decide
  intro mn
  induction mn with
  | zero =>
    intro G hI hK v1 rv1 hm
    exfalso
    omega
  | succ mn ih =>
    intro G hI hK v1 rv1 hm
    rw [L_106x_s0]
    refine pj_X_of (fun r h => pj_R_to (G, 4, [(0, .ref 6), (1, .int v1)], [.ref 6, .int v1], 0, 0) 4 3 (fun _ => rfl) h) ?_
    refine pj_X_of (fun r h => pj_T_gr hI rfl rfl rfl h) ?_
    refine pj_X_of (fun r h => pj_T_gi hI rfl rfl h) ?_
    show pj_X _ _ G 10 [(0, .ref 6), (1, .int v1)] [.int (pj_fi G 21 0), .int v1] _
    obtain ⟨y1, hy1⟩ : ∃ z : Int32, z = pj_fi G 21 0 := ⟨_, rfl⟩
    rw [← hy1]
    rw [pj_nm_e]
    have ey1 : (pj_fi G 21 0).toInt = y1.toInt := by rw [hy1]
    have ry1 : (0 : Int) ≤ y1.toInt ∧ y1.toInt ≤ 6 := by rw [hy1]; exact hI.2.1 21 0 (0, 6) rfl
    cases b2 : pj_c1 .ge v1 y1 with
    | true =>
      rw [pj_cT]
      have ub2 := pj_u_geT b2
      refine pj_X_of (fun r h => pj_R_icT 72 rfl rfl b2 h) ?_
      exact pj_X_rt rfl rfl ⟨rfl, hI, hK, rfl⟩
    | false =>
      rw [pj_cF]
      have ub2 := pj_u_geF b2
      refine pj_X_of (fun r h => pj_R_icF rfl b2 h) ?_
      refine pj_X_of (fun r h => pj_R_to (G, 14, [(0, .ref 6), (1, .int v1)], [.ref 6], 0, 0) 14 2 (fun _ => rfl) h) ?_
      refine pj_X_of (fun r h => pj_T_gr hI rfl rfl rfl h) ?_
      refine pj_X_of (fun r h => pj_T_gr hI rfl rfl rfl h) ?_
      refine pj_X_of (fun r h => pj_R_to (G, 21, [(0, .ref 6), (1, .int v1)], [.int v1, .ref 23], 0, 0) 21 2 (fun _ => rfl) h) ?_
      refine pj_X_of (fun r h => pj_T_il hI rfl rfl (by omega) (by omega) h) ?_
      show pj_X _ _ G 22 [(0, .ref 6), (1, .int v1)] [.int (pj_ai G 23 v1.toInt.toNat)] _
      obtain ⟨z3, hz3⟩ : ∃ z : Int32, z = pj_ai G 23 v1.toInt.toNat := ⟨_, rfl⟩
      rw [← hz3]
      rw [pj_nm_e]
      have ez3 : (pj_ai G 23 v1.toInt.toNat).toInt = z3.toInt := by rw [hz3]
      cases b4 : pj_c1 .le z3 0 with
      | true =>
        rw [pj_cT]
        have ub4 := pj_u0_leT b4
        refine pj_X_of (fun r h => pj_R_ifT 66 rfl rfl b4 h) ?_
        refine pj_X_of (fun r h => pj_R_to (G, 69, [(1, .int (v1 + Int32.ofInt 1)), (0, .ref 6)], [], 0, 0) 69 2 (fun _ => rfl) h) ?_
        obtain ⟨z5, hz5⟩ : ∃ z : Int32, z = v1 + Int32.ofInt 1 := ⟨_, rfl⟩
        rw [← hz5]
        rw [pj_nm_e]
        have fz5_0 : z5.toInt = v1.toInt + (Int32.ofInt 1).toInt := by rw [hz5]; exact pj_addI (by have := pj_i32 v1; have := pj_i32 (Int32.ofInt 1); omega) (by have := pj_i32 v1; have := pj_i32 (Int32.ofInt 1); omega)
        refine pj_X_of (fun r h => pj_R_to (G, 2, [(1, .int z5), (0, .ref 6)], [], 0, 0) 2 2 (fun _ => rfl) h) ?_
        exact pj_X_sub [(0, .ref 6), (1, .int z5)] (show List.Nodup [0, 1] by decide) ⟨rfl, rfl, trivial⟩ (ih G hI hK z5 ⟨by omega, by omega⟩ (by omega))
      | false =>
        rw [pj_cF]
        have ub4 := pj_u0_leF b4
        refine pj_X_of (fun r h => pj_R_ifF rfl b4 h) ?_
        refine pj_X_of (fun r h => pj_R_to (G, 26, [(0, .ref 6), (1, .int v1)], [.ref 6], 0, 0) 26 2 (fun _ => rfl) h) ?_
        refine pj_X_of (fun r h => pj_T_gr hI rfl rfl rfl h) ?_
        refine pj_X_of (fun r h => pj_T_gr hI rfl rfl rfl h) ?_
        refine pj_X_of (fun r h => pj_R_to (G, 34, [(0, .ref 6), (1, .int v1)], [.int v1, .ref 23, .int v1, .ref 23], 0, 0) 34 3 (fun _ => rfl) h) ?_
        refine pj_X_of (fun r h => pj_T_il hI rfl rfl (by omega) (by omega) h) ?_
        show pj_X _ _ G 35 [(0, .ref 6), (1, .int v1)] [.int (pj_ai G 23 v1.toInt.toNat), .int v1, .ref 23] _
        rw [← hz3]
        refine pj_X_of (fun r h => pj_R_to (G, 37, [(0, .ref 6), (1, .int v1)], [.int (z3 - (Int32.ofInt 1)), .int v1, .ref 23], 0, 0) 37 3 (fun _ => rfl) h) ?_
        obtain ⟨z6, hz6⟩ : ∃ z : Int32, z = z3 - (Int32.ofInt 1) := ⟨_, rfl⟩
        rw [← hz6]
        rw [pj_nm_e]
        have fz6_0 : z6.toInt = z3.toInt - (Int32.ofInt 1).toInt := by rw [hz6]; exact pj_subI (by have := pj_i32 z3; have := pj_i32 (Int32.ofInt 1); omega) (by have := pj_i32 z3; have := pj_i32 (Int32.ofInt 1); omega)
        refine pj_X_of (fun r h => pj_T_is hI rfl rfl (by omega) (by omega) h) ?_
        show pj_X _ _ (pj_wa G 23 v1.toInt.toNat z6) 38 [(0, .ref 6), (1, .int v1)] [] _
        obtain ⟨G7, hG7⟩ : ∃ H, H = pj_wa G 23 v1.toInt.toNat z6 := ⟨_, rfl⟩
        have iG7 : pj_Inv G7 := by rw [hG7]; exact pj_Inv_wa hI rfl (fun q hq => by cases hq) (fun n hn => by cases hn)
        have kG7 : pj_kpt kc_106x G0 G7 := by rw [hG7]; exact pj_kpt_a hK rfl
        rw [← hG7]
        rw [pj_nm_e]
        refine pj_X_of (fun r h => pj_R_to (G7, 40, [(0, .ref 6), (1, .int v1)], [.ref 6, .ref 6], 0, 0) 40 3 (fun _ => rfl) h) ?_
        refine pj_X_of (fun r h => pj_T_gi iG7 rfl rfl h) ?_
        show pj_X _ _ G7 43 [(0, .ref 6), (1, .int v1)] [.int (pj_fi G7 6 7), .ref 6] _
        obtain ⟨y8, hy8⟩ : ∃ z : Int32, z = pj_fi G7 6 7 := ⟨_, rfl⟩
        rw [← hy8]
        rw [pj_nm_e]
        have ey8 : (pj_fi G7 6 7).toInt = y8.toInt := by rw [hy8]
        refine pj_X_of (fun r h => pj_R_to (G7, 44, [(0, .ref 6), (1, .int v1)], [.ref 6, .int y8, .ref 6], 0, 0) 44 2 (fun _ => rfl) h) ?_
        refine pj_X_of (fun r h => pj_T_gr iG7 rfl rfl rfl h) ?_
        refine pj_X_of (fun r h => pj_T_gr iG7 rfl rfl rfl h) ?_
        refine pj_X_of (fun r h => pj_R_to (G7, 51, [(0, .ref 6), (1, .int v1)], [.int v1, .ref 23, .int y8, .ref 6], 0, 0) 51 2 (fun _ => rfl) h) ?_
        refine pj_X_of (fun r h => pj_T_il iG7 rfl rfl (by omega) (by omega) h) ?_
        show pj_X _ _ G7 52 [(0, .ref 6), (1, .int v1)] [.int (pj_ai G7 23 v1.toInt.toNat), .int y8, .ref 6] _
        obtain ⟨z9, hz9⟩ : ∃ z : Int32, z = pj_ai G7 23 v1.toInt.toNat := ⟨_, rfl⟩
        rw [← hz9]
        rw [pj_nm_e]
        have ez9 : (pj_ai G7 23 v1.toInt.toNat).toInt = z9.toInt := by rw [hz9]
        cases b10 : pj_c1 .ne z9 0 with
        | true =>
          rw [pj_cT]
          have ub10 := pj_u0_neT b10
          refine pj_X_of (fun r h => pj_R_ifT 61 rfl rfl b10 h) ?_
          refine pj_X_of (fun r h => pj_R_to (G7, 63, [(0, .ref 6), (1, .int v1)], [.int (y8 ||| (Int32.ofInt 0)), .ref 6], 0, 0) 63 3 (fun _ => rfl) h) ?_
          obtain ⟨z11, hz11⟩ : ∃ z : Int32, z = y8 ||| (Int32.ofInt 0) := ⟨_, rfl⟩
          rw [← hz11]
          rw [pj_nm_e]
          refine pj_X_of (fun r h => pj_T_pf iG7 rfl rfl rfl h) ?_
          show pj_X _ _ (pj_wv G7 6 7 (.int z11)) 66 [(0, .ref 6), (1, .int v1)] [] _
          obtain ⟨G12, hG12⟩ : ∃ H, H = pj_wv G7 6 7 (.int z11) := ⟨_, rfl⟩
          have iG12 : pj_Inv G12 := by rw [hG12]; exact pj_Inv_wi iG7 (ci := 10) rfl (fun q hq => by cases hq)
          have kG12 : pj_kpt kc_106x G0 G12 := by rw [hG12]; exact pj_kpt_v kG7 rfl
          rw [← hG12]
          rw [pj_nm_e]
          refine pj_X_of (fun r h => pj_R_to (G12, 69, [(1, .int (v1 + Int32.ofInt 1)), (0, .ref 6)], [], 0, 0) 69 2 (fun _ => rfl) h) ?_
          obtain ⟨z13, hz13⟩ : ∃ z : Int32, z = v1 + Int32.ofInt 1 := ⟨_, rfl⟩
          rw [← hz13]
          rw [pj_nm_e]
          have fz13_0 : z13.toInt = v1.toInt + (Int32.ofInt 1).toInt := by rw [hz13]; exact pj_addI (by have := pj_i32 v1; have := pj_i32 (Int32.ofInt 1); omega) (by have := pj_i32 v1; have := pj_i32 (Int32.ofInt 1); omega)
          refine pj_X_of (fun r h => pj_R_to (G12, 2, [(1, .int z13), (0, .ref 6)], [], 0, 0) 2 2 (fun _ => rfl) h) ?_
          exact pj_X_sub [(0, .ref 6), (1, .int z13)] (show List.Nodup [0, 1] by decide) ⟨rfl, rfl, trivial⟩ (ih G12 iG12 kG12 z13 ⟨by omega, by omega⟩ (by omega))
        | false =>
          rw [pj_cF]
          have ub10 := pj_u0_neF b10
          refine pj_X_of (fun r h => pj_R_ifF rfl b10 h) ?_
          refine pj_X_of (fun r h => pj_R_to (G7, 58, [(0, .ref 6), (1, .int v1)], [.int ((Int32.ofInt 1) <<< (v1 &&& 31)), .int y8, .ref 6], 0, 0) 58 4 (fun _ => rfl) h) ?_
          obtain ⟨z14, hz14⟩ : ∃ z : Int32, z = (Int32.ofInt 1) <<< (v1 &&& 31) := ⟨_, rfl⟩
          rw [← hz14]
          rw [pj_nm_e]
          have fz14_0 : 1 ≤ z14.toInt ∧ z14.toInt ≤ 32 := by rw [hz14]; exact pj_shlI5 (by omega) (by omega)
          refine pj_X_of (fun r h => pj_R_to (G7, 63, [(0, .ref 6), (1, .int v1)], [.int (y8 ||| z14), .ref 6], 0, 0) 63 3 (fun _ => rfl) h) ?_
          obtain ⟨z15, hz15⟩ : ∃ z : Int32, z = y8 ||| z14 := ⟨_, rfl⟩
          rw [← hz15]
          rw [pj_nm_e]
          refine pj_X_of (fun r h => pj_T_pf iG7 rfl rfl rfl h) ?_
          show pj_X _ _ (pj_wv G7 6 7 (.int z15)) 66 [(0, .ref 6), (1, .int v1)] [] _
          obtain ⟨G16, hG16⟩ : ∃ H, H = pj_wv G7 6 7 (.int z15) := ⟨_, rfl⟩
          have iG16 : pj_Inv G16 := by rw [hG16]; exact pj_Inv_wi iG7 (ci := 10) rfl (fun q hq => by cases hq)
          have kG16 : pj_kpt kc_106x G0 G16 := by rw [hG16]; exact pj_kpt_v kG7 rfl
          rw [← hG16]
          rw [pj_nm_e]
          refine pj_X_of (fun r h => pj_R_to (G16, 69, [(1, .int (v1 + Int32.ofInt 1)), (0, .ref 6)], [], 0, 0) 69 2 (fun _ => rfl) h) ?_
          obtain ⟨z17, hz17⟩ : ∃ z : Int32, z = v1 + Int32.ofInt 1 := ⟨_, rfl⟩
          rw [← hz17]
          rw [pj_nm_e]
          have fz17_0 : z17.toInt = v1.toInt + (Int32.ofInt 1).toInt := by rw [hz17]; exact pj_addI (by have := pj_i32 v1; have := pj_i32 (Int32.ofInt 1); omega) (by have := pj_i32 v1; have := pj_i32 (Int32.ofInt 1); omega)
          refine pj_X_of (fun r h => pj_R_to (G16, 2, [(1, .int z17), (0, .ref 6)], [], 0, 0) 2 2 (fun _ => rfl) h) ?_
          exact pj_X_sub [(0, .ref 6), (1, .int z17)] (show List.Nodup [0, 1] by decide) ⟨rfl, rfl, trivial⟩ (ih G16 iG16 kG16 z17 ⟨by omega, by omega⟩ (by omega))
theorem ct_106x (G0 : pj_G) (hI : pj_Inv G0) : pj_Y 1 106 [.ref 6] G0 (fun v' G' => v' = none ∧ pj_Inv G' ∧ pj_kpt kc_106x G0 G' ∧ (G' = F_106x G0)) := by
  have c0_ : (Int32.ofInt 0).toInt = 0 := by decide
  have c1_ : (Int32.ofInt 1).toInt = 1 := by decide
  refine pj_Y_X (M := pj_m106) rfl rfl (Nat.le_of_ble_eq_true rfl) ?_
  have hK : pj_kpt kc_106x G0 G0 := pj_kpt_r _ _
  show pj_X _ _ G0 0 [(0, .ref 6)] [] _
  rw [F_106x_e]
  refine pj_X_of (fun r h => pj_R_to (G0, 2, [(1, .int (Int32.ofInt 0)), (0, .ref 6)], [], 0, 0) 2 3 (fun _ => rfl) h) ?_
  exact pj_X_sub [(0, .ref 6), (1, .int (Int32.ofInt 0))] (show List.Nodup [0, 1] by decide) ⟨rfl, rfl, trivial⟩ ((lp_ct_106x G0 hI   7) G0 hI hK (Int32.ofInt 0) ⟨by omega, by omega⟩ (by omega))
theorem fr_106x (G0 : pj_G) (hI : pj_Inv G0) : pj_Inv (F_106x G0) ∧ pj_kpt kc_106x G0 (F_106x G0) := by
  obtain ⟨v, G', -, -, i, j, e⟩ := ct_106x G0 hI 
  rw [← e]
  exact ⟨i, j⟩
def kc_107x : pj_KT := ([(6, 8), (21, 8)], [6, 21, 25], [25])
noncomputable def L_107x (G0 : pj_G) (fu : Nat) : Int32 → pj_G → pj_G := Nat.rec (motive := fun _ => Int32 → pj_G → pj_G) (fun _ G => G) (fun _ ih v1 G => pj_nm (pj_fi G 21 0) (fun y1 => cond (pj_c1 .ge v1 y1) (G) (pj_nm (pj_ai G 25 v1.toInt.toNat) (fun z3 => pj_nm (pj_fi G 21 7) (fun y4 => cond (pj_c1 .ne z3 y4) (pj_nm (v1 + Int32.ofInt 1) (fun z6 => ih z6 G)) (pj_nm (pj_wa G 25 v1.toInt.toNat (Int32.ofInt (-1))) (fun G7 => pj_nm (pj_ai G7 22 v1.toInt.toNat) (fun z8 => cond (pj_c1 .ne z8 (Int32.ofInt (-1))) (pj_nm (pj_fi G7 21 8) (fun y10 => pj_nm (y10 + (Int32.ofInt 1)) (fun z11 => pj_nm (pj_wv G7 21 8 (.int z11)) (fun G12 => pj_nm (pj_fi G12 6 8) (fun y13 => pj_nm ((Int32.ofInt 1) <<< (v1 &&& 31)) (fun z14 => pj_nm (y13 ||| z14) (fun z15 => pj_nm (pj_wv G12 6 8 (.int z15)) (fun G16 => pj_nm (v1 + Int32.ofInt 1) (fun z17 => ih z17 G16))))))))) (pj_nm (pj_ai G7 23 v1.toInt.toNat) (fun z18 => cond (pj_c1 .le z18 0) (pj_nm (v1 + Int32.ofInt 1) (fun z20 => ih z20 G7)) (pj_nm (pj_fi G7 21 8) (fun y21 => pj_nm (y21 + (Int32.ofInt 1)) (fun z22 => pj_nm (pj_wv G7 21 8 (.int z22)) (fun G23 => pj_nm (pj_fi G23 6 8) (fun y24 => pj_nm ((Int32.ofInt 1) <<< (v1 &&& 31)) (fun z25 => pj_nm (y24 ||| z25) (fun z26 => pj_nm (pj_wv G23 6 8 (.int z26)) (fun G27 => pj_nm (v1 + Int32.ofInt 1) (fun z28 => ih z28 G27))))))))))))))))))) fu
theorem L_107x_s0 (G0 : pj_G) (fu : Nat) (v1 : Int32) (G : pj_G) : L_107x G0 (fu + 1) v1 G = pj_nm (pj_fi G 21 0) (fun y1 => cond (pj_c1 .ge v1 y1) (G) (pj_nm (pj_ai G 25 v1.toInt.toNat) (fun z3 => pj_nm (pj_fi G 21 7) (fun y4 => cond (pj_c1 .ne z3 y4) (pj_nm (v1 + Int32.ofInt 1) (fun z6 => L_107x G0 fu z6 G)) (pj_nm (pj_wa G 25 v1.toInt.toNat (Int32.ofInt (-1))) (fun G7 => pj_nm (pj_ai G7 22 v1.toInt.toNat) (fun z8 => cond (pj_c1 .ne z8 (Int32.ofInt (-1))) (pj_nm (pj_fi G7 21 8) (fun y10 => pj_nm (y10 + (Int32.ofInt 1)) (fun z11 => pj_nm (pj_wv G7 21 8 (.int z11)) (fun G12 => pj_nm (pj_fi G12 6 8) (fun y13 => pj_nm ((Int32.ofInt 1) <<< (v1 &&& 31)) (fun z14 => pj_nm (y13 ||| z14) (fun z15 => pj_nm (pj_wv G12 6 8 (.int z15)) (fun G16 => pj_nm (v1 + Int32.ofInt 1) (fun z17 => L_107x G0 fu z17 G16))))))))) (pj_nm (pj_ai G7 23 v1.toInt.toNat) (fun z18 => cond (pj_c1 .le z18 0) (pj_nm (v1 + Int32.ofInt 1) (fun z20 => L_107x G0 fu z20 G7)) (pj_nm (pj_fi G7 21 8) (fun y21 => pj_nm (y21 + (Int32.ofInt 1)) (fun z22 => pj_nm (pj_wv G7 21 8 (.int z22)) (fun G23 => pj_nm (pj_fi G23 6 8) (fun y24 => pj_nm ((Int32.ofInt 1) <<< (v1 &&& 31)) (fun z25 => pj_nm (y24 ||| z25) (fun z26 => pj_nm (pj_wv G23 6 8 (.int z26)) (fun G27 => pj_nm (v1 + Int32.ofInt 1) (fun z28 => L_107x G0 fu z28 G27)))))))))))))))))) := rfl
noncomputable def F_107x (G0 : pj_G) : pj_G := L_107x G0 7 (Int32.ofInt 0) G0
theorem F_107x_e (G0 : pj_G) : F_107x G0 = L_107x G0 7 (Int32.ofInt 0) G0 := rfl
theorem lp_ct_107x (G0 : pj_G) (hI0 : pj_Inv G0) : ∀ mn : Nat, (∀ (G : pj_G) (hI : pj_Inv G) (hK : pj_kpt kc_107x G0 G) (v1 : Int32), ((0 : Int) ≤ v1.toInt ∧ v1.toInt ≤ 6) → 6 - v1.toInt < (mn : Int) → pj_X 0 pj_m107 G 2 [(0, .ref 6), (1, .int v1)] [] (fun v' G' => v' = none ∧ pj_Inv G' ∧ pj_kpt kc_107x G0 G' ∧ (G' = L_107x G0 mn v1 G))) := by
  have c0_ : (Int32.ofInt (-1)).toInt = -1 := by decide
  have c1_ : (Int32.ofInt 0).toInt = 0 := by decide
  have c2_ : (Int32.ofInt 1).toInt = 1 := by decide
  intro mn
  induction mn with
  | zero =>
    intro G hI hK v1 rv1 hm
    exfalso
    omega
  | succ mn ih =>
    intro G hI hK v1 rv1 hm
    rw [L_107x_s0]
    refine pj_X_of (fun r h => pj_R_to (G, 4, [(0, .ref 6), (1, .int v1)], [.ref 6, .int v1], 0, 0) 4 3 (fun _ => rfl) h) ?_
    refine pj_X_of (fun r h => pj_T_gr hI rfl rfl rfl h) ?_
    refine pj_X_of (fun r h => pj_T_gi hI rfl rfl h) ?_
    show pj_X _ _ G 10 [(0, .ref 6), (1, .int v1)] [.int (pj_fi G 21 0), .int v1] _
    obtain ⟨y1, hy1⟩ : ∃ z : Int32, z = pj_fi G 21 0 := ⟨_, rfl⟩
    rw [← hy1]
    rw [pj_nm_e]
    have ey1 : (pj_fi G 21 0).toInt = y1.toInt := by rw [hy1]
    have ry1 : (0 : Int) ≤ y1.toInt ∧ y1.toInt ≤ 6 := by rw [hy1]; exact hI.2.1 21 0 (0, 6) rfl
    cases b2 : pj_c1 .ge v1 y1 with
    | true =>
      rw [pj_cT]
      have ub2 := pj_u_geT b2
      refine pj_X_of (fun r h => pj_R_icT 98 rfl rfl b2 h) ?_
      exact pj_X_rt rfl rfl ⟨rfl, hI, hK, rfl⟩
    | false =>
      rw [pj_cF]
      have ub2 := pj_u_geF b2
      refine pj_X_of (fun r h => pj_R_icF rfl b2 h) ?_
      refine pj_X_of (fun r h => pj_R_to (G, 14, [(0, .ref 6), (1, .int v1)], [.ref 6], 0, 0) 14 2 (fun _ => rfl) h) ?_
      refine pj_X_of (fun r h => pj_T_gr hI rfl rfl rfl h) ?_
      refine pj_X_of (fun r h => pj_T_gr hI rfl rfl rfl h) ?_
      refine pj_X_of (fun r h => pj_R_to (G, 21, [(0, .ref 6), (1, .int v1)], [.int v1, .ref 25], 0, 0) 21 2 (fun _ => rfl) h) ?_
      refine pj_X_of (fun r h => pj_T_il hI rfl rfl (by omega) (by omega) h) ?_
      show pj_X _ _ G 22 [(0, .ref 6), (1, .int v1)] [.int (pj_ai G 25 v1.toInt.toNat)] _
      obtain ⟨z3, hz3⟩ : ∃ z : Int32, z = pj_ai G 25 v1.toInt.toNat := ⟨_, rfl⟩
      rw [← hz3]
      rw [pj_nm_e]
      have ez3 : (pj_ai G 25 v1.toInt.toNat).toInt = z3.toInt := by rw [hz3]
      refine pj_X_of (fun r h => pj_R_to (G, 23, [(0, .ref 6), (1, .int v1)], [.ref 6, .int z3], 0, 0) 23 2 (fun _ => rfl) h) ?_
      refine pj_X_of (fun r h => pj_T_gr hI rfl rfl rfl h) ?_
      refine pj_X_of (fun r h => pj_T_gi hI rfl rfl h) ?_
      show pj_X _ _ G 29 [(0, .ref 6), (1, .int v1)] [.int (pj_fi G 21 7), .int z3] _
      obtain ⟨y4, hy4⟩ : ∃ z : Int32, z = pj_fi G 21 7 := ⟨_, rfl⟩
      rw [← hy4]
      rw [pj_nm_e]
      have ey4 : (pj_fi G 21 7).toInt = y4.toInt := by rw [hy4]
      cases b5 : pj_c1 .ne z3 y4 with
      | true =>
        rw [pj_cT]
        have ub5 := pj_u_neT b5
        refine pj_X_of (fun r h => pj_R_icT 92 rfl rfl b5 h) ?_
        refine pj_X_of (fun r h => pj_R_to (G, 95, [(1, .int (v1 + Int32.ofInt 1)), (0, .ref 6)], [], 0, 0) 95 2 (fun _ => rfl) h) ?_
        obtain ⟨z6, hz6⟩ : ∃ z : Int32, z = v1 + Int32.ofInt 1 := ⟨_, rfl⟩
        rw [← hz6]
        rw [pj_nm_e]
        have fz6_0 : z6.toInt = v1.toInt + (Int32.ofInt 1).toInt := by rw [hz6]; exact pj_addI (by have := pj_i32 v1; have := pj_i32 (Int32.ofInt 1); omega) (by have := pj_i32 v1; have := pj_i32 (Int32.ofInt 1); omega)
        refine pj_X_of (fun r h => pj_R_to (G, 2, [(1, .int z6), (0, .ref 6)], [], 0, 0) 2 2 (fun _ => rfl) h) ?_
        exact pj_X_sub [(0, .ref 6), (1, .int z6)] (show List.Nodup [0, 1] by decide) ⟨rfl, rfl, trivial⟩ (ih G hI hK z6 ⟨by omega, by omega⟩ (by omega))
      | false =>
        rw [pj_cF]
        have ub5 := pj_u_neF b5
        refine pj_X_of (fun r h => pj_R_icF rfl b5 h) ?_
        refine pj_X_of (fun r h => pj_R_to (G, 33, [(0, .ref 6), (1, .int v1)], [.ref 6], 0, 0) 33 2 (fun _ => rfl) h) ?_
        refine pj_X_of (fun r h => pj_T_gr hI rfl rfl rfl h) ?_
        refine pj_X_of (fun r h => pj_T_gr hI rfl rfl rfl h) ?_
        refine pj_X_of (fun r h => pj_R_to (G, 41, [(0, .ref 6), (1, .int v1)], [.int (Int32.ofInt (-1)), .int v1, .ref 25], 0, 0) 41 3 (fun _ => rfl) h) ?_
        refine pj_X_of (fun r h => pj_T_is hI rfl rfl (by omega) (by omega) h) ?_
        show pj_X _ _ (pj_wa G 25 v1.toInt.toNat (Int32.ofInt (-1))) 42 [(0, .ref 6), (1, .int v1)] [] _
        obtain ⟨G7, hG7⟩ : ∃ H, H = pj_wa G 25 v1.toInt.toNat (Int32.ofInt (-1)) := ⟨_, rfl⟩
        have iG7 : pj_Inv G7 := by rw [hG7]; exact pj_Inv_wa hI rfl (fun q hq => by cases hq) (fun n hn => by cases hn)
        have kG7 : pj_kpt kc_107x G0 G7 := by rw [hG7]; exact pj_kpt_a hK rfl
        rw [← hG7]
        rw [pj_nm_e]
        refine pj_X_of (fun r h => pj_R_to (G7, 43, [(0, .ref 6), (1, .int v1)], [.ref 6], 0, 0) 43 2 (fun _ => rfl) h) ?_
        refine pj_X_of (fun r h => pj_T_gr iG7 rfl rfl rfl h) ?_
        refine pj_X_of (fun r h => pj_T_gr iG7 rfl rfl rfl h) ?_
        refine pj_X_of (fun r h => pj_R_to (G7, 50, [(0, .ref 6), (1, .int v1)], [.int v1, .ref 22], 0, 0) 50 2 (fun _ => rfl) h) ?_
        refine pj_X_of (fun r h => pj_T_il iG7 rfl rfl (by omega) (by omega) h) ?_
        show pj_X _ _ G7 51 [(0, .ref 6), (1, .int v1)] [.int (pj_ai G7 22 v1.toInt.toNat)] _
        obtain ⟨z8, hz8⟩ : ∃ z : Int32, z = pj_ai G7 22 v1.toInt.toNat := ⟨_, rfl⟩
        rw [← hz8]
        rw [pj_nm_e]
        have ez8 : (pj_ai G7 22 v1.toInt.toNat).toInt = z8.toInt := by rw [hz8]
        have fz8_0 : (-1 : Int) ≤ z8.toInt ∧ z8.toInt ≤ 9 ∧ (z8.toInt ≤ -1 ∨ -1 ≤ z8.toInt) := by rw [hz8]; exact iG7.2.2.1 22 (6, -1, 9, -1, -1) rfl _ (by show _ < 6; omega)
        refine pj_X_of (fun r h => pj_R_to (G7, 52, [(0, .ref 6), (1, .int v1)], [.int (Int32.ofInt (-1)), .int z8], 0, 0) 52 2 (fun _ => rfl) h) ?_
        cases b9 : pj_c1 .ne z8 (Int32.ofInt (-1)) with
        | true =>
          rw [pj_cT]
          have ub9 := pj_u_neT b9
          refine pj_X_of (fun r h => pj_R_icT 67 rfl rfl b9 h) ?_
          refine pj_X_of (fun r h => pj_R_to (G7, 68, [(0, .ref 6), (1, .int v1)], [.ref 6], 0, 0) 68 2 (fun _ => rfl) h) ?_
          refine pj_X_of (fun r h => pj_T_gr iG7 rfl rfl rfl h) ?_
          refine pj_X_of (fun r h => pj_R_to (G7, 72, [(0, .ref 6), (1, .int v1)], [.ref 21, .ref 21], 0, 0) 72 2 (fun _ => rfl) h) ?_
          refine pj_X_of (fun r h => pj_T_gi iG7 rfl rfl h) ?_
          show pj_X _ _ G7 75 [(0, .ref 6), (1, .int v1)] [.int (pj_fi G7 21 8), .ref 21] _
          obtain ⟨y10, hy10⟩ : ∃ z : Int32, z = pj_fi G7 21 8 := ⟨_, rfl⟩
          rw [← hy10]
          rw [pj_nm_e]
          have ey10 : (pj_fi G7 21 8).toInt = y10.toInt := by rw [hy10]
          refine pj_X_of (fun r h => pj_R_to (G7, 77, [(0, .ref 6), (1, .int v1)], [.int (y10 + (Int32.ofInt 1)), .ref 21], 0, 0) 77 3 (fun _ => rfl) h) ?_
          obtain ⟨z11, hz11⟩ : ∃ z : Int32, z = y10 + (Int32.ofInt 1) := ⟨_, rfl⟩
          rw [← hz11]
          rw [pj_nm_e]
          refine pj_X_of (fun r h => pj_T_pf iG7 rfl rfl rfl h) ?_
          show pj_X _ _ (pj_wv G7 21 8 (.int z11)) 80 [(0, .ref 6), (1, .int v1)] [] _
          obtain ⟨G12, hG12⟩ : ∃ H, H = pj_wv G7 21 8 (.int z11) := ⟨_, rfl⟩
          have iG12 : pj_Inv G12 := by rw [hG12]; exact pj_Inv_wi iG7 (ci := 8) rfl (fun q hq => by cases hq)
          have kG12 : pj_kpt kc_107x G0 G12 := by rw [hG12]; exact pj_kpt_v kG7 rfl
          rw [← hG12]
          rw [pj_nm_e]
          refine pj_X_of (fun r h => pj_R_to (G12, 82, [(0, .ref 6), (1, .int v1)], [.ref 6, .ref 6], 0, 0) 82 3 (fun _ => rfl) h) ?_
          refine pj_X_of (fun r h => pj_T_gi iG12 rfl rfl h) ?_
          show pj_X _ _ G12 85 [(0, .ref 6), (1, .int v1)] [.int (pj_fi G12 6 8), .ref 6] _
          obtain ⟨y13, hy13⟩ : ∃ z : Int32, z = pj_fi G12 6 8 := ⟨_, rfl⟩
          rw [← hy13]
          rw [pj_nm_e]
          have ey13 : (pj_fi G12 6 8).toInt = y13.toInt := by rw [hy13]
          refine pj_X_of (fun r h => pj_R_to (G12, 88, [(0, .ref 6), (1, .int v1)], [.int ((Int32.ofInt 1) <<< (v1 &&& 31)), .int y13, .ref 6], 0, 0) 88 4 (fun _ => rfl) h) ?_
          obtain ⟨z14, hz14⟩ : ∃ z : Int32, z = (Int32.ofInt 1) <<< (v1 &&& 31) := ⟨_, rfl⟩
          rw [← hz14]
          rw [pj_nm_e]
          have fz14_0 : 1 ≤ z14.toInt ∧ z14.toInt ≤ 32 := by rw [hz14]; exact pj_shlI5 (by omega) (by omega)
          refine pj_X_of (fun r h => pj_R_to (G12, 89, [(0, .ref 6), (1, .int v1)], [.int (y13 ||| z14), .ref 6], 0, 0) 89 2 (fun _ => rfl) h) ?_
          obtain ⟨z15, hz15⟩ : ∃ z : Int32, z = y13 ||| z14 := ⟨_, rfl⟩
          rw [← hz15]
          rw [pj_nm_e]
          refine pj_X_of (fun r h => pj_T_pf iG12 rfl rfl rfl h) ?_
          show pj_X _ _ (pj_wv G12 6 8 (.int z15)) 92 [(0, .ref 6), (1, .int v1)] [] _
          obtain ⟨G16, hG16⟩ : ∃ H, H = pj_wv G12 6 8 (.int z15) := ⟨_, rfl⟩
          have iG16 : pj_Inv G16 := by rw [hG16]; exact pj_Inv_wi iG12 (ci := 10) rfl (fun q hq => by cases hq)
          have kG16 : pj_kpt kc_107x G0 G16 := by rw [hG16]; exact pj_kpt_v kG12 rfl
          rw [← hG16]
          rw [pj_nm_e]
          refine pj_X_of (fun r h => pj_R_to (G16, 95, [(1, .int (v1 + Int32.ofInt 1)), (0, .ref 6)], [], 0, 0) 95 2 (fun _ => rfl) h) ?_
          obtain ⟨z17, hz17⟩ : ∃ z : Int32, z = v1 + Int32.ofInt 1 := ⟨_, rfl⟩
          rw [← hz17]
          rw [pj_nm_e]
          have fz17_0 : z17.toInt = v1.toInt + (Int32.ofInt 1).toInt := by rw [hz17]; exact pj_addI (by have := pj_i32 v1; have := pj_i32 (Int32.ofInt 1); omega) (by have := pj_i32 v1; have := pj_i32 (Int32.ofInt 1); omega)
          refine pj_X_of (fun r h => pj_R_to (G16, 2, [(1, .int z17), (0, .ref 6)], [], 0, 0) 2 2 (fun _ => rfl) h) ?_
          exact pj_X_sub [(0, .ref 6), (1, .int z17)] (show List.Nodup [0, 1] by decide) ⟨rfl, rfl, trivial⟩ (ih G16 iG16 kG16 z17 ⟨by omega, by omega⟩ (by omega))
        | false =>
          rw [pj_cF]
          have ub9 := pj_u_neF b9
          refine pj_X_of (fun r h => pj_R_icF rfl b9 h) ?_
          refine pj_X_of (fun r h => pj_R_to (G7, 56, [(0, .ref 6), (1, .int v1)], [.ref 6], 0, 0) 56 2 (fun _ => rfl) h) ?_
          refine pj_X_of (fun r h => pj_T_gr iG7 rfl rfl rfl h) ?_
          refine pj_X_of (fun r h => pj_T_gr iG7 rfl rfl rfl h) ?_
          refine pj_X_of (fun r h => pj_R_to (G7, 63, [(0, .ref 6), (1, .int v1)], [.int v1, .ref 23], 0, 0) 63 2 (fun _ => rfl) h) ?_
          refine pj_X_of (fun r h => pj_T_il iG7 rfl rfl (by omega) (by omega) h) ?_
          show pj_X _ _ G7 64 [(0, .ref 6), (1, .int v1)] [.int (pj_ai G7 23 v1.toInt.toNat)] _
          obtain ⟨z18, hz18⟩ : ∃ z : Int32, z = pj_ai G7 23 v1.toInt.toNat := ⟨_, rfl⟩
          rw [← hz18]
          rw [pj_nm_e]
          have ez18 : (pj_ai G7 23 v1.toInt.toNat).toInt = z18.toInt := by rw [hz18]
          cases b19 : pj_c1 .le z18 0 with
          | true =>
            rw [pj_cT]
            have ub19 := pj_u0_leT b19
            refine pj_X_of (fun r h => pj_R_ifT 92 rfl rfl b19 h) ?_
            refine pj_X_of (fun r h => pj_R_to (G7, 95, [(1, .int (v1 + Int32.ofInt 1)), (0, .ref 6)], [], 0, 0) 95 2 (fun _ => rfl) h) ?_
            obtain ⟨z20, hz20⟩ : ∃ z : Int32, z = v1 + Int32.ofInt 1 := ⟨_, rfl⟩
            rw [← hz20]
            rw [pj_nm_e]
            have fz20_0 : z20.toInt = v1.toInt + (Int32.ofInt 1).toInt := by rw [hz20]; exact pj_addI (by have := pj_i32 v1; have := pj_i32 (Int32.ofInt 1); omega) (by have := pj_i32 v1; have := pj_i32 (Int32.ofInt 1); omega)
            refine pj_X_of (fun r h => pj_R_to (G7, 2, [(1, .int z20), (0, .ref 6)], [], 0, 0) 2 2 (fun _ => rfl) h) ?_
            exact pj_X_sub [(0, .ref 6), (1, .int z20)] (show List.Nodup [0, 1] by decide) ⟨rfl, rfl, trivial⟩ (ih G7 iG7 kG7 z20 ⟨by omega, by omega⟩ (by omega))
          | false =>
            rw [pj_cF]
            have ub19 := pj_u0_leF b19
            refine pj_X_of (fun r h => pj_R_ifF rfl b19 h) ?_
            refine pj_X_of (fun r h => pj_R_to (G7, 68, [(0, .ref 6), (1, .int v1)], [.ref 6], 0, 0) 68 2 (fun _ => rfl) h) ?_
            refine pj_X_of (fun r h => pj_T_gr iG7 rfl rfl rfl h) ?_
            refine pj_X_of (fun r h => pj_R_to (G7, 72, [(0, .ref 6), (1, .int v1)], [.ref 21, .ref 21], 0, 0) 72 2 (fun _ => rfl) h) ?_
            refine pj_X_of (fun r h => pj_T_gi iG7 rfl rfl h) ?_
            show pj_X _ _ G7 75 [(0, .ref 6), (1, .int v1)] [.int (pj_fi G7 21 8), .ref 21] _
            obtain ⟨y21, hy21⟩ : ∃ z : Int32, z = pj_fi G7 21 8 := ⟨_, rfl⟩
            rw [← hy21]
            rw [pj_nm_e]
            have ey21 : (pj_fi G7 21 8).toInt = y21.toInt := by rw [hy21]
            refine pj_X_of (fun r h => pj_R_to (G7, 77, [(0, .ref 6), (1, .int v1)], [.int (y21 + (Int32.ofInt 1)), .ref 21], 0, 0) 77 3 (fun _ => rfl) h) ?_
            obtain ⟨z22, hz22⟩ : ∃ z : Int32, z = y21 + (Int32.ofInt 1) := ⟨_, rfl⟩
            rw [← hz22]
            rw [pj_nm_e]
            refine pj_X_of (fun r h => pj_T_pf iG7 rfl rfl rfl h) ?_
            show pj_X _ _ (pj_wv G7 21 8 (.int z22)) 80 [(0, .ref 6), (1, .int v1)] [] _
            obtain ⟨G23, hG23⟩ : ∃ H, H = pj_wv G7 21 8 (.int z22) := ⟨_, rfl⟩
            have iG23 : pj_Inv G23 := by rw [hG23]; exact pj_Inv_wi iG7 (ci := 8) rfl (fun q hq => by cases hq)
            have kG23 : pj_kpt kc_107x G0 G23 := by rw [hG23]; exact pj_kpt_v kG7 rfl
            rw [← hG23]
            rw [pj_nm_e]
            refine pj_X_of (fun r h => pj_R_to (G23, 82, [(0, .ref 6), (1, .int v1)], [.ref 6, .ref 6], 0, 0) 82 3 (fun _ => rfl) h) ?_
            refine pj_X_of (fun r h => pj_T_gi iG23 rfl rfl h) ?_
            show pj_X _ _ G23 85 [(0, .ref 6), (1, .int v1)] [.int (pj_fi G23 6 8), .ref 6] _
            obtain ⟨y24, hy24⟩ : ∃ z : Int32, z = pj_fi G23 6 8 := ⟨_, rfl⟩
            rw [← hy24]
            rw [pj_nm_e]
            have ey24 : (pj_fi G23 6 8).toInt = y24.toInt := by rw [hy24]
            refine pj_X_of (fun r h => pj_R_to (G23, 88, [(0, .ref 6), (1, .int v1)], [.int ((Int32.ofInt 1) <<< (v1 &&& 31)), .int y24, .ref 6], 0, 0) 88 4 (fun _ => rfl) h) ?_
            obtain ⟨z25, hz25⟩ : ∃ z : Int32, z = (Int32.ofInt 1) <<< (v1 &&& 31) := ⟨_, rfl⟩
            rw [← hz25]
            rw [pj_nm_e]
            have fz25_0 : 1 ≤ z25.toInt ∧ z25.toInt ≤ 32 := by rw [hz25]; exact pj_shlI5 (by omega) (by omega)
            refine pj_X_of (fun r h => pj_R_to (G23, 89, [(0, .ref 6), (1, .int v1)], [.int (y24 ||| z25), .ref 6], 0, 0) 89 2 (fun _ => rfl) h) ?_
            obtain ⟨z26, hz26⟩ : ∃ z : Int32, z = y24 ||| z25 := ⟨_, rfl⟩
            rw [← hz26]
            rw [pj_nm_e]
            refine pj_X_of (fun r h => pj_T_pf iG23 rfl rfl rfl h) ?_
            show pj_X _ _ (pj_wv G23 6 8 (.int z26)) 92 [(0, .ref 6), (1, .int v1)] [] _
            obtain ⟨G27, hG27⟩ : ∃ H, H = pj_wv G23 6 8 (.int z26) := ⟨_, rfl⟩
            have iG27 : pj_Inv G27 := by rw [hG27]; exact pj_Inv_wi iG23 (ci := 10) rfl (fun q hq => by cases hq)
            have kG27 : pj_kpt kc_107x G0 G27 := by rw [hG27]; exact pj_kpt_v kG23 rfl
            rw [← hG27]
            rw [pj_nm_e]
            refine pj_X_of (fun r h => pj_R_to (G27, 95, [(1, .int (v1 + Int32.ofInt 1)), (0, .ref 6)], [], 0, 0) 95 2 (fun _ => rfl) h) ?_
            obtain ⟨z28, hz28⟩ : ∃ z : Int32, z = v1 + Int32.ofInt 1 := ⟨_, rfl⟩
            rw [← hz28]
            rw [pj_nm_e]
            have fz28_0 : z28.toInt = v1.toInt + (Int32.ofInt 1).toInt := by rw [hz28]; exact pj_addI (by have := pj_i32 v1; have := pj_i32 (Int32.ofInt 1); omega) (by have := pj_i32 v1; have := pj_i32 (Int32.ofInt 1); omega)
            refine pj_X_of (fun r h => pj_R_to (G27, 2, [(1, .int z28), (0, .ref 6)], [], 0, 0) 2 2 (fun _ => rfl) h) ?_
            exact pj_X_sub [(0, .ref 6), (1, .int z28)] (show List.Nodup [0, 1] by decide) ⟨rfl, rfl, trivial⟩ (ih G27 iG27 kG27 z28 ⟨by omega, by omega⟩ (by omega))
theorem ct_107x (G0 : pj_G) (hI : pj_Inv G0) : pj_Y 1 107 [.ref 6] G0 (fun v' G' => v' = none ∧ pj_Inv G' ∧ pj_kpt kc_107x G0 G' ∧ (G' = F_107x G0)) := by
  have c0_ : (Int32.ofInt (-1)).toInt = -1 := by decide
  have c1_ : (Int32.ofInt 0).toInt = 0 := by decide
  have c2_ : (Int32.ofInt 1).toInt = 1 := by decide
  refine pj_Y_X (M := pj_m107) rfl rfl (Nat.le_of_ble_eq_true rfl) ?_
  have hK : pj_kpt kc_107x G0 G0 := pj_kpt_r _ _
  show pj_X _ _ G0 0 [(0, .ref 6)] [] _
  rw [F_107x_e]
  refine pj_X_of (fun r h => pj_R_to (G0, 2, [(1, .int (Int32.ofInt 0)), (0, .ref 6)], [], 0, 0) 2 3 (fun _ => rfl) h) ?_
  exact pj_X_sub [(0, .ref 6), (1, .int (Int32.ofInt 0))] (show List.Nodup [0, 1] by decide) ⟨rfl, rfl, trivial⟩ ((lp_ct_107x G0 hI   7) G0 hI hK (Int32.ofInt 0) ⟨by omega, by omega⟩ (by omega))
theorem fr_107x (G0 : pj_G) (hI : pj_Inv G0) : pj_Inv (F_107x G0) ∧ pj_kpt kc_107x G0 (F_107x G0) := by
  obtain ⟨v, G', -, -, i, j, e⟩ := ct_107x G0 hI 
  rw [← e]
  exact ⟨i, j⟩
theorem lp_ct_108 (G0 : pj_G) (hI : pj_Inv G0) (ld : Int32) (hr : Int32) : ∀ mn : Nat, (∀ (v3 : Int32) (v4 : Int32), ((0 : Int) ≤ v3.toInt ∧ v3.toInt ≤ 1023) → ((0 : Int) ≤ v4.toInt ∧ v4.toInt ≤ 6) → 6 - v4.toInt < (mn : Int) → pj_X 0 pj_m108 G0 5 [(0, .ref 6), (1, .int ld), (2, .int hr), (3, .int v3), (4, .int v4)] [] (fun v G' => ∃ y : Int32, v = some (.int y) ∧ G0 = G' ∧ ((0 : Int) ≤ y.toInt ∧ y.toInt ≤ 1023))) := by
  have c0_ : (Int32.ofInt (-1)).toInt = -1 := by decide
  have c1_ : (Int32.ofInt 0).toInt = 0 := by decide
  have c2_ : (Int32.ofInt 1).toInt = 1 := by decide
  have hK : pj_kpt ([], [], []) G0 G0 := pj_kpt_r _ _
  intro mn
  induction mn with
  | zero =>
    intro v3 v4 rv3 rv4 hm
    exfalso
    omega
  | succ mn ih =>
    intro v3 v4 rv3 rv4 hm
    refine pj_X_of (fun r h => pj_R_to (G0, 8, [(0, .ref 6), (1, .int ld), (2, .int hr), (3, .int v3), (4, .int v4)], [.ref 6, .int v4], 0, 0) 8 3 (fun _ => rfl) h) ?_
    refine pj_X_of (fun r h => pj_T_gr hI rfl rfl rfl h) ?_
    refine pj_X_of (fun r h => pj_T_gi hI rfl rfl h) ?_
    show pj_X _ _ G0 14 [(0, .ref 6), (1, .int ld), (2, .int hr), (3, .int v3), (4, .int v4)] [.int (pj_fi G0 21 0), .int v4] _
    obtain ⟨y1, hy1⟩ : ∃ z : Int32, z = pj_fi G0 21 0 := ⟨_, rfl⟩
    rw [← hy1]
    have ey1 : (pj_fi G0 21 0).toInt = y1.toInt := by rw [hy1]
    have ry1 : (0 : Int) ≤ y1.toInt ∧ y1.toInt ≤ 6 := by rw [hy1]; exact hI.2.1 21 0 (0, 6) rfl
    cases b2 : pj_c1 .ge v4 y1 with
    | true =>
      have ub2 := pj_u_geT b2
      refine pj_X_of (fun r h => pj_R_icT 80 rfl rfl b2 h) ?_
      refine pj_X_of (fun r h => pj_R_to (G0, 81, [(0, .ref 6), (1, .int ld), (2, .int hr), (3, .int v3), (4, .int v4)], [.int v3], 0, 0) 81 2 (fun _ => rfl) h) ?_
      exact pj_X_rt rfl rfl ⟨_, rfl, rfl, ⟨by omega, by omega⟩⟩
    | false =>
      have ub2 := pj_u_geF b2
      refine pj_X_of (fun r h => pj_R_icF rfl b2 h) ?_
      refine pj_X_of (fun r h => pj_R_to (G0, 18, [(0, .ref 6), (1, .int ld), (2, .int hr), (3, .int v3), (4, .int v4)], [.ref 6], 0, 0) 18 2 (fun _ => rfl) h) ?_
      refine pj_X_of (fun r h => pj_T_gr hI rfl rfl rfl h) ?_
      refine pj_X_of (fun r h => pj_T_gr hI rfl rfl rfl h) ?_
      refine pj_X_of (fun r h => pj_R_to (G0, 26, [(0, .ref 6), (1, .int ld), (2, .int hr), (3, .int v3), (4, .int v4)], [.int v4, .ref 22], 0, 0) 26 2 (fun _ => rfl) h) ?_
      refine pj_X_of (fun r h => pj_T_il hI rfl rfl (by omega) (by omega) h) ?_
      show pj_X _ _ G0 27 [(0, .ref 6), (1, .int ld), (2, .int hr), (3, .int v3), (4, .int v4)] [.int (pj_ai G0 22 v4.toInt.toNat)] _
      obtain ⟨z3, hz3⟩ : ∃ z : Int32, z = pj_ai G0 22 v4.toInt.toNat := ⟨_, rfl⟩
      rw [← hz3]
      have ez3 : (pj_ai G0 22 v4.toInt.toNat).toInt = z3.toInt := by rw [hz3]
      have fz3_0 : (-1 : Int) ≤ z3.toInt ∧ z3.toInt ≤ 9 ∧ (z3.toInt ≤ -1 ∨ -1 ≤ z3.toInt) := by rw [hz3]; exact hI.2.2.1 22 (6, -1, 9, -1, -1) rfl _ (by show _ < 6; omega)
      refine pj_X_of (fun r h => pj_R_to (G0, 28, [(0, .ref 6), (1, .int ld), (2, .int hr), (3, .int v3), (4, .int v4)], [.int (Int32.ofInt (-1)), .int z3], 0, 0) 28 2 (fun _ => rfl) h) ?_
      cases b4 : pj_c1 .eq z3 (Int32.ofInt (-1)) with
      | true =>
        have ub4 := pj_u_eqT b4
        refine pj_X_of (fun r h => pj_R_icT 74 rfl rfl b4 h) ?_
        refine pj_X_of (fun r h => pj_R_to (G0, 77, [(4, .int (v4 + Int32.ofInt 1)), (0, .ref 6), (1, .int ld), (2, .int hr), (3, .int v3)], [], 0, 0) 77 2 (fun _ => rfl) h) ?_
        obtain ⟨z5, hz5⟩ : ∃ z : Int32, z = v4 + Int32.ofInt 1 := ⟨_, rfl⟩
        rw [← hz5]
        have fz5_0 : z5.toInt = v4.toInt + (Int32.ofInt 1).toInt := by rw [hz5]; exact pj_addI (by have := pj_i32 v4; have := pj_i32 (Int32.ofInt 1); omega) (by have := pj_i32 v4; have := pj_i32 (Int32.ofInt 1); omega)
        refine pj_X_of (fun r h => pj_R_to (G0, 5, [(4, .int z5), (0, .ref 6), (1, .int ld), (2, .int hr), (3, .int v3)], [], 0, 0) 5 2 (fun _ => rfl) h) ?_
        exact pj_X_sub [(0, .ref 6), (1, .int ld), (2, .int hr), (3, .int v3), (4, .int z5)] (show List.Nodup [0, 1, 2, 3, 4] by decide) ⟨rfl, rfl, rfl, rfl, rfl, trivial⟩ (ih v3 z5 ⟨by omega, by omega⟩ ⟨by omega, by omega⟩ (by omega))
      | false =>
        have ub4 := pj_u_eqF b4
        refine pj_X_of (fun r h => pj_R_icF rfl b4 h) ?_
        refine pj_X_of (fun r h => pj_R_to (G0, 32, [(0, .ref 6), (1, .int ld), (2, .int hr), (3, .int v3), (4, .int v4)], [.ref 6], 0, 0) 32 2 (fun _ => rfl) h) ?_
        refine pj_X_of (fun r h => pj_T_gr hI rfl rfl rfl h) ?_
        refine pj_X_of (fun r h => pj_T_gr hI rfl rfl rfl h) ?_
        refine pj_X_of (fun r h => pj_R_to (G0, 40, [(0, .ref 6), (1, .int ld), (2, .int hr), (3, .int v3), (4, .int v4)], [.int v4, .ref 23], 0, 0) 40 2 (fun _ => rfl) h) ?_
        refine pj_X_of (fun r h => pj_T_il hI rfl rfl (by omega) (by omega) h) ?_
        show pj_X _ _ G0 41 [(0, .ref 6), (1, .int ld), (2, .int hr), (3, .int v3), (4, .int v4)] [.int (pj_ai G0 23 v4.toInt.toNat)] _
        obtain ⟨z6, hz6⟩ : ∃ z : Int32, z = pj_ai G0 23 v4.toInt.toNat := ⟨_, rfl⟩
        rw [← hz6]
        have ez6 : (pj_ai G0 23 v4.toInt.toNat).toInt = z6.toInt := by rw [hz6]
        refine pj_X_of (fun r h => pj_R_to (G0, 42, [(0, .ref 6), (1, .int ld), (2, .int hr), (3, .int v3), (4, .int v4)], [.int hr, .int z6], 0, 0) 42 2 (fun _ => rfl) h) ?_
        cases b7 : pj_c1 .gt z6 hr with
        | true =>
          have ub7 := pj_u_gtT b7
          refine pj_X_of (fun r h => pj_R_icT 74 rfl rfl b7 h) ?_
          refine pj_X_of (fun r h => pj_R_to (G0, 77, [(4, .int (v4 + Int32.ofInt 1)), (0, .ref 6), (1, .int ld), (2, .int hr), (3, .int v3)], [], 0, 0) 77 2 (fun _ => rfl) h) ?_
          obtain ⟨z8, hz8⟩ : ∃ z : Int32, z = v4 + Int32.ofInt 1 := ⟨_, rfl⟩
          rw [← hz8]
          have fz8_0 : z8.toInt = v4.toInt + (Int32.ofInt 1).toInt := by rw [hz8]; exact pj_addI (by have := pj_i32 v4; have := pj_i32 (Int32.ofInt 1); omega) (by have := pj_i32 v4; have := pj_i32 (Int32.ofInt 1); omega)
          refine pj_X_of (fun r h => pj_R_to (G0, 5, [(4, .int z8), (0, .ref 6), (1, .int ld), (2, .int hr), (3, .int v3)], [], 0, 0) 5 2 (fun _ => rfl) h) ?_
          exact pj_X_sub [(0, .ref 6), (1, .int ld), (2, .int hr), (3, .int v3), (4, .int z8)] (show List.Nodup [0, 1, 2, 3, 4] by decide) ⟨rfl, rfl, rfl, rfl, rfl, trivial⟩ (ih v3 z8 ⟨by omega, by omega⟩ ⟨by omega, by omega⟩ (by omega))
        | false =>
          have ub7 := pj_u_gtF b7
          refine pj_X_of (fun r h => pj_R_icF rfl b7 h) ?_
          refine pj_X_of (fun r h => pj_R_to (G0, 46, [(0, .ref 6), (1, .int ld), (2, .int hr), (3, .int v3), (4, .int v4)], [.ref 6], 0, 0) 46 2 (fun _ => rfl) h) ?_
          refine pj_X_of (fun r h => pj_T_gr hI rfl rfl rfl h) ?_
          refine pj_X_of (fun r h => pj_T_gr hI rfl rfl rfl h) ?_
          refine pj_X_of (fun r h => pj_R_to (G0, 54, [(0, .ref 6), (1, .int ld), (2, .int hr), (3, .int v3), (4, .int v4)], [.int v4, .ref 24], 0, 0) 54 2 (fun _ => rfl) h) ?_
          refine pj_X_of (fun r h => pj_T_il hI rfl rfl (by omega) (by omega) h) ?_
          show pj_X _ _ G0 55 [(0, .ref 6), (1, .int ld), (2, .int hr), (3, .int v3), (4, .int v4)] [.int (pj_ai G0 24 v4.toInt.toNat)] _
          obtain ⟨z9, hz9⟩ : ∃ z : Int32, z = pj_ai G0 24 v4.toInt.toNat := ⟨_, rfl⟩
          rw [← hz9]
          have ez9 : (pj_ai G0 24 v4.toInt.toNat).toInt = z9.toInt := by rw [hz9]
          refine pj_X_of (fun r h => pj_R_to (G0, 56, [(0, .ref 6), (1, .int ld), (2, .int hr), (3, .int v3), (4, .int v4)], [.int ld, .int z9], 0, 0) 56 2 (fun _ => rfl) h) ?_
          cases b10 : pj_c1 .lt z9 ld with
          | true =>
            have ub10 := pj_u_ltT b10
            refine pj_X_of (fun r h => pj_R_icT 74 rfl rfl b10 h) ?_
            refine pj_X_of (fun r h => pj_R_to (G0, 77, [(4, .int (v4 + Int32.ofInt 1)), (0, .ref 6), (1, .int ld), (2, .int hr), (3, .int v3)], [], 0, 0) 77 2 (fun _ => rfl) h) ?_
            obtain ⟨z11, hz11⟩ : ∃ z : Int32, z = v4 + Int32.ofInt 1 := ⟨_, rfl⟩
            rw [← hz11]
            have fz11_0 : z11.toInt = v4.toInt + (Int32.ofInt 1).toInt := by rw [hz11]; exact pj_addI (by have := pj_i32 v4; have := pj_i32 (Int32.ofInt 1); omega) (by have := pj_i32 v4; have := pj_i32 (Int32.ofInt 1); omega)
            refine pj_X_of (fun r h => pj_R_to (G0, 5, [(4, .int z11), (0, .ref 6), (1, .int ld), (2, .int hr), (3, .int v3)], [], 0, 0) 5 2 (fun _ => rfl) h) ?_
            exact pj_X_sub [(0, .ref 6), (1, .int ld), (2, .int hr), (3, .int v3), (4, .int z11)] (show List.Nodup [0, 1, 2, 3, 4] by decide) ⟨rfl, rfl, rfl, rfl, rfl, trivial⟩ (ih v3 z11 ⟨by omega, by omega⟩ ⟨by omega, by omega⟩ (by omega))
          | false =>
            have ub10 := pj_u_ltF b10
            refine pj_X_of (fun r h => pj_R_icF rfl b10 h) ?_
            refine pj_X_of (fun r h => pj_R_to (G0, 62, [(0, .ref 6), (1, .int ld), (2, .int hr), (3, .int v3), (4, .int v4)], [.ref 6, .int (Int32.ofInt 1), .int v3], 0, 0) 62 4 (fun _ => rfl) h) ?_
            refine pj_X_of (fun r h => pj_T_gr hI rfl rfl rfl h) ?_
            refine pj_X_of (fun r h => pj_T_gr hI rfl rfl rfl h) ?_
            refine pj_X_of (fun r h => pj_R_to (G0, 70, [(0, .ref 6), (1, .int ld), (2, .int hr), (3, .int v3), (4, .int v4)], [.int v4, .ref 22, .int (Int32.ofInt 1), .int v3], 0, 0) 70 2 (fun _ => rfl) h) ?_
            refine pj_X_of (fun r h => pj_T_il hI rfl rfl (by omega) (by omega) h) ?_
            show pj_X _ _ G0 71 [(0, .ref 6), (1, .int ld), (2, .int hr), (3, .int v3), (4, .int v4)] [.int (pj_ai G0 22 v4.toInt.toNat), .int (Int32.ofInt 1), .int v3] _
            rw [← hz3]
            refine pj_X_of (fun r h => pj_R_to (G0, 72, [(0, .ref 6), (1, .int ld), (2, .int hr), (3, .int v3), (4, .int v4)], [.int ((Int32.ofInt 1) <<< (z3 &&& 31)), .int v3], 0, 0) 72 2 (fun _ => rfl) h) ?_
            obtain ⟨z12, hz12⟩ : ∃ z : Int32, z = (Int32.ofInt 1) <<< (z3 &&& 31) := ⟨_, rfl⟩
            rw [← hz12]
            have fz12_0 : 1 ≤ z12.toInt ∧ z12.toInt ≤ 512 := by rw [hz12]; exact pj_shlI9 (by omega) (by omega)
            refine pj_X_of (fun r h => pj_R_to (G0, 73, [(0, .ref 6), (1, .int ld), (2, .int hr), (3, .int v3), (4, .int v4)], [.int (v3 ||| z12)], 0, 0) 73 2 (fun _ => rfl) h) ?_
            obtain ⟨z13, hz13⟩ : ∃ z : Int32, z = v3 ||| z12 := ⟨_, rfl⟩
            rw [← hz13]
            have fz13_0 : 0 ≤ z13.toInt ∧ z13.toInt ≤ 1023 := by rw [hz13]; exact pj_orI1024 (by omega) (by omega) (by omega) (by omega)
            refine pj_X_of (fun r h => pj_R_to (G0, 77, [(4, .int (v4 + Int32.ofInt 1)), (3, .int z13), (0, .ref 6), (1, .int ld), (2, .int hr)], [], 0, 0) 77 3 (fun _ => rfl) h) ?_
            obtain ⟨z14, hz14⟩ : ∃ z : Int32, z = v4 + Int32.ofInt 1 := ⟨_, rfl⟩
            rw [← hz14]
            have fz14_0 : z14.toInt = v4.toInt + (Int32.ofInt 1).toInt := by rw [hz14]; exact pj_addI (by have := pj_i32 v4; have := pj_i32 (Int32.ofInt 1); omega) (by have := pj_i32 v4; have := pj_i32 (Int32.ofInt 1); omega)
            refine pj_X_of (fun r h => pj_R_to (G0, 5, [(4, .int z14), (3, .int z13), (0, .ref 6), (1, .int ld), (2, .int hr)], [], 0, 0) 5 2 (fun _ => rfl) h) ?_
            exact pj_X_sub [(0, .ref 6), (1, .int ld), (2, .int hr), (3, .int z13), (4, .int z14)] (show List.Nodup [0, 1, 2, 3, 4] by decide) ⟨rfl, rfl, rfl, rfl, rfl, trivial⟩ (ih z13 z14 ⟨by omega, by omega⟩ ⟨by omega, by omega⟩ (by omega))
theorem ct_108 (G0 : pj_G) (hI : pj_Inv G0) (ld : Int32) (hr : Int32) : pj_Y 1 108 [.ref 6, .int ld, .int hr] G0 (fun v G' => ∃ y : Int32, v = some (.int y) ∧ G0 = G' ∧ ((0 : Int) ≤ y.toInt ∧ y.toInt ≤ 1023)) := by
  have c0_ : (Int32.ofInt (-1)).toInt = -1 := by decide
  have c1_ : (Int32.ofInt 0).toInt = 0 := by decide
  have c2_ : (Int32.ofInt 1).toInt = 1 := by decide
  refine pj_Y_X (M := pj_m108) rfl rfl (Nat.le_of_ble_eq_true rfl) ?_
  have hK : pj_kpt ([], [], []) G0 G0 := pj_kpt_r _ _
  show pj_X _ _ G0 0 [(0, .ref 6), (1, .int ld), (2, .int hr)] [] _
  refine pj_X_of (fun r h => pj_R_to (G0, 5, [(4, .int (Int32.ofInt 0)), (3, .int (Int32.ofInt 0)), (0, .ref 6), (1, .int ld), (2, .int hr)], [], 0, 0) 5 5 (fun _ => rfl) h) ?_
  exact pj_X_sub [(0, .ref 6), (1, .int ld), (2, .int hr), (3, .int (Int32.ofInt 0)), (4, .int (Int32.ofInt 0))] (show List.Nodup [0, 1, 2, 3, 4] by decide) ⟨rfl, rfl, rfl, rfl, rfl, trivial⟩ ((lp_ct_108 G0 hI ld hr  7) (Int32.ofInt 0) (Int32.ofInt 0) ⟨by omega, by omega⟩ ⟨by omega, by omega⟩ (by omega))
theorem lp_ct_109 (G0 : pj_G) (hI : pj_Inv G0) (w : Int32) : ∀ mn : Nat, (∀ (v2 : Int32) (v3 : Int32), ((-2147483648 : Int) ≤ v2.toInt ∧ v2.toInt ≤ 2147483647) → ((0 : Int) ≤ v3.toInt ∧ v3.toInt ≤ 6) → 6 - v3.toInt < (mn : Int) → pj_X 1 pj_m109 G0 4 [(0, .ref 6), (1, .int w), (2, .int v2), (3, .int v3)] [] (fun v G' => ∃ y : Int32, v = some (.int y) ∧ G0 = G' ∧ ((-2147483648 : Int) ≤ y.toInt ∧ y.toInt ≤ 2147483647))) := by
  have c0_ : (Int32.ofInt 0).toInt = 0 := by decide
  have c1_ : (Int32.ofInt 1).toInt = 1 := by decide
  have hK : pj_kpt ([], [], []) G0 G0 := pj_kpt_r _ _
  intro mn
  induction mn with
  | zero =>
    intro v2 v3 rv2 rv3 hm
    exfalso
    omega
  | succ mn ih =>
    intro v2 v3 rv2 rv3 hm
    refine pj_X_of (fun r h => pj_R_to (G0, 6, [(0, .ref 6), (1, .int w), (2, .int v2), (3, .int v3)], [.ref 6, .int v3], 0, 0) 6 3 (fun _ => rfl) h) ?_
    refine pj_X_of (fun r h => pj_T_gr hI rfl rfl rfl h) ?_
    refine pj_X_of (fun r h => pj_T_gi hI rfl rfl h) ?_
    show pj_X _ _ G0 12 [(0, .ref 6), (1, .int w), (2, .int v2), (3, .int v3)] [.int (pj_fi G0 21 0), .int v3] _
    obtain ⟨y1, hy1⟩ : ∃ z : Int32, z = pj_fi G0 21 0 := ⟨_, rfl⟩
    rw [← hy1]
    have ey1 : (pj_fi G0 21 0).toInt = y1.toInt := by rw [hy1]
    have ry1 : (0 : Int) ≤ y1.toInt ∧ y1.toInt ≤ 6 := by rw [hy1]; exact hI.2.1 21 0 (0, 6) rfl
    cases b2 : pj_c1 .ge v3 y1 with
    | true =>
      have ub2 := pj_u_geT b2
      refine pj_X_of (fun r h => pj_R_icT 74 rfl rfl b2 h) ?_
      refine pj_X_of (fun r h => pj_R_to (G0, 75, [(0, .ref 6), (1, .int w), (2, .int v2), (3, .int v3)], [.int v2], 0, 0) 75 2 (fun _ => rfl) h) ?_
      exact pj_X_rt rfl rfl ⟨_, rfl, rfl, pj_i32 _⟩
    | false =>
      have ub2 := pj_u_geF b2
      refine pj_X_of (fun r h => pj_R_icF rfl b2 h) ?_
      refine pj_X_of (fun r h => pj_R_to (G0, 16, [(0, .ref 6), (1, .int w), (2, .int v2), (3, .int v3)], [.ref 6], 0, 0) 16 2 (fun _ => rfl) h) ?_
      refine pj_X_of (fun r h => pj_T_gr hI rfl rfl rfl h) ?_
      refine pj_X_of (fun r h => pj_R_to (G0, 20, [(0, .ref 6), (1, .int w), (2, .int v2), (3, .int v3)], [.int v3, .ref 21], 0, 0) 20 2 (fun _ => rfl) h) ?_
      refine pj_X_ca (vs := [.ref 21, .int v3]) rfl (fun _ => rfl) ⟨Nat.le_of_ble_eq_true rfl, Nat.le_of_ble_eq_true rfl, pj_T_rcv hI rfl⟩ ⟨rfl, rfl⟩ (pj_Y_up (by decide) (ct_69_21x G0 hI v3 ⟨by omega, by omega⟩)) ?_
      rintro _ _ ⟨y3, rfl, rfl, ry3, ey3, fy3⟩
      replace ey3 := ey3 _ rfl
      show pj_X _ _ G0 23 [(0, .ref 6), (1, .int w), (2, .int v2), (3, .int v3)] [.int y3] _
      cases b4 : pj_c1 .eq y3 0 with
      | true =>
        have ub4 := pj_u0_eqT b4
        refine pj_X_of (fun r h => pj_R_ifT 68 rfl rfl b4 h) ?_
        refine pj_X_of (fun r h => pj_R_to (G0, 71, [(3, .int (v3 + Int32.ofInt 1)), (0, .ref 6), (1, .int w), (2, .int v2)], [], 0, 0) 71 2 (fun _ => rfl) h) ?_
        obtain ⟨z5, hz5⟩ : ∃ z : Int32, z = v3 + Int32.ofInt 1 := ⟨_, rfl⟩
        rw [← hz5]
        have fz5_0 : z5.toInt = v3.toInt + (Int32.ofInt 1).toInt := by rw [hz5]; exact pj_addI (by have := pj_i32 v3; have := pj_i32 (Int32.ofInt 1); omega) (by have := pj_i32 v3; have := pj_i32 (Int32.ofInt 1); omega)
        refine pj_X_of (fun r h => pj_R_to (G0, 4, [(3, .int z5), (0, .ref 6), (1, .int w), (2, .int v2)], [], 0, 0) 4 2 (fun _ => rfl) h) ?_
        exact pj_X_sub [(0, .ref 6), (1, .int w), (2, .int v2), (3, .int z5)] (show List.Nodup [0, 1, 2, 3] by decide) ⟨rfl, rfl, rfl, rfl, trivial⟩ (ih v2 z5 (pj_i32 _) ⟨by omega, by omega⟩ (by omega))
      | false =>
        have ub4 := pj_u0_eqF b4
        refine pj_X_of (fun r h => pj_R_ifF rfl b4 h) ?_
        refine pj_X_of (fun r h => pj_R_to (G0, 27, [(0, .ref 6), (1, .int w), (2, .int v2), (3, .int v3)], [.ref 6], 0, 0) 27 2 (fun _ => rfl) h) ?_
        refine pj_X_of (fun r h => pj_T_gr hI rfl rfl rfl h) ?_
        refine pj_X_of (fun r h => pj_R_to (G0, 31, [(0, .ref 6), (1, .int w), (2, .int v2), (3, .int v3)], [.int v3, .ref 31], 0, 0) 31 2 (fun _ => rfl) h) ?_
        refine pj_X_of (fun r h => pj_T_il hI rfl rfl (by omega) (by omega) h) ?_
        show pj_X _ _ G0 32 [(0, .ref 6), (1, .int w), (2, .int v2), (3, .int v3)] [.int (pj_ai G0 31 v3.toInt.toNat)] _
        obtain ⟨z6, hz6⟩ : ∃ z : Int32, z = pj_ai G0 31 v3.toInt.toNat := ⟨_, rfl⟩
        rw [← hz6]
        have ez6 : (pj_ai G0 31 v3.toInt.toNat).toInt = z6.toInt := by rw [hz6]
        refine pj_X_of (fun r h => pj_R_to (G0, 33, [(0, .ref 6), (1, .int w), (2, .int v2), (3, .int v3)], [.ref 6, .int z6], 0, 0) 33 2 (fun _ => rfl) h) ?_
        refine pj_X_gm hI rfl rfl (fun q7 => ?_) (fun q7 => ?_)
        · refine pj_X_of (fun r h => pj_T_gr hI rfl rfl rfl h) ?_
          refine pj_X_of (fun r h => pj_R_to (G0, 40, [(0, .ref 6), (1, .int w), (2, .int v2), (3, .int v3)], [.ref 6, .ref 11, .int z6], 0, 0) 40 2 (fun _ => rfl) h) ?_
          refine pj_X_of (fun r h => pj_T_gr hI rfl rfl rfl h) ?_
          refine pj_X_of (fun r h => pj_T_gr hI rfl rfl rfl h) ?_
          refine pj_X_of (fun r h => pj_R_to (G0, 47, [(0, .ref 6), (1, .int w), (2, .int v2), (3, .int v3)], [.int v3, .ref 22, .ref 11, .int z6], 0, 0) 47 2 (fun _ => rfl) h) ?_
          refine pj_X_of (fun r h => pj_T_il hI rfl rfl (by omega) (by omega) h) ?_
          show pj_X _ _ G0 48 [(0, .ref 6), (1, .int w), (2, .int v2), (3, .int v3)] [.int (pj_ai G0 22 v3.toInt.toNat), .ref 11, .int z6] _
          obtain ⟨z8, hz8⟩ : ∃ z : Int32, z = pj_ai G0 22 v3.toInt.toNat := ⟨_, rfl⟩
          rw [← hz8]
          have ez8 : (pj_ai G0 22 v3.toInt.toNat).toInt = z8.toInt := by rw [hz8]
          have fz8_0 : (-1 : Int) ≤ z8.toInt ∧ z8.toInt ≤ 9 ∧ (z8.toInt ≤ -1 ∨ -1 ≤ z8.toInt) := by rw [hz8]; exact hI.2.2.1 22 (6, -1, 9, -1, -1) rfl _ (by show _ < 6; omega)
          refine pj_X_of (fun r h => pj_T_il hI rfl rfl (by omega) (by omega) h) ?_
          show pj_X _ _ G0 49 [(0, .ref 6), (1, .int w), (2, .int v2), (3, .int v3)] [.int (pj_ai G0 11 z8.toInt.toNat), .int z6] _
          obtain ⟨z9, hz9⟩ : ∃ z : Int32, z = pj_ai G0 11 z8.toInt.toNat := ⟨_, rfl⟩
          rw [← hz9]
          have ez9 : (pj_ai G0 11 z8.toInt.toNat).toInt = z9.toInt := by rw [hz9]
          have fz9_0 : (0 : Int) ≤ z9.toInt ∧ z9.toInt ≤ 9 ∧ (z9.toInt ≤ 0 ∨ 0 ≤ z9.toInt) := by rw [hz9]; exact hI.2.2.1 11 (10, 0, 9, 0, 0) rfl _ (by show _ < 10; omega)
          refine pj_X_of (fun r h => pj_R_to (G0, 51, [(0, .ref 6), (1, .int w), (2, .int v2), (3, .int v3)], [.int (z9 + w), .int z6], 0, 0) 51 3 (fun _ => rfl) h) ?_
          obtain ⟨z10, hz10⟩ : ∃ z : Int32, z = z9 + w := ⟨_, rfl⟩
          rw [← hz10]
          cases b11 : pj_c1 .ge z6 z10 with
          | true =>
            have ub11 := pj_u_geT b11
            refine pj_X_of (fun r h => pj_R_icT 68 rfl rfl b11 h) ?_
            refine pj_X_of (fun r h => pj_R_to (G0, 71, [(3, .int (v3 + Int32.ofInt 1)), (0, .ref 6), (1, .int w), (2, .int v2)], [], 0, 0) 71 2 (fun _ => rfl) h) ?_
            obtain ⟨z12, hz12⟩ : ∃ z : Int32, z = v3 + Int32.ofInt 1 := ⟨_, rfl⟩
            rw [← hz12]
            have fz12_0 : z12.toInt = v3.toInt + (Int32.ofInt 1).toInt := by rw [hz12]; exact pj_addI (by have := pj_i32 v3; have := pj_i32 (Int32.ofInt 1); omega) (by have := pj_i32 v3; have := pj_i32 (Int32.ofInt 1); omega)
            refine pj_X_of (fun r h => pj_R_to (G0, 4, [(3, .int z12), (0, .ref 6), (1, .int w), (2, .int v2)], [], 0, 0) 4 2 (fun _ => rfl) h) ?_
            exact pj_X_sub [(0, .ref 6), (1, .int w), (2, .int v2), (3, .int z12)] (show List.Nodup [0, 1, 2, 3] by decide) ⟨rfl, rfl, rfl, rfl, trivial⟩ (ih v2 z12 (pj_i32 _) ⟨by omega, by omega⟩ (by omega))
          | false =>
            have ub11 := pj_u_geF b11
            refine pj_X_of (fun r h => pj_R_icF rfl b11 h) ?_
            refine pj_X_of (fun r h => pj_R_to (G0, 57, [(0, .ref 6), (1, .int w), (2, .int v2), (3, .int v3)], [.ref 6, .int (Int32.ofInt 1), .int v2], 0, 0) 57 4 (fun _ => rfl) h) ?_
            refine pj_X_of (fun r h => pj_T_gr hI rfl rfl rfl h) ?_
            refine pj_X_of (fun r h => pj_T_gr hI rfl rfl rfl h) ?_
            refine pj_X_of (fun r h => pj_R_to (G0, 64, [(0, .ref 6), (1, .int w), (2, .int v2), (3, .int v3)], [.int v3, .ref 22, .int (Int32.ofInt 1), .int v2], 0, 0) 64 2 (fun _ => rfl) h) ?_
            refine pj_X_of (fun r h => pj_T_il hI rfl rfl (by omega) (by omega) h) ?_
            show pj_X _ _ G0 65 [(0, .ref 6), (1, .int w), (2, .int v2), (3, .int v3)] [.int (pj_ai G0 22 v3.toInt.toNat), .int (Int32.ofInt 1), .int v2] _
            rw [← hz8]
            refine pj_X_of (fun r h => pj_R_to (G0, 66, [(0, .ref 6), (1, .int w), (2, .int v2), (3, .int v3)], [.int ((Int32.ofInt 1) <<< (z8 &&& 31)), .int v2], 0, 0) 66 2 (fun _ => rfl) h) ?_
            obtain ⟨z13, hz13⟩ : ∃ z : Int32, z = (Int32.ofInt 1) <<< (z8 &&& 31) := ⟨_, rfl⟩
            rw [← hz13]
            refine pj_X_of (fun r h => pj_R_to (G0, 67, [(0, .ref 6), (1, .int w), (2, .int v2), (3, .int v3)], [.int (v2 ||| z13)], 0, 0) 67 2 (fun _ => rfl) h) ?_
            obtain ⟨z14, hz14⟩ : ∃ z : Int32, z = v2 ||| z13 := ⟨_, rfl⟩
            rw [← hz14]
            refine pj_X_of (fun r h => pj_R_to (G0, 71, [(3, .int (v3 + Int32.ofInt 1)), (2, .int z14), (0, .ref 6), (1, .int w)], [], 0, 0) 71 3 (fun _ => rfl) h) ?_
            obtain ⟨z15, hz15⟩ : ∃ z : Int32, z = v3 + Int32.ofInt 1 := ⟨_, rfl⟩
            rw [← hz15]
            have fz15_0 : z15.toInt = v3.toInt + (Int32.ofInt 1).toInt := by rw [hz15]; exact pj_addI (by have := pj_i32 v3; have := pj_i32 (Int32.ofInt 1); omega) (by have := pj_i32 v3; have := pj_i32 (Int32.ofInt 1); omega)
            refine pj_X_of (fun r h => pj_R_to (G0, 4, [(3, .int z15), (2, .int z14), (0, .ref 6), (1, .int w)], [], 0, 0) 4 2 (fun _ => rfl) h) ?_
            exact pj_X_sub [(0, .ref 6), (1, .int w), (2, .int z14), (3, .int z15)] (show List.Nodup [0, 1, 2, 3] by decide) ⟨rfl, rfl, rfl, rfl, trivial⟩ (ih z14 z15 (pj_i32 _) ⟨by omega, by omega⟩ (by omega))
        · refine pj_X_of (fun r h => pj_T_gr hI rfl rfl rfl h) ?_
          refine pj_X_of (fun r h => pj_R_to (G0, 40, [(0, .ref 6), (1, .int w), (2, .int v2), (3, .int v3)], [.ref 6, .ref 18, .int z6], 0, 0) 40 2 (fun _ => rfl) h) ?_
          refine pj_X_of (fun r h => pj_T_gr hI rfl rfl rfl h) ?_
          refine pj_X_of (fun r h => pj_T_gr hI rfl rfl rfl h) ?_
          refine pj_X_of (fun r h => pj_R_to (G0, 47, [(0, .ref 6), (1, .int w), (2, .int v2), (3, .int v3)], [.int v3, .ref 22, .ref 18, .int z6], 0, 0) 47 2 (fun _ => rfl) h) ?_
          refine pj_X_of (fun r h => pj_T_il hI rfl rfl (by omega) (by omega) h) ?_
          show pj_X _ _ G0 48 [(0, .ref 6), (1, .int w), (2, .int v2), (3, .int v3)] [.int (pj_ai G0 22 v3.toInt.toNat), .ref 18, .int z6] _
          obtain ⟨z16, hz16⟩ : ∃ z : Int32, z = pj_ai G0 22 v3.toInt.toNat := ⟨_, rfl⟩
          rw [← hz16]
          have ez16 : (pj_ai G0 22 v3.toInt.toNat).toInt = z16.toInt := by rw [hz16]
          have fz16_0 : (-1 : Int) ≤ z16.toInt ∧ z16.toInt ≤ 9 ∧ (z16.toInt ≤ -1 ∨ -1 ≤ z16.toInt) := by rw [hz16]; exact hI.2.2.1 22 (6, -1, 9, -1, -1) rfl _ (by show _ < 6; omega)
          refine pj_X_of (fun r h => pj_T_il hI rfl rfl (by omega) (by omega) h) ?_
          show pj_X _ _ G0 49 [(0, .ref 6), (1, .int w), (2, .int v2), (3, .int v3)] [.int (pj_ai G0 18 z16.toInt.toNat), .int z6] _
          obtain ⟨z17, hz17⟩ : ∃ z : Int32, z = pj_ai G0 18 z16.toInt.toNat := ⟨_, rfl⟩
          rw [← hz17]
          have ez17 : (pj_ai G0 18 z16.toInt.toNat).toInt = z17.toInt := by rw [hz17]
          have fz17_0 : (0 : Int) ≤ z17.toInt ∧ z17.toInt ≤ 9 ∧ (z17.toInt ≤ 0 ∨ 0 ≤ z17.toInt) := by rw [hz17]; exact hI.2.2.1 18 (10, 0, 9, 0, 0) rfl _ (by show _ < 10; omega)
          refine pj_X_of (fun r h => pj_R_to (G0, 51, [(0, .ref 6), (1, .int w), (2, .int v2), (3, .int v3)], [.int (z17 + w), .int z6], 0, 0) 51 3 (fun _ => rfl) h) ?_
          obtain ⟨z18, hz18⟩ : ∃ z : Int32, z = z17 + w := ⟨_, rfl⟩
          rw [← hz18]
          cases b19 : pj_c1 .ge z6 z18 with
          | true =>
            have ub19 := pj_u_geT b19
            refine pj_X_of (fun r h => pj_R_icT 68 rfl rfl b19 h) ?_
            refine pj_X_of (fun r h => pj_R_to (G0, 71, [(3, .int (v3 + Int32.ofInt 1)), (0, .ref 6), (1, .int w), (2, .int v2)], [], 0, 0) 71 2 (fun _ => rfl) h) ?_
            obtain ⟨z20, hz20⟩ : ∃ z : Int32, z = v3 + Int32.ofInt 1 := ⟨_, rfl⟩
            rw [← hz20]
            have fz20_0 : z20.toInt = v3.toInt + (Int32.ofInt 1).toInt := by rw [hz20]; exact pj_addI (by have := pj_i32 v3; have := pj_i32 (Int32.ofInt 1); omega) (by have := pj_i32 v3; have := pj_i32 (Int32.ofInt 1); omega)
            refine pj_X_of (fun r h => pj_R_to (G0, 4, [(3, .int z20), (0, .ref 6), (1, .int w), (2, .int v2)], [], 0, 0) 4 2 (fun _ => rfl) h) ?_
            exact pj_X_sub [(0, .ref 6), (1, .int w), (2, .int v2), (3, .int z20)] (show List.Nodup [0, 1, 2, 3] by decide) ⟨rfl, rfl, rfl, rfl, trivial⟩ (ih v2 z20 (pj_i32 _) ⟨by omega, by omega⟩ (by omega))
          | false =>
            have ub19 := pj_u_geF b19
            refine pj_X_of (fun r h => pj_R_icF rfl b19 h) ?_
            refine pj_X_of (fun r h => pj_R_to (G0, 57, [(0, .ref 6), (1, .int w), (2, .int v2), (3, .int v3)], [.ref 6, .int (Int32.ofInt 1), .int v2], 0, 0) 57 4 (fun _ => rfl) h) ?_
            refine pj_X_of (fun r h => pj_T_gr hI rfl rfl rfl h) ?_
            refine pj_X_of (fun r h => pj_T_gr hI rfl rfl rfl h) ?_
            refine pj_X_of (fun r h => pj_R_to (G0, 64, [(0, .ref 6), (1, .int w), (2, .int v2), (3, .int v3)], [.int v3, .ref 22, .int (Int32.ofInt 1), .int v2], 0, 0) 64 2 (fun _ => rfl) h) ?_
            refine pj_X_of (fun r h => pj_T_il hI rfl rfl (by omega) (by omega) h) ?_
            show pj_X _ _ G0 65 [(0, .ref 6), (1, .int w), (2, .int v2), (3, .int v3)] [.int (pj_ai G0 22 v3.toInt.toNat), .int (Int32.ofInt 1), .int v2] _
            rw [← hz16]
            refine pj_X_of (fun r h => pj_R_to (G0, 66, [(0, .ref 6), (1, .int w), (2, .int v2), (3, .int v3)], [.int ((Int32.ofInt 1) <<< (z16 &&& 31)), .int v2], 0, 0) 66 2 (fun _ => rfl) h) ?_
            obtain ⟨z21, hz21⟩ : ∃ z : Int32, z = (Int32.ofInt 1) <<< (z16 &&& 31) := ⟨_, rfl⟩
            rw [← hz21]
            refine pj_X_of (fun r h => pj_R_to (G0, 67, [(0, .ref 6), (1, .int w), (2, .int v2), (3, .int v3)], [.int (v2 ||| z21)], 0, 0) 67 2 (fun _ => rfl) h) ?_
            obtain ⟨z22, hz22⟩ : ∃ z : Int32, z = v2 ||| z21 := ⟨_, rfl⟩
            rw [← hz22]
            refine pj_X_of (fun r h => pj_R_to (G0, 71, [(3, .int (v3 + Int32.ofInt 1)), (2, .int z22), (0, .ref 6), (1, .int w)], [], 0, 0) 71 3 (fun _ => rfl) h) ?_
            obtain ⟨z23, hz23⟩ : ∃ z : Int32, z = v3 + Int32.ofInt 1 := ⟨_, rfl⟩
            rw [← hz23]
            have fz23_0 : z23.toInt = v3.toInt + (Int32.ofInt 1).toInt := by rw [hz23]; exact pj_addI (by have := pj_i32 v3; have := pj_i32 (Int32.ofInt 1); omega) (by have := pj_i32 v3; have := pj_i32 (Int32.ofInt 1); omega)
            refine pj_X_of (fun r h => pj_R_to (G0, 4, [(3, .int z23), (2, .int z22), (0, .ref 6), (1, .int w)], [], 0, 0) 4 2 (fun _ => rfl) h) ?_
            exact pj_X_sub [(0, .ref 6), (1, .int w), (2, .int z22), (3, .int z23)] (show List.Nodup [0, 1, 2, 3] by decide) ⟨rfl, rfl, rfl, rfl, trivial⟩ (ih z22 z23 (pj_i32 _) ⟨by omega, by omega⟩ (by omega))
theorem ct_109 (G0 : pj_G) (hI : pj_Inv G0) (w : Int32) : pj_Y 2 109 [.ref 6, .int w] G0 (fun v G' => ∃ y : Int32, v = some (.int y) ∧ G0 = G' ∧ ((-2147483648 : Int) ≤ y.toInt ∧ y.toInt ≤ 2147483647)) := by
  have c0_ : (Int32.ofInt 0).toInt = 0 := by decide
  have c1_ : (Int32.ofInt 1).toInt = 1 := by decide
  refine pj_Y_X (M := pj_m109) rfl rfl (Nat.le_of_ble_eq_true rfl) ?_
  have hK : pj_kpt ([], [], []) G0 G0 := pj_kpt_r _ _
  show pj_X _ _ G0 0 [(0, .ref 6), (1, .int w)] [] _
  refine pj_X_of (fun r h => pj_R_to (G0, 4, [(3, .int (Int32.ofInt 0)), (2, .int (Int32.ofInt 0)), (0, .ref 6), (1, .int w)], [], 0, 0) 4 5 (fun _ => rfl) h) ?_
  exact pj_X_sub [(0, .ref 6), (1, .int w), (2, .int (Int32.ofInt 0)), (3, .int (Int32.ofInt 0))] (show List.Nodup [0, 1, 2, 3] by decide) ⟨rfl, rfl, rfl, rfl, trivial⟩ ((lp_ct_109 G0 hI w  7) (Int32.ofInt 0) (Int32.ofInt 0) (pj_i32 _) ⟨by omega, by omega⟩ (by omega))
def kc_103x : pj_KT := ([], [25], [25])
noncomputable def F_103x (G0 : pj_G) (b : Int32) (hr : Int32) : Int32 × pj_G := pj_nm (F_95x G0 b) (fun y1 => cond (pj_c1 .ne y1 0) (cond (pj_c1 .eq hr (Int32.ofInt (-1))) (pj_nm (pj_ai G0 25 b.toInt.toNat) (fun z4 => pj_nm (pj_wa G0 25 b.toInt.toNat hr) (fun G5 => (z4, G5)))) (pj_nm (pj_fi G0 21 7) (fun y6 => cond (pj_c1 .le hr y6) (((Int8.ofInt (-2)).toInt32, G0)) (cond (pj_c1 .le hr (Int32.ofInt 999999)) (pj_nm (pj_ai G0 25 b.toInt.toNat) (fun z9 => pj_nm (pj_wa G0 25 b.toInt.toNat hr) (fun G10 => (z9, G10)))) (((Int8.ofInt (-2)).toInt32, G0)))))) (((Int8.ofInt (-3)).toInt32, G0)))
theorem F_103x_e (G0 : pj_G) (b : Int32) (hr : Int32) : F_103x G0 b hr = pj_nm (F_95x G0 b) (fun y1 => cond (pj_c1 .ne y1 0) (cond (pj_c1 .eq hr (Int32.ofInt (-1))) (pj_nm (pj_ai G0 25 b.toInt.toNat) (fun z4 => pj_nm (pj_wa G0 25 b.toInt.toNat hr) (fun G5 => (z4, G5)))) (pj_nm (pj_fi G0 21 7) (fun y6 => cond (pj_c1 .le hr y6) (((Int8.ofInt (-2)).toInt32, G0)) (cond (pj_c1 .le hr (Int32.ofInt 999999)) (pj_nm (pj_ai G0 25 b.toInt.toNat) (fun z9 => pj_nm (pj_wa G0 25 b.toInt.toNat hr) (fun G10 => (z9, G10)))) (((Int8.ofInt (-2)).toInt32, G0)))))) (((Int8.ofInt (-3)).toInt32, G0))) := rfl
theorem ct_103x (G0 : pj_G) (hI : pj_Inv G0) (b : Int32) (hr : Int32) : pj_Y 2 103 [.ref 6, .int b, .int hr] G0 (fun v' G' => ∃ y : Int32, v' = some (.int y) ∧ pj_Inv G' ∧ pj_kpt kc_103x G0 G' ∧ ((-2147483648 : Int) ≤ y.toInt ∧ y.toInt ≤ 2147483647) ∧ ((y, G') = F_103x G0 b hr)) := by
  have c0_ : ((Int8.ofInt (-2)).toInt32).toInt = -2 := by decide
  have c1_ : ((Int8.ofInt (-3)).toInt32).toInt = -3 := by decide
  have c2_ : (Int32.ofInt (-1)).toInt = -1 := by decide
  have c3_ : (Int32.ofInt 999999).toInt = 999999 := by decide
  refine pj_Y_X (M := pj_m103) rfl rfl (Nat.le_of_ble_eq_true rfl) ?_
  have hK : pj_kpt kc_103x G0 G0 := pj_kpt_r _ _
  show pj_X _ _ G0 0 [(0, .ref 6), (1, .int b), (2, .int hr)] [] _
  rw [F_103x_e]
  refine pj_X_of (fun r h => pj_R_to (G0, 2, [(0, .ref 6), (1, .int b), (2, .int hr)], [.int b, .ref 6], 0, 0) 2 3 (fun _ => rfl) h) ?_
  refine pj_X_ca (vs := [.ref 6, .int b]) rfl (fun _ => rfl) ⟨Nat.le_of_ble_eq_true rfl, Nat.le_of_ble_eq_true rfl, pj_T_rcv hI rfl⟩ ⟨rfl, rfl⟩ (pj_Y_up (by decide) (ct_95x G0 hI b)) ?_
  rintro _ _ ⟨y1, rfl, rfl, ry1, ey1, fy1⟩
  rw [← fy1, pj_nm_e]
  show pj_X _ _ G0 5 [(0, .ref 6), (1, .int b), (2, .int hr)] [.int y1] _
  cases b2 : pj_c1 .ne y1 0 with
  | true =>
    rw [pj_cT]
    have ub2 := pj_u0_neT b2
    refine pj_X_of (fun r h => pj_R_ifT 11 rfl rfl b2 h) ?_
    refine pj_X_of (fun r h => pj_R_to (G0, 13, [(0, .ref 6), (1, .int b), (2, .int hr)], [.int (Int32.ofInt (-1)), .int hr], 0, 0) 13 3 (fun _ => rfl) h) ?_
    cases b3 : pj_c1 .eq hr (Int32.ofInt (-1)) with
    | true =>
      rw [pj_cT]
      have ub3 := pj_u_eqT b3
      refine pj_X_of (fun r h => pj_R_icT 36 rfl rfl b3 h) ?_
      refine pj_X_of (fun r h => pj_R_to (G0, 37, [(0, .ref 6), (1, .int b), (2, .int hr)], [.ref 6], 0, 0) 37 2 (fun _ => rfl) h) ?_
      refine pj_X_of (fun r h => pj_T_gr hI rfl rfl rfl h) ?_
      refine pj_X_of (fun r h => pj_T_gr hI rfl rfl rfl h) ?_
      refine pj_X_of (fun r h => pj_R_to (G0, 44, [(0, .ref 6), (1, .int b), (2, .int hr)], [.int b, .ref 25], 0, 0) 44 2 (fun _ => rfl) h) ?_
      refine pj_X_of (fun r h => pj_T_il hI rfl rfl (by omega) (by omega) h) ?_
      show pj_X _ _ G0 45 [(0, .ref 6), (1, .int b), (2, .int hr)] [.int (pj_ai G0 25 b.toInt.toNat)] _
      obtain ⟨z4, hz4⟩ : ∃ z : Int32, z = pj_ai G0 25 b.toInt.toNat := ⟨_, rfl⟩
      rw [← hz4]
      rw [pj_nm_e]
      have ez4 : (pj_ai G0 25 b.toInt.toNat).toInt = z4.toInt := by rw [hz4]
      refine pj_X_of (fun r h => pj_R_to (G0, 47, [(3, .int z4), (0, .ref 6), (1, .int b), (2, .int hr)], [.ref 6], 0, 0) 47 3 (fun _ => rfl) h) ?_
      refine pj_X_of (fun r h => pj_T_gr hI rfl rfl rfl h) ?_
      refine pj_X_of (fun r h => pj_T_gr hI rfl rfl rfl h) ?_
      refine pj_X_of (fun r h => pj_R_to (G0, 55, [(3, .int z4), (0, .ref 6), (1, .int b), (2, .int hr)], [.int hr, .int b, .ref 25], 0, 0) 55 3 (fun _ => rfl) h) ?_
      refine pj_X_of (fun r h => pj_T_is hI rfl rfl (by omega) (by omega) h) ?_
      show pj_X _ _ (pj_wa G0 25 b.toInt.toNat hr) 56 [(3, .int z4), (0, .ref 6), (1, .int b), (2, .int hr)] [] _
      obtain ⟨G5, hG5⟩ : ∃ H, H = pj_wa G0 25 b.toInt.toNat hr := ⟨_, rfl⟩
      have iG5 : pj_Inv G5 := by rw [hG5]; exact pj_Inv_wa hI rfl (fun q hq => by cases hq) (fun n hn => by cases hn)
      have kG5 : pj_kpt kc_103x G0 G5 := by rw [hG5]; exact pj_kpt_a hK rfl
      rw [← hG5]
      rw [pj_nm_e]
      refine pj_X_of (fun r h => pj_R_to (G5, 57, [(3, .int z4), (0, .ref 6), (1, .int b), (2, .int hr)], [.int z4], 0, 0) 57 2 (fun _ => rfl) h) ?_
      exact pj_X_rt rfl rfl ⟨_, rfl, iG5, kG5, pj_i32 _, rfl⟩
    | false =>
      rw [pj_cF]
      have ub3 := pj_u_eqF b3
      refine pj_X_of (fun r h => pj_R_icF rfl b3 h) ?_
      refine pj_X_of (fun r h => pj_R_to (G0, 18, [(0, .ref 6), (1, .int b), (2, .int hr)], [.ref 6, .int hr], 0, 0) 18 3 (fun _ => rfl) h) ?_
      refine pj_X_of (fun r h => pj_T_gr hI rfl rfl rfl h) ?_
      refine pj_X_of (fun r h => pj_T_gi hI rfl rfl h) ?_
      show pj_X _ _ G0 24 [(0, .ref 6), (1, .int b), (2, .int hr)] [.int (pj_fi G0 21 7), .int hr] _
      obtain ⟨y6, hy6⟩ : ∃ z : Int32, z = pj_fi G0 21 7 := ⟨_, rfl⟩
      rw [← hy6]
      rw [pj_nm_e]
      have ey6 : (pj_fi G0 21 7).toInt = y6.toInt := by rw [hy6]
      cases b7 : pj_c1 .le hr y6 with
      | true =>
        rw [pj_cT]
        have ub7 := pj_u_leT b7
        refine pj_X_of (fun r h => pj_R_icT 33 rfl rfl b7 h) ?_
        refine pj_X_of (fun r h => pj_R_to (G0, 35, [(0, .ref 6), (1, .int b), (2, .int hr)], [.int ((Int8.ofInt (-2)).toInt32)], 0, 0) 35 2 (fun _ => rfl) h) ?_
        exact pj_X_rt rfl rfl ⟨_, rfl, hI, hK, pj_i32 _, rfl⟩
      | false =>
        rw [pj_cF]
        have ub7 := pj_u_leF b7
        refine pj_X_of (fun r h => pj_R_icF rfl b7 h) ?_
        refine pj_X_of (fun r h => pj_R_to (G0, 30, [(0, .ref 6), (1, .int b), (2, .int hr)], [.int (Int32.ofInt 999999), .int hr], 0, 0) 30 3 (fun _ => rfl) h) ?_
        cases b8 : pj_c1 .le hr (Int32.ofInt 999999) with
        | true =>
          rw [pj_cT]
          have ub8 := pj_u_leT b8
          refine pj_X_of (fun r h => pj_R_icT 36 rfl rfl b8 h) ?_
          refine pj_X_of (fun r h => pj_R_to (G0, 37, [(0, .ref 6), (1, .int b), (2, .int hr)], [.ref 6], 0, 0) 37 2 (fun _ => rfl) h) ?_
          refine pj_X_of (fun r h => pj_T_gr hI rfl rfl rfl h) ?_
          refine pj_X_of (fun r h => pj_T_gr hI rfl rfl rfl h) ?_
          refine pj_X_of (fun r h => pj_R_to (G0, 44, [(0, .ref 6), (1, .int b), (2, .int hr)], [.int b, .ref 25], 0, 0) 44 2 (fun _ => rfl) h) ?_
          refine pj_X_of (fun r h => pj_T_il hI rfl rfl (by omega) (by omega) h) ?_
          show pj_X _ _ G0 45 [(0, .ref 6), (1, .int b), (2, .int hr)] [.int (pj_ai G0 25 b.toInt.toNat)] _
          obtain ⟨z9, hz9⟩ : ∃ z : Int32, z = pj_ai G0 25 b.toInt.toNat := ⟨_, rfl⟩
          rw [← hz9]
          rw [pj_nm_e]
          have ez9 : (pj_ai G0 25 b.toInt.toNat).toInt = z9.toInt := by rw [hz9]
          refine pj_X_of (fun r h => pj_R_to (G0, 47, [(3, .int z9), (0, .ref 6), (1, .int b), (2, .int hr)], [.ref 6], 0, 0) 47 3 (fun _ => rfl) h) ?_
          refine pj_X_of (fun r h => pj_T_gr hI rfl rfl rfl h) ?_
          refine pj_X_of (fun r h => pj_T_gr hI rfl rfl rfl h) ?_
          refine pj_X_of (fun r h => pj_R_to (G0, 55, [(3, .int z9), (0, .ref 6), (1, .int b), (2, .int hr)], [.int hr, .int b, .ref 25], 0, 0) 55 3 (fun _ => rfl) h) ?_
          refine pj_X_of (fun r h => pj_T_is hI rfl rfl (by omega) (by omega) h) ?_
          show pj_X _ _ (pj_wa G0 25 b.toInt.toNat hr) 56 [(3, .int z9), (0, .ref 6), (1, .int b), (2, .int hr)] [] _
          obtain ⟨G10, hG10⟩ : ∃ H, H = pj_wa G0 25 b.toInt.toNat hr := ⟨_, rfl⟩
          have iG10 : pj_Inv G10 := by rw [hG10]; exact pj_Inv_wa hI rfl (fun q hq => by cases hq) (fun n hn => by cases hn)
          have kG10 : pj_kpt kc_103x G0 G10 := by rw [hG10]; exact pj_kpt_a hK rfl
          rw [← hG10]
          rw [pj_nm_e]
          refine pj_X_of (fun r h => pj_R_to (G10, 57, [(3, .int z9), (0, .ref 6), (1, .int b), (2, .int hr)], [.int z9], 0, 0) 57 2 (fun _ => rfl) h) ?_
          exact pj_X_rt rfl rfl ⟨_, rfl, iG10, kG10, pj_i32 _, rfl⟩
        | false =>
          rw [pj_cF]
          have ub8 := pj_u_leF b8
          refine pj_X_of (fun r h => pj_R_icF rfl b8 h) ?_
          refine pj_X_of (fun r h => pj_R_to (G0, 35, [(0, .ref 6), (1, .int b), (2, .int hr)], [.int ((Int8.ofInt (-2)).toInt32)], 0, 0) 35 2 (fun _ => rfl) h) ?_
          exact pj_X_rt rfl rfl ⟨_, rfl, hI, hK, pj_i32 _, rfl⟩
  | false =>
    rw [pj_cF]
    have ub2 := pj_u0_neF b2
    refine pj_X_of (fun r h => pj_R_ifF rfl b2 h) ?_
    refine pj_X_of (fun r h => pj_R_to (G0, 10, [(0, .ref 6), (1, .int b), (2, .int hr)], [.int ((Int8.ofInt (-3)).toInt32)], 0, 0) 10 2 (fun _ => rfl) h) ?_
    exact pj_X_rt rfl rfl ⟨_, rfl, hI, hK, pj_i32 _, rfl⟩
theorem fr_103x (G0 : pj_G) (hI : pj_Inv G0) (b : Int32) (hr : Int32) : pj_Inv (F_103x G0 b hr).2 ∧ pj_kpt kc_103x G0 (F_103x G0 b hr).2 := by
  obtain ⟨v, G', -, y, -, i, j, r, e⟩ := ct_103x G0 hI b hr
  rw [← e]
  exact ⟨i, j⟩
theorem ct_110 (G0 : pj_G) (hI : pj_Inv G0) (b : Int32) (c : Int32) (rb : (0 : Int) ≤ b.toInt ∧ b.toInt ≤ 5) (rc : (0 : Int) ≤ c.toInt ∧ c.toInt ≤ 9) : pj_Y 3 110 [.ref 6, .int b, .int c] G0 (fun v G' => ∃ y : Int32, v = some (.int y) ∧ G0 = G' ∧ ((0 : Int) ≤ y.toInt ∧ y.toInt ≤ 1)) := by
  have c0_ : (Int32.ofInt 0).toInt = 0 := by decide
  have c1_ : (Int32.ofInt 1).toInt = 1 := by decide
  refine pj_Y_X (M := pj_m110) rfl rfl (Nat.le_of_ble_eq_true rfl) ?_
  have hK : pj_kpt ([], [], []) G0 G0 := pj_kpt_r _ _
  show pj_X _ _ G0 0 [(0, .ref 6), (1, .int b), (2, .int c)] [] _
  refine pj_X_of (fun r h => pj_R_to (G0, 1, [(0, .ref 6), (1, .int b), (2, .int c)], [.ref 6], 0, 0) 1 2 (fun _ => rfl) h) ?_
  refine pj_X_of (fun r h => pj_T_gr hI rfl rfl rfl h) ?_
  refine pj_X_of (fun r h => pj_T_gr hI rfl rfl rfl h) ?_
  refine pj_X_of (fun r h => pj_R_to (G0, 8, [(0, .ref 6), (1, .int b), (2, .int c)], [.int b, .ref 23], 0, 0) 8 2 (fun _ => rfl) h) ?_
  refine pj_X_of (fun r h => pj_T_il hI rfl rfl (by omega) (by omega) h) ?_
  show pj_X _ _ G0 9 [(0, .ref 6), (1, .int b), (2, .int c)] [.int (pj_ai G0 23 b.toInt.toNat)] _
  obtain ⟨z1, hz1⟩ : ∃ z : Int32, z = pj_ai G0 23 b.toInt.toNat := ⟨_, rfl⟩
  rw [← hz1]
  have ez1 : (pj_ai G0 23 b.toInt.toNat).toInt = z1.toInt := by rw [hz1]
  cases b2 : pj_c1 .ne z1 0 with
  | true =>
    have ub2 := pj_u0_neT b2
    refine pj_X_of (fun r h => pj_R_ifT 45 rfl rfl b2 h) ?_
    refine pj_X_of (fun r h => pj_R_to (G0, 46, [(0, .ref 6), (1, .int b), (2, .int c)], [.int (Int32.ofInt 0)], 0, 0) 46 2 (fun _ => rfl) h) ?_
    exact pj_X_rt rfl rfl ⟨_, rfl, rfl, ⟨by omega, by omega⟩⟩
  | false =>
    have ub2 := pj_u0_neF b2
    refine pj_X_of (fun r h => pj_R_ifF rfl b2 h) ?_
    refine pj_X_of (fun r h => pj_R_to (G0, 13, [(0, .ref 6), (1, .int b), (2, .int c)], [.ref 6], 0, 0) 13 2 (fun _ => rfl) h) ?_
    refine pj_X_of (fun r h => pj_T_gr hI rfl rfl rfl h) ?_
    refine pj_X_of (fun r h => pj_R_to (G0, 17, [(0, .ref 6), (1, .int b), (2, .int c)], [.int b, .ref 31], 0, 0) 17 2 (fun _ => rfl) h) ?_
    refine pj_X_of (fun r h => pj_T_il hI rfl rfl (by omega) (by omega) h) ?_
    show pj_X _ _ G0 18 [(0, .ref 6), (1, .int b), (2, .int c)] [.int (pj_ai G0 31 b.toInt.toNat)] _
    obtain ⟨z3, hz3⟩ : ∃ z : Int32, z = pj_ai G0 31 b.toInt.toNat := ⟨_, rfl⟩
    rw [← hz3]
    have ez3 : (pj_ai G0 31 b.toInt.toNat).toInt = z3.toInt := by rw [hz3]
    refine pj_X_of (fun r h => pj_R_to (G0, 19, [(0, .ref 6), (1, .int b), (2, .int c)], [.ref 6, .int z3], 0, 0) 19 2 (fun _ => rfl) h) ?_
    refine pj_X_gm hI rfl rfl (fun q4 => ?_) (fun q4 => ?_)
    · refine pj_X_of (fun r h => pj_T_gr hI rfl rfl rfl h) ?_
      refine pj_X_of (fun r h => pj_R_to (G0, 26, [(0, .ref 6), (1, .int b), (2, .int c)], [.int c, .ref 11, .int z3], 0, 0) 26 2 (fun _ => rfl) h) ?_
      refine pj_X_of (fun r h => pj_T_il hI rfl rfl (by omega) (by omega) h) ?_
      show pj_X _ _ G0 27 [(0, .ref 6), (1, .int b), (2, .int c)] [.int (pj_ai G0 11 c.toInt.toNat), .int z3] _
      obtain ⟨z5, hz5⟩ : ∃ z : Int32, z = pj_ai G0 11 c.toInt.toNat := ⟨_, rfl⟩
      rw [← hz5]
      have ez5 : (pj_ai G0 11 c.toInt.toNat).toInt = z5.toInt := by rw [hz5]
      have fz5_0 : (0 : Int) ≤ z5.toInt ∧ z5.toInt ≤ 9 ∧ (z5.toInt ≤ 0 ∨ 0 ≤ z5.toInt) := by rw [hz5]; exact hI.2.2.1 11 (10, 0, 9, 0, 0) rfl _ (by show _ < 10; omega)
      cases b6 : pj_c1 .lt z3 z5 with
      | true =>
        have ub6 := pj_u_ltT b6
        refine pj_X_of (fun r h => pj_R_icT 45 rfl rfl b6 h) ?_
        refine pj_X_of (fun r h => pj_R_to (G0, 46, [(0, .ref 6), (1, .int b), (2, .int c)], [.int (Int32.ofInt 0)], 0, 0) 46 2 (fun _ => rfl) h) ?_
        exact pj_X_rt rfl rfl ⟨_, rfl, rfl, ⟨by omega, by omega⟩⟩
      | false =>
        have ub6 := pj_u_ltF b6
        refine pj_X_of (fun r h => pj_R_icF rfl b6 h) ?_
        refine pj_X_of (fun r h => pj_R_to (G0, 31, [(0, .ref 6), (1, .int b), (2, .int c)], [.ref 6], 0, 0) 31 2 (fun _ => rfl) h) ?_
        refine pj_X_of (fun r h => pj_T_gr hI rfl rfl rfl h) ?_
        refine pj_X_of (fun r h => pj_R_to (G0, 35, [(0, .ref 6), (1, .int b), (2, .int c)], [.int c, .ref 21], 0, 0) 35 2 (fun _ => rfl) h) ?_
        refine pj_X_ca (vs := [.ref 21, .int c]) rfl (fun _ => rfl) ⟨Nat.le_of_ble_eq_true rfl, Nat.le_of_ble_eq_true rfl, pj_T_rcv hI rfl⟩ ⟨rfl, rfl⟩ (pj_Y_up (by decide) (ct_72_21x G0 hI c)) ?_
        rintro _ _ ⟨y7, rfl, rfl, ry7, fy7⟩
        show pj_X _ _ G0 38 [(0, .ref 6), (1, .int b), (2, .int c)] [.int y7] _
        cases b8 : pj_c1 .eq y7 0 with
        | true =>
          have ub8 := pj_u0_eqT b8
          refine pj_X_of (fun r h => pj_R_ifT 45 rfl rfl b8 h) ?_
          refine pj_X_of (fun r h => pj_R_to (G0, 46, [(0, .ref 6), (1, .int b), (2, .int c)], [.int (Int32.ofInt 0)], 0, 0) 46 2 (fun _ => rfl) h) ?_
          exact pj_X_rt rfl rfl ⟨_, rfl, rfl, ⟨by omega, by omega⟩⟩
        | false =>
          have ub8 := pj_u0_eqF b8
          refine pj_X_of (fun r h => pj_R_ifF rfl b8 h) ?_
          refine pj_X_of (fun r h => pj_R_to (G0, 46, [(0, .ref 6), (1, .int b), (2, .int c)], [.int (Int32.ofInt 1)], 0, 0) 46 3 (fun _ => rfl) h) ?_
          exact pj_X_rt rfl rfl ⟨_, rfl, rfl, ⟨by omega, by omega⟩⟩
    · refine pj_X_of (fun r h => pj_T_gr hI rfl rfl rfl h) ?_
      refine pj_X_of (fun r h => pj_R_to (G0, 26, [(0, .ref 6), (1, .int b), (2, .int c)], [.int c, .ref 18, .int z3], 0, 0) 26 2 (fun _ => rfl) h) ?_
      refine pj_X_of (fun r h => pj_T_il hI rfl rfl (by omega) (by omega) h) ?_
      show pj_X _ _ G0 27 [(0, .ref 6), (1, .int b), (2, .int c)] [.int (pj_ai G0 18 c.toInt.toNat), .int z3] _
      obtain ⟨z9, hz9⟩ : ∃ z : Int32, z = pj_ai G0 18 c.toInt.toNat := ⟨_, rfl⟩
      rw [← hz9]
      have ez9 : (pj_ai G0 18 c.toInt.toNat).toInt = z9.toInt := by rw [hz9]
      have fz9_0 : (0 : Int) ≤ z9.toInt ∧ z9.toInt ≤ 9 ∧ (z9.toInt ≤ 0 ∨ 0 ≤ z9.toInt) := by rw [hz9]; exact hI.2.2.1 18 (10, 0, 9, 0, 0) rfl _ (by show _ < 10; omega)
      cases b10 : pj_c1 .lt z3 z9 with
      | true =>
        have ub10 := pj_u_ltT b10
        refine pj_X_of (fun r h => pj_R_icT 45 rfl rfl b10 h) ?_
        refine pj_X_of (fun r h => pj_R_to (G0, 46, [(0, .ref 6), (1, .int b), (2, .int c)], [.int (Int32.ofInt 0)], 0, 0) 46 2 (fun _ => rfl) h) ?_
        exact pj_X_rt rfl rfl ⟨_, rfl, rfl, ⟨by omega, by omega⟩⟩
      | false =>
        have ub10 := pj_u_ltF b10
        refine pj_X_of (fun r h => pj_R_icF rfl b10 h) ?_
        refine pj_X_of (fun r h => pj_R_to (G0, 31, [(0, .ref 6), (1, .int b), (2, .int c)], [.ref 6], 0, 0) 31 2 (fun _ => rfl) h) ?_
        refine pj_X_of (fun r h => pj_T_gr hI rfl rfl rfl h) ?_
        refine pj_X_of (fun r h => pj_R_to (G0, 35, [(0, .ref 6), (1, .int b), (2, .int c)], [.int c, .ref 21], 0, 0) 35 2 (fun _ => rfl) h) ?_
        refine pj_X_ca (vs := [.ref 21, .int c]) rfl (fun _ => rfl) ⟨Nat.le_of_ble_eq_true rfl, Nat.le_of_ble_eq_true rfl, pj_T_rcv hI rfl⟩ ⟨rfl, rfl⟩ (pj_Y_up (by decide) (ct_72_21x G0 hI c)) ?_
        rintro _ _ ⟨y11, rfl, rfl, ry11, fy11⟩
        show pj_X _ _ G0 38 [(0, .ref 6), (1, .int b), (2, .int c)] [.int y11] _
        cases b12 : pj_c1 .eq y11 0 with
        | true =>
          have ub12 := pj_u0_eqT b12
          refine pj_X_of (fun r h => pj_R_ifT 45 rfl rfl b12 h) ?_
          refine pj_X_of (fun r h => pj_R_to (G0, 46, [(0, .ref 6), (1, .int b), (2, .int c)], [.int (Int32.ofInt 0)], 0, 0) 46 2 (fun _ => rfl) h) ?_
          exact pj_X_rt rfl rfl ⟨_, rfl, rfl, ⟨by omega, by omega⟩⟩
        | false =>
          have ub12 := pj_u0_eqF b12
          refine pj_X_of (fun r h => pj_R_ifF rfl b12 h) ?_
          refine pj_X_of (fun r h => pj_R_to (G0, 46, [(0, .ref 6), (1, .int b), (2, .int c)], [.int (Int32.ofInt 1)], 0, 0) 46 3 (fun _ => rfl) h) ?_
          exact pj_X_rt rfl rfl ⟨_, rfl, rfl, ⟨by omega, by omega⟩⟩
theorem ct_111 (G0 : pj_G) (hI : pj_Inv G0) (op : Int32) (b : Int32) (c : Int32) (ld : Int32) (rb : (0 : Int) ≤ b.toInt ∧ b.toInt ≤ 5) (rc : (0 : Int) ≤ c.toInt ∧ c.toInt ≤ 9) : pj_Y 1 111 [.ref 6, .int op, .int b, .int c, .int ld] G0 (fun v G' => ∃ y : Int32, v = some (.int y) ∧ G0 = G' ∧ ((-2147483648 : Int) ≤ y.toInt ∧ y.toInt ≤ 2147483647)) := by
  have c0_ : (Int32.ofInt (-1)).toInt = -1 := by decide
  have c1_ : (Int32.ofInt 1).toInt = 1 := by decide
  refine pj_Y_X (M := pj_m111) rfl rfl (Nat.le_of_ble_eq_true rfl) ?_
  have hK : pj_kpt ([], [], []) G0 G0 := pj_kpt_r _ _
  show pj_X _ _ G0 0 [(0, .ref 6), (1, .int op), (2, .int b), (3, .int c), (4, .int ld)] [] _
  refine pj_X_of (fun r h => pj_R_to (G0, 1, [(0, .ref 6), (1, .int op), (2, .int b), (3, .int c), (4, .int ld)], [.ref 6], 0, 0) 1 2 (fun _ => rfl) h) ?_
  refine pj_X_of (fun r h => pj_T_gr hI rfl rfl rfl h) ?_
  refine pj_X_of (fun r h => pj_T_gr hI rfl rfl rfl h) ?_
  refine pj_X_of (fun r h => pj_R_to (G0, 8, [(0, .ref 6), (1, .int op), (2, .int b), (3, .int c), (4, .int ld)], [.int b, .ref 22], 0, 0) 8 2 (fun _ => rfl) h) ?_
  refine pj_X_of (fun r h => pj_T_il hI rfl rfl (by omega) (by omega) h) ?_
  show pj_X _ _ G0 9 [(0, .ref 6), (1, .int op), (2, .int b), (3, .int c), (4, .int ld)] [.int (pj_ai G0 22 b.toInt.toNat)] _
  obtain ⟨z1, hz1⟩ : ∃ z : Int32, z = pj_ai G0 22 b.toInt.toNat := ⟨_, rfl⟩
  rw [← hz1]
  have ez1 : (pj_ai G0 22 b.toInt.toNat).toInt = z1.toInt := by rw [hz1]
  have fz1_0 : (-1 : Int) ≤ z1.toInt ∧ z1.toInt ≤ 9 ∧ (z1.toInt ≤ -1 ∨ -1 ≤ z1.toInt) := by rw [hz1]; exact hI.2.2.1 22 (6, -1, 9, -1, -1) rfl _ (by show _ < 6; omega)
  refine pj_X_of (fun r h => pj_R_to (G0, 10, [(0, .ref 6), (1, .int op), (2, .int b), (3, .int c), (4, .int ld)], [.int (Int32.ofInt (-1)), .int z1], 0, 0) 10 2 (fun _ => rfl) h) ?_
  cases b2 : pj_c1 .ne z1 (Int32.ofInt (-1)) with
  | true =>
    have ub2 := pj_u_neT b2
    refine pj_X_of (fun r h => pj_R_icT 17 rfl rfl b2 h) ?_
    refine pj_X_of (fun r h => pj_R_to (G0, 20, [(0, .ref 6), (1, .int op), (2, .int b), (3, .int c), (4, .int ld)], [.ref 6, .int (Int32.ofInt 1), .int op], 0, 0) 20 4 (fun _ => rfl) h) ?_
    refine pj_X_of (fun r h => pj_T_gr hI rfl rfl rfl h) ?_
    refine pj_X_of (fun r h => pj_T_gr hI rfl rfl rfl h) ?_
    refine pj_X_of (fun r h => pj_R_to (G0, 27, [(0, .ref 6), (1, .int op), (2, .int b), (3, .int c), (4, .int ld)], [.int b, .ref 22, .int (Int32.ofInt 1), .int op], 0, 0) 27 2 (fun _ => rfl) h) ?_
    refine pj_X_of (fun r h => pj_T_il hI rfl rfl (by omega) (by omega) h) ?_
    show pj_X _ _ G0 28 [(0, .ref 6), (1, .int op), (2, .int b), (3, .int c), (4, .int ld)] [.int (pj_ai G0 22 b.toInt.toNat), .int (Int32.ofInt 1), .int op] _
    rw [← hz1]
    refine pj_X_of (fun r h => pj_R_to (G0, 29, [(0, .ref 6), (1, .int op), (2, .int b), (3, .int c), (4, .int ld)], [.int ((Int32.ofInt 1) <<< (z1 &&& 31)), .int op], 0, 0) 29 2 (fun _ => rfl) h) ?_
    obtain ⟨z3, hz3⟩ : ∃ z : Int32, z = (Int32.ofInt 1) <<< (z1 &&& 31) := ⟨_, rfl⟩
    rw [← hz3]
    have fz3_0 : 1 ≤ z3.toInt ∧ z3.toInt ≤ 512 := by rw [hz3]; exact pj_shlI9 (by omega) (by omega)
    refine pj_X_of (fun r h => pj_R_to (G0, 31, [(0, .ref 6), (1, .int op), (2, .int b), (3, .int c), (4, .int ld)], [.int (z3 ^^^ (Int32.ofInt (-1))), .int op], 0, 0) 31 3 (fun _ => rfl) h) ?_
    obtain ⟨z4, hz4⟩ : ∃ z : Int32, z = z3 ^^^ (Int32.ofInt (-1)) := ⟨_, rfl⟩
    rw [← hz4]
    refine pj_X_of (fun r h => pj_R_to (G0, 32, [(0, .ref 6), (1, .int op), (2, .int b), (3, .int c), (4, .int ld)], [.int (op &&& z4)], 0, 0) 32 2 (fun _ => rfl) h) ?_
    obtain ⟨z5, hz5⟩ : ∃ z : Int32, z = op &&& z4 := ⟨_, rfl⟩
    rw [← hz5]
    refine pj_X_of (fun r h => pj_R_to (G0, 35, [(5, .int z5), (0, .ref 6), (1, .int op), (2, .int b), (3, .int c), (4, .int ld)], [.ref 6], 0, 0) 35 3 (fun _ => rfl) h) ?_
    refine pj_X_of (fun r h => pj_T_gr hI rfl rfl rfl h) ?_
    refine pj_X_of (fun r h => pj_T_gr hI rfl rfl rfl h) ?_
    refine pj_X_of (fun r h => pj_R_to (G0, 42, [(5, .int z5), (0, .ref 6), (1, .int op), (2, .int b), (3, .int c), (4, .int ld)], [.int b, .ref 24], 0, 0) 42 2 (fun _ => rfl) h) ?_
    refine pj_X_of (fun r h => pj_T_il hI rfl rfl (by omega) (by omega) h) ?_
    show pj_X _ _ G0 43 [(5, .int z5), (0, .ref 6), (1, .int op), (2, .int b), (3, .int c), (4, .int ld)] [.int (pj_ai G0 24 b.toInt.toNat)] _
    obtain ⟨z6, hz6⟩ : ∃ z : Int32, z = pj_ai G0 24 b.toInt.toNat := ⟨_, rfl⟩
    rw [← hz6]
    have ez6 : (pj_ai G0 24 b.toInt.toNat).toInt = z6.toInt := by rw [hz6]
    refine pj_X_of (fun r h => pj_R_to (G0, 45, [(5, .int z5), (0, .ref 6), (1, .int op), (2, .int b), (3, .int c), (4, .int ld)], [.int ld, .int z6], 0, 0) 45 2 (fun _ => rfl) h) ?_
    cases b7 : pj_c1 .lt z6 ld with
    | true =>
      have ub7 := pj_u_ltT b7
      refine pj_X_of (fun r h => pj_R_icT 57 rfl rfl b7 h) ?_
      refine pj_X_of (fun r h => pj_R_to (G0, 59, [(5, .int z5), (0, .ref 6), (1, .int op), (2, .int b), (3, .int c), (4, .int ld)], [.int z5], 0, 0) 59 2 (fun _ => rfl) h) ?_
      exact pj_X_rt rfl rfl ⟨_, rfl, rfl, pj_i32 _⟩
    | false =>
      have ub7 := pj_u_ltF b7
      refine pj_X_of (fun r h => pj_R_icF rfl b7 h) ?_
      refine pj_X_of (fun r h => pj_R_to (G0, 53, [(5, .int z5), (0, .ref 6), (1, .int op), (2, .int b), (3, .int c), (4, .int ld)], [.int ((Int32.ofInt 1) <<< (c &&& 31)), .int z5], 0, 0) 53 5 (fun _ => rfl) h) ?_
      obtain ⟨z8, hz8⟩ : ∃ z : Int32, z = (Int32.ofInt 1) <<< (c &&& 31) := ⟨_, rfl⟩
      rw [← hz8]
      have fz8_0 : 1 ≤ z8.toInt ∧ z8.toInt ≤ 512 := by rw [hz8]; exact pj_shlI9 (by omega) (by omega)
      refine pj_X_of (fun r h => pj_R_to (G0, 54, [(5, .int z5), (0, .ref 6), (1, .int op), (2, .int b), (3, .int c), (4, .int ld)], [.int (z5 ||| z8)], 0, 0) 54 2 (fun _ => rfl) h) ?_
      obtain ⟨z9, hz9⟩ : ∃ z : Int32, z = z5 ||| z8 := ⟨_, rfl⟩
      rw [← hz9]
      refine pj_X_of (fun r h => pj_R_to (G0, 59, [(5, .int z5), (0, .ref 6), (1, .int op), (2, .int b), (3, .int c), (4, .int ld)], [.int z9], 0, 0) 59 2 (fun _ => rfl) h) ?_
      exact pj_X_rt rfl rfl ⟨_, rfl, rfl, pj_i32 _⟩
  | false =>
    have ub2 := pj_u_neF b2
    refine pj_X_of (fun r h => pj_R_icF rfl b2 h) ?_
    refine pj_X_of (fun r h => pj_R_to (G0, 35, [(5, .int op), (0, .ref 6), (1, .int op), (2, .int b), (3, .int c), (4, .int ld)], [.ref 6], 0, 0) 35 5 (fun _ => rfl) h) ?_
    refine pj_X_of (fun r h => pj_T_gr hI rfl rfl rfl h) ?_
    refine pj_X_of (fun r h => pj_T_gr hI rfl rfl rfl h) ?_
    refine pj_X_of (fun r h => pj_R_to (G0, 42, [(5, .int op), (0, .ref 6), (1, .int op), (2, .int b), (3, .int c), (4, .int ld)], [.int b, .ref 24], 0, 0) 42 2 (fun _ => rfl) h) ?_
    refine pj_X_of (fun r h => pj_T_il hI rfl rfl (by omega) (by omega) h) ?_
    show pj_X _ _ G0 43 [(5, .int op), (0, .ref 6), (1, .int op), (2, .int b), (3, .int c), (4, .int ld)] [.int (pj_ai G0 24 b.toInt.toNat)] _
    obtain ⟨z10, hz10⟩ : ∃ z : Int32, z = pj_ai G0 24 b.toInt.toNat := ⟨_, rfl⟩
    rw [← hz10]
    have ez10 : (pj_ai G0 24 b.toInt.toNat).toInt = z10.toInt := by rw [hz10]
    refine pj_X_of (fun r h => pj_R_to (G0, 45, [(5, .int op), (0, .ref 6), (1, .int op), (2, .int b), (3, .int c), (4, .int ld)], [.int ld, .int z10], 0, 0) 45 2 (fun _ => rfl) h) ?_
    cases b11 : pj_c1 .lt z10 ld with
    | true =>
      have ub11 := pj_u_ltT b11
      refine pj_X_of (fun r h => pj_R_icT 57 rfl rfl b11 h) ?_
      refine pj_X_of (fun r h => pj_R_to (G0, 59, [(5, .int op), (0, .ref 6), (1, .int op), (2, .int b), (3, .int c), (4, .int ld)], [.int op], 0, 0) 59 2 (fun _ => rfl) h) ?_
      exact pj_X_rt rfl rfl ⟨_, rfl, rfl, pj_i32 _⟩
    | false =>
      have ub11 := pj_u_ltF b11
      refine pj_X_of (fun r h => pj_R_icF rfl b11 h) ?_
      refine pj_X_of (fun r h => pj_R_to (G0, 53, [(5, .int op), (0, .ref 6), (1, .int op), (2, .int b), (3, .int c), (4, .int ld)], [.int ((Int32.ofInt 1) <<< (c &&& 31)), .int op], 0, 0) 53 5 (fun _ => rfl) h) ?_
      obtain ⟨z12, hz12⟩ : ∃ z : Int32, z = (Int32.ofInt 1) <<< (c &&& 31) := ⟨_, rfl⟩
      rw [← hz12]
      have fz12_0 : 1 ≤ z12.toInt ∧ z12.toInt ≤ 512 := by rw [hz12]; exact pj_shlI9 (by omega) (by omega)
      refine pj_X_of (fun r h => pj_R_to (G0, 54, [(5, .int op), (0, .ref 6), (1, .int op), (2, .int b), (3, .int c), (4, .int ld)], [.int (op ||| z12)], 0, 0) 54 2 (fun _ => rfl) h) ?_
      obtain ⟨z13, hz13⟩ : ∃ z : Int32, z = op ||| z12 := ⟨_, rfl⟩
      rw [← hz13]
      refine pj_X_of (fun r h => pj_R_to (G0, 59, [(5, .int op), (0, .ref 6), (1, .int op), (2, .int b), (3, .int c), (4, .int ld)], [.int z13], 0, 0) 59 2 (fun _ => rfl) h) ?_
      exact pj_X_rt rfl rfl ⟨_, rfl, rfl, pj_i32 _⟩
theorem lp_ct_165 (G0 : pj_G) (hI : pj_Inv G0) (w : Int32) (n : Int32) (k : Int32) (who : Int32) (rn : (1 : Int) ≤ n.toInt ∧ n.toInt ≤ 48) : ∀ mn : Nat, (∀ (v4 : Int32) (v5 : Int32), ((-2147483648 : Int) ≤ v4.toInt ∧ v4.toInt ≤ 2147483647) → ((0 : Int) ≤ v5.toInt ∧ v5.toInt ≤ 48) → 48 - v5.toInt < (mn : Int) → pj_X 1 pj_m165 G0 6 [(0, .int w), (1, .int n), (2, .int k), (3, .int who), (4, .int v4), (5, .int v5)] [] (fun v G' => ∃ y : Int32, v = some (.int y) ∧ G0 = G' ∧ ((-2147483648 : Int) ≤ y.toInt ∧ y.toInt ≤ 2147483647))) := by
  have c0_ : ((Int8.ofInt 24).toInt32).toInt = 24 := by decide
  have c1_ : (Int32.ofInt 0).toInt = 0 := by decide
  have c2_ : (Int32.ofInt 1).toInt = 1 := by decide
  have c3_ : (Int32.ofInt 2).toInt = 2 := by decide
  have hK : pj_kpt ([], [], []) G0 G0 := pj_kpt_r _ _
  intro mn
  induction mn with
  | zero =>
    intro v4 v5 rv4 rv5 hm
    exfalso
    omega
  | succ mn ih =>
    intro v4 v5 rv4 rv5 hm
    refine pj_X_of (fun r h => pj_R_to (G0, 9, [(0, .int w), (1, .int n), (2, .int k), (3, .int who), (4, .int v4), (5, .int v5)], [.int n, .int v5], 0, 0) 9 3 (fun _ => rfl) h) ?_
    cases b1 : pj_c1 .ge v5 n with
    | true =>
      have ub1 := pj_u_geT b1
      refine pj_X_of (fun r h => pj_R_icT 47 rfl rfl b1 h) ?_
      refine pj_X_of (fun r h => pj_R_to (G0, 49, [(0, .int w), (1, .int n), (2, .int k), (3, .int who), (4, .int v4), (5, .int v5)], [.int v4], 0, 0) 49 2 (fun _ => rfl) h) ?_
      exact pj_X_rt rfl rfl ⟨_, rfl, rfl, pj_i32 _⟩
    | false =>
      have ub1 := pj_u_geF b1
      refine pj_X_of (fun r h => pj_R_icF rfl b1 h) ?_
      refine pj_X_of (fun r h => pj_R_to (G0, 13, [(0, .int w), (1, .int n), (2, .int k), (3, .int who), (4, .int v4), (5, .int v5)], [.int k], 0, 0) 13 2 (fun _ => rfl) h) ?_
      cases b2 : pj_c1 .le k 0 with
      | true =>
        have ub2 := pj_u0_leT b2
        refine pj_X_of (fun r h => pj_R_ifT 47 rfl rfl b2 h) ?_
        refine pj_X_of (fun r h => pj_R_to (G0, 49, [(0, .int w), (1, .int n), (2, .int k), (3, .int who), (4, .int v4), (5, .int v5)], [.int v4], 0, 0) 49 2 (fun _ => rfl) h) ?_
        exact pj_X_rt rfl rfl ⟨_, rfl, rfl, pj_i32 _⟩
      | false =>
        have ub2 := pj_u0_leF b2
        refine pj_X_of (fun r h => pj_R_ifF rfl b2 h) ?_
        refine pj_X_of (fun r h => pj_R_to (G0, 19, [(0, .int w), (1, .int n), (2, .int k), (3, .int who), (4, .int v4), (5, .int v5)], [.int k, .int v5], 0, 0) 19 3 (fun _ => rfl) h) ?_
        refine pj_X_of (fun r h => pj_R_dv rfl (pj_nz (by omega)) h) ?_
        show pj_X _ _ G0 20 [(0, .int w), (1, .int n), (2, .int k), (3, .int who), (4, .int v4), (5, .int v5)] [.int (v5 / k)] _
        obtain ⟨z3, hz3⟩ : ∃ z : Int32, z = v5 / k := ⟨_, rfl⟩
        rw [← hz3]
        have fz3_0 : 0 ≤ z3.toInt ∧ z3.toInt ≤ v5.toInt := by rw [hz3]; exact pj_divI (by omega) (by omega)
        refine pj_X_of (fun r h => pj_R_to (G0, 21, [(0, .int w), (1, .int n), (2, .int k), (3, .int who), (4, .int v4), (5, .int v5)], [.int (Int32.ofInt 2), .int z3], 0, 0) 21 2 (fun _ => rfl) h) ?_
        refine pj_X_of (fun r h => pj_R_rm rfl (pj_nz (by omega)) h) ?_
        show pj_X _ _ G0 22 [(0, .int w), (1, .int n), (2, .int k), (3, .int who), (4, .int v4), (5, .int v5)] [.int (z3 - z3 / (Int32.ofInt 2) * (Int32.ofInt 2))] _
        obtain ⟨z4, hz4⟩ : ∃ z : Int32, z = z3 - z3 / (Int32.ofInt 2) * (Int32.ofInt 2) := ⟨_, rfl⟩
        rw [← hz4]
        have fz4_0 : 0 ≤ z4.toInt ∧ z4.toInt < (Int32.ofInt 2).toInt := by rw [hz4]; exact pj_remI (by omega) (by omega)
        refine pj_X_of (fun r h => pj_R_to (G0, 23, [(0, .int w), (1, .int n), (2, .int k), (3, .int who), (4, .int v4), (5, .int v5)], [.int who, .int z4], 0, 0) 23 2 (fun _ => rfl) h) ?_
        cases b5 : pj_c1 .ne z4 who with
        | true =>
          have ub5 := pj_u_neT b5
          refine pj_X_of (fun r h => pj_R_icT 41 rfl rfl b5 h) ?_
          refine pj_X_of (fun r h => pj_R_to (G0, 44, [(5, .int (v5 + Int32.ofInt 1)), (0, .int w), (1, .int n), (2, .int k), (3, .int who), (4, .int v4)], [], 0, 0) 44 2 (fun _ => rfl) h) ?_
          obtain ⟨z6, hz6⟩ : ∃ z : Int32, z = v5 + Int32.ofInt 1 := ⟨_, rfl⟩
          rw [← hz6]
          have fz6_0 : z6.toInt = v5.toInt + (Int32.ofInt 1).toInt := by rw [hz6]; exact pj_addI (by have := pj_i32 v5; have := pj_i32 (Int32.ofInt 1); omega) (by have := pj_i32 v5; have := pj_i32 (Int32.ofInt 1); omega)
          refine pj_X_of (fun r h => pj_R_to (G0, 6, [(5, .int z6), (0, .int w), (1, .int n), (2, .int k), (3, .int who), (4, .int v4)], [], 0, 0) 6 2 (fun _ => rfl) h) ?_
          exact pj_X_sub [(0, .int w), (1, .int n), (2, .int k), (3, .int who), (4, .int v4), (5, .int z6)] (show List.Nodup [0, 1, 2, 3, 4, 5] by decide) ⟨rfl, rfl, rfl, rfl, rfl, rfl, trivial⟩ (ih v4 z6 (pj_i32 _) ⟨by omega, by omega⟩ (by omega))
        | false =>
          have ub5 := pj_u_neF b5
          refine pj_X_of (fun r h => pj_R_icF rfl b5 h) ?_
          refine pj_X_of (fun r h => pj_R_to (G0, 31, [(0, .int w), (1, .int n), (2, .int k), (3, .int who), (4, .int v4), (5, .int v5)], [.int ((Int8.ofInt 24).toInt32), .int v5, .int w], 0, 0) 31 4 (fun _ => rfl) h) ?_
          refine pj_X_of (fun r h => pj_R_rm rfl (pj_nz (by omega)) h) ?_
          show pj_X _ _ G0 32 [(0, .int w), (1, .int n), (2, .int k), (3, .int who), (4, .int v4), (5, .int v5)] [.int (v5 - v5 / ((Int8.ofInt 24).toInt32) * ((Int8.ofInt 24).toInt32)), .int w] _
          obtain ⟨z7, hz7⟩ : ∃ z : Int32, z = v5 - v5 / ((Int8.ofInt 24).toInt32) * ((Int8.ofInt 24).toInt32) := ⟨_, rfl⟩
          rw [← hz7]
          have fz7_0 : 0 ≤ z7.toInt ∧ z7.toInt < ((Int8.ofInt 24).toInt32).toInt := by rw [hz7]; exact pj_remI (by omega) (by omega)
          refine pj_X_ca (vs := [.int w, .int z7]) rfl (fun _ => rfl) ⟨Nat.le_of_ble_eq_true rfl, Nat.le_of_ble_eq_true rfl, rfl⟩ ⟨rfl, rfl⟩ (pj_Y_up (by decide) (ct_163x G0 hI w z7)) ?_
          rintro _ _ ⟨y8, rfl, rfl, ry8, fy8⟩
          show pj_X _ _ G0 35 [(0, .int w), (1, .int n), (2, .int k), (3, .int who), (4, .int v4), (5, .int v5)] [.int y8] _
          cases b9 : pj_c1 .eq y8 0 with
          | true =>
            have ub9 := pj_u0_eqT b9
            refine pj_X_of (fun r h => pj_R_ifT 41 rfl rfl b9 h) ?_
            refine pj_X_of (fun r h => pj_R_to (G0, 44, [(5, .int (v5 + Int32.ofInt 1)), (0, .int w), (1, .int n), (2, .int k), (3, .int who), (4, .int v4)], [], 0, 0) 44 2 (fun _ => rfl) h) ?_
            obtain ⟨z10, hz10⟩ : ∃ z : Int32, z = v5 + Int32.ofInt 1 := ⟨_, rfl⟩
            rw [← hz10]
            have fz10_0 : z10.toInt = v5.toInt + (Int32.ofInt 1).toInt := by rw [hz10]; exact pj_addI (by have := pj_i32 v5; have := pj_i32 (Int32.ofInt 1); omega) (by have := pj_i32 v5; have := pj_i32 (Int32.ofInt 1); omega)
            refine pj_X_of (fun r h => pj_R_to (G0, 6, [(5, .int z10), (0, .int w), (1, .int n), (2, .int k), (3, .int who), (4, .int v4)], [], 0, 0) 6 2 (fun _ => rfl) h) ?_
            exact pj_X_sub [(0, .int w), (1, .int n), (2, .int k), (3, .int who), (4, .int v4), (5, .int z10)] (show List.Nodup [0, 1, 2, 3, 4, 5] by decide) ⟨rfl, rfl, rfl, rfl, rfl, rfl, trivial⟩ (ih v4 z10 (pj_i32 _) ⟨by omega, by omega⟩ (by omega))
          | false =>
            have ub9 := pj_u0_eqF b9
            refine pj_X_of (fun r h => pj_R_ifF rfl b9 h) ?_
            refine pj_X_of (fun r h => pj_R_to (G0, 41, [(4, .int (v4 + Int32.ofInt 1)), (0, .int w), (1, .int n), (2, .int k), (3, .int who), (5, .int v5)], [], 0, 0) 41 2 (fun _ => rfl) h) ?_
            obtain ⟨z11, hz11⟩ : ∃ z : Int32, z = v4 + Int32.ofInt 1 := ⟨_, rfl⟩
            rw [← hz11]
            refine pj_X_of (fun r h => pj_R_to (G0, 44, [(5, .int (v5 + Int32.ofInt 1)), (4, .int z11), (0, .int w), (1, .int n), (2, .int k), (3, .int who)], [], 0, 0) 44 2 (fun _ => rfl) h) ?_
            obtain ⟨z12, hz12⟩ : ∃ z : Int32, z = v5 + Int32.ofInt 1 := ⟨_, rfl⟩
            rw [← hz12]
            have fz12_0 : z12.toInt = v5.toInt + (Int32.ofInt 1).toInt := by rw [hz12]; exact pj_addI (by have := pj_i32 v5; have := pj_i32 (Int32.ofInt 1); omega) (by have := pj_i32 v5; have := pj_i32 (Int32.ofInt 1); omega)
            refine pj_X_of (fun r h => pj_R_to (G0, 6, [(5, .int z12), (4, .int z11), (0, .int w), (1, .int n), (2, .int k), (3, .int who)], [], 0, 0) 6 2 (fun _ => rfl) h) ?_
            exact pj_X_sub [(0, .int w), (1, .int n), (2, .int k), (3, .int who), (4, .int z11), (5, .int z12)] (show List.Nodup [0, 1, 2, 3, 4, 5] by decide) ⟨rfl, rfl, rfl, rfl, rfl, rfl, trivial⟩ (ih z11 z12 (pj_i32 _) ⟨by omega, by omega⟩ (by omega))
theorem ct_165 (G0 : pj_G) (hI : pj_Inv G0) (w : Int32) (n : Int32) (k : Int32) (who : Int32) (rn : (1 : Int) ≤ n.toInt ∧ n.toInt ≤ 48) : pj_Y 2 165 [.int w, .int n, .int k, .int who] G0 (fun v G' => ∃ y : Int32, v = some (.int y) ∧ G0 = G' ∧ ((-2147483648 : Int) ≤ y.toInt ∧ y.toInt ≤ 2147483647)) := by
  have c0_ : ((Int8.ofInt 24).toInt32).toInt = 24 := by decide
  have c1_ : (Int32.ofInt 0).toInt = 0 := by decide
  have c2_ : (Int32.ofInt 1).toInt = 1 := by decide
  have c3_ : (Int32.ofInt 2).toInt = 2 := by decide
  refine pj_Y_X (M := pj_m165) rfl rfl (Nat.le_of_ble_eq_true rfl) ?_
  have hK : pj_kpt ([], [], []) G0 G0 := pj_kpt_r _ _
  show pj_X _ _ G0 0 [(0, .int w), (1, .int n), (2, .int k), (3, .int who)] [] _
  refine pj_X_of (fun r h => pj_R_to (G0, 6, [(5, .int (Int32.ofInt 0)), (4, .int (Int32.ofInt 0)), (0, .int w), (1, .int n), (2, .int k), (3, .int who)], [], 0, 0) 6 5 (fun _ => rfl) h) ?_
  exact pj_X_sub [(0, .int w), (1, .int n), (2, .int k), (3, .int who), (4, .int (Int32.ofInt 0)), (5, .int (Int32.ofInt 0))] (show List.Nodup [0, 1, 2, 3, 4, 5] by decide) ⟨rfl, rfl, rfl, rfl, rfl, rfl, trivial⟩ ((lp_ct_165 G0 hI w n k who rn 49) (Int32.ofInt 0) (Int32.ofInt 0) (pj_i32 _) ⟨by omega, by omega⟩ (by omega))
theorem ct_166 (G0 : pj_G) (hI : pj_Inv G0) (own : Int32) (oth : Int32) (c : Int32) : pj_Y 1 166 [.int own, .int oth, .int c] G0 (fun v G' => ∃ y : Int32, v = some (.int y) ∧ G0 = G' ∧ ((-2147483648 : Int) ≤ y.toInt ∧ y.toInt ≤ 2147483647)) := by
  have c0_ : (Int32.ofInt 0).toInt = 0 := by decide
  have c1_ : (Int32.ofInt 2).toInt = 2 := by decide
  refine pj_Y_X (M := pj_m166) rfl rfl (Nat.le_of_ble_eq_true rfl) ?_
  have hK : pj_kpt ([], [], []) G0 G0 := pj_kpt_r _ _
  show pj_X _ _ G0 0 [(0, .int own), (1, .int oth), (2, .int c)] [] _
  refine pj_X_of (fun r h => pj_R_to (G0, 2, [(0, .int own), (1, .int oth), (2, .int c)], [.int oth, .int own], 0, 0) 2 3 (fun _ => rfl) h) ?_
  cases b1 : pj_c1 .le own oth with
  | true =>
    have ub1 := pj_u_leT b1
    refine pj_X_of (fun r h => pj_R_icT 7 rfl rfl b1 h) ?_
    refine pj_X_of (fun r h => pj_R_to (G0, 9, [(0, .int own), (1, .int oth), (2, .int c)], [.int oth, .int own], 0, 0) 9 3 (fun _ => rfl) h) ?_
    cases b2 : pj_c1 .ge own oth with
    | true =>
      have ub2 := pj_u_geT b2
      refine pj_X_of (fun r h => pj_R_icT 18 rfl rfl b2 h) ?_
      refine pj_X_of (fun r h => pj_R_to (G0, 21, [(0, .int own), (1, .int oth), (2, .int c)], [.int (own - c)], 0, 0) 21 4 (fun _ => rfl) h) ?_
      obtain ⟨z3, hz3⟩ : ∃ z : Int32, z = own - c := ⟨_, rfl⟩
      rw [← hz3]
      refine pj_X_of (fun r h => pj_R_to (G0, 22, [(0, .int own), (1, .int oth), (2, .int c)], [.int (Int32.ofInt 2), .int z3], 0, 0) 22 2 (fun _ => rfl) h) ?_
      refine pj_X_of (fun r h => pj_R_dv rfl (pj_nz (by omega)) h) ?_
      show pj_X _ _ G0 23 [(0, .int own), (1, .int oth), (2, .int c)] [.int (z3 / (Int32.ofInt 2))] _
      obtain ⟨z4, hz4⟩ : ∃ z : Int32, z = z3 / (Int32.ofInt 2) := ⟨_, rfl⟩
      rw [← hz4]
      exact pj_X_rt rfl rfl ⟨_, rfl, rfl, pj_i32 _⟩
    | false =>
      have ub2 := pj_u_geF b2
      refine pj_X_of (fun r h => pj_R_icF rfl b2 h) ?_
      refine pj_X_of (fun r h => pj_R_to (G0, 15, [(0, .int own), (1, .int oth), (2, .int c)], [.int (own - c)], 0, 0) 15 4 (fun _ => rfl) h) ?_
      obtain ⟨z5, hz5⟩ : ∃ z : Int32, z = own - c := ⟨_, rfl⟩
      rw [← hz5]
      refine pj_X_of (fun r h => pj_R_to (G0, 23, [(0, .int own), (1, .int oth), (2, .int c)], [.int z5], 0, 0) 23 2 (fun _ => rfl) h) ?_
      exact pj_X_rt rfl rfl ⟨_, rfl, rfl, pj_i32 _⟩
  | false =>
    have ub1 := pj_u_leF b1
    refine pj_X_of (fun r h => pj_R_icF rfl b1 h) ?_
    refine pj_X_of (fun r h => pj_R_to (G0, 6, [(0, .int own), (1, .int oth), (2, .int c)], [.int (Int32.ofInt 0)], 0, 0) 6 2 (fun _ => rfl) h) ?_
    exact pj_X_rt rfl rfl ⟨_, rfl, rfl, pj_i32 _⟩
theorem lp_ct_167 (G0 : pj_G) (hI : pj_Inv G0) (own : Int32) (oth : Int32) (c : Int32) : ∀ mn : Nat, (∀ (v3 : Int32), ((1 : Int) ≤ v3.toInt ∧ v3.toInt ≤ 10) → 10 - v3.toInt < (mn : Int) → pj_X 1 pj_m167 G0 2 [(0, .int own), (1, .int oth), (2, .int c), (3, .int v3)] [] (fun v G' => ∃ y : Int32, v = some (.int y) ∧ G0 = G' ∧ ((0 : Int) ≤ y.toInt ∧ y.toInt ≤ 1))) := by
  have c0_ : ((Int8.ofInt 9).toInt32).toInt = 9 := by decide
  have c1_ : (Int32.ofInt 0).toInt = 0 := by decide
  have c2_ : (Int32.ofInt 1).toInt = 1 := by decide
  have hK : pj_kpt ([], [], []) G0 G0 := pj_kpt_r _ _
  intro mn
  induction mn with
  | zero =>
    intro v3 rv3 hm
    exfalso
    omega
  | succ mn ih =>
    intro v3 rv3 hm
    refine pj_X_of (fun r h => pj_R_to (G0, 5, [(0, .int own), (1, .int oth), (2, .int c), (3, .int v3)], [.int ((Int8.ofInt 9).toInt32), .int v3], 0, 0) 5 3 (fun _ => rfl) h) ?_
    cases b1 : pj_c1 .gt v3 ((Int8.ofInt 9).toInt32) with
    | true =>
      have ub1 := pj_u_gtT b1
      refine pj_X_of (fun r h => pj_R_icT 31 rfl rfl b1 h) ?_
      refine pj_X_of (fun r h => pj_R_to (G0, 32, [(0, .int own), (1, .int oth), (2, .int c), (3, .int v3)], [.int (Int32.ofInt 1)], 0, 0) 32 2 (fun _ => rfl) h) ?_
      exact pj_X_rt rfl rfl ⟨_, rfl, rfl, ⟨by omega, by omega⟩⟩
    | false =>
      have ub1 := pj_u_gtF b1
      refine pj_X_of (fun r h => pj_R_icF rfl b1 h) ?_
      refine pj_X_of (fun r h => pj_R_to (G0, 11, [(0, .int own), (1, .int oth), (2, .int c), (3, .int v3)], [.int c, .int oth, .int v3], 0, 0) 11 4 (fun _ => rfl) h) ?_
      refine pj_X_ca (vs := [.int v3, .int oth, .int c]) rfl (fun _ => rfl) ⟨Nat.le_of_ble_eq_true rfl, Nat.le_of_ble_eq_true rfl, rfl⟩ ⟨rfl, rfl⟩ (pj_Y_up (by decide) (ct_166 G0 hI v3 oth c)) ?_
      rintro _ _ ⟨y2, rfl, rfl, ry2⟩
      show pj_X _ _ G0 14 [(0, .int own), (1, .int oth), (2, .int c), (3, .int v3)] [.int y2] _
      refine pj_X_of (fun r h => pj_R_to (G0, 17, [(0, .int own), (1, .int oth), (2, .int c), (3, .int v3)], [.int c, .int oth, .int own, .int y2], 0, 0) 17 4 (fun _ => rfl) h) ?_
      refine pj_X_ca (vs := [.int own, .int oth, .int c]) rfl (fun _ => rfl) ⟨Nat.le_of_ble_eq_true rfl, Nat.le_of_ble_eq_true rfl, rfl⟩ ⟨rfl, rfl⟩ (pj_Y_up (by decide) (ct_166 G0 hI own oth c)) ?_
      rintro _ _ ⟨y3, rfl, rfl, ry3⟩
      show pj_X _ _ G0 20 [(0, .int own), (1, .int oth), (2, .int c), (3, .int v3)] [.int y3, .int y2] _
      cases b4 : pj_c1 .le y2 y3 with
      | true =>
        have ub4 := pj_u_leT b4
        refine pj_X_of (fun r h => pj_R_icT 25 rfl rfl b4 h) ?_
        refine pj_X_of (fun r h => pj_R_to (G0, 28, [(3, .int (v3 + Int32.ofInt 1)), (0, .int own), (1, .int oth), (2, .int c)], [], 0, 0) 28 2 (fun _ => rfl) h) ?_
        obtain ⟨z5, hz5⟩ : ∃ z : Int32, z = v3 + Int32.ofInt 1 := ⟨_, rfl⟩
        rw [← hz5]
        have fz5_0 : z5.toInt = v3.toInt + (Int32.ofInt 1).toInt := by rw [hz5]; exact pj_addI (by have := pj_i32 v3; have := pj_i32 (Int32.ofInt 1); omega) (by have := pj_i32 v3; have := pj_i32 (Int32.ofInt 1); omega)
        refine pj_X_of (fun r h => pj_R_to (G0, 2, [(3, .int z5), (0, .int own), (1, .int oth), (2, .int c)], [], 0, 0) 2 2 (fun _ => rfl) h) ?_
        exact pj_X_sub [(0, .int own), (1, .int oth), (2, .int c), (3, .int z5)] (show List.Nodup [0, 1, 2, 3] by decide) ⟨rfl, rfl, rfl, rfl, trivial⟩ (ih z5 ⟨by omega, by omega⟩ (by omega))
      | false =>
        have ub4 := pj_u_leF b4
        refine pj_X_of (fun r h => pj_R_icF rfl b4 h) ?_
        refine pj_X_of (fun r h => pj_R_to (G0, 24, [(0, .int own), (1, .int oth), (2, .int c), (3, .int v3)], [.int (Int32.ofInt 0)], 0, 0) 24 2 (fun _ => rfl) h) ?_
        exact pj_X_rt rfl rfl ⟨_, rfl, rfl, ⟨by omega, by omega⟩⟩
theorem ct_167 (G0 : pj_G) (hI : pj_Inv G0) (own : Int32) (oth : Int32) (c : Int32) : pj_Y 2 167 [.int own, .int oth, .int c] G0 (fun v G' => ∃ y : Int32, v = some (.int y) ∧ G0 = G' ∧ ((0 : Int) ≤ y.toInt ∧ y.toInt ≤ 1)) := by
  have c0_ : ((Int8.ofInt 9).toInt32).toInt = 9 := by decide
  have c1_ : (Int32.ofInt 0).toInt = 0 := by decide
  have c2_ : (Int32.ofInt 1).toInt = 1 := by decide
  refine pj_Y_X (M := pj_m167) rfl rfl (Nat.le_of_ble_eq_true rfl) ?_
  have hK : pj_kpt ([], [], []) G0 G0 := pj_kpt_r _ _
  show pj_X _ _ G0 0 [(0, .int own), (1, .int oth), (2, .int c)] [] _
  refine pj_X_of (fun r h => pj_R_to (G0, 2, [(3, .int (Int32.ofInt 1)), (0, .int own), (1, .int oth), (2, .int c)], [], 0, 0) 2 3 (fun _ => rfl) h) ?_
  exact pj_X_sub [(0, .int own), (1, .int oth), (2, .int c), (3, .int (Int32.ofInt 1))] (show List.Nodup [0, 1, 2, 3] by decide) ⟨rfl, rfl, rfl, rfl, trivial⟩ ((lp_ct_167 G0 hI own oth c  10) (Int32.ofInt 1) ⟨by omega, by omega⟩ (by omega))
theorem ct_16 (G0 : pj_G) (hI : pj_Inv G0) (what : Int32) (v : Int32) : pj_Y 1 16 [.int what, .int v] G0 (fun v G' => ∃ y : Int32, v = some (.int y) ∧ G0 = G' ∧ ((0 : Int) ≤ y.toInt ∧ y.toInt ≤ 1)) := by
  have c0_ : ((Int8.ofInt 18).toInt32).toInt = 18 := by decide
  have c1_ : ((Int8.ofInt 6).toInt32).toInt = 6 := by decide
  have c2_ : (Int32.ofInt 0).toInt = 0 := by decide
  have c3_ : (Int32.ofInt 1).toInt = 1 := by decide
  refine pj_Y_X (M := pj_m16) rfl rfl (Nat.le_of_ble_eq_true rfl) ?_
  have hK : pj_kpt ([], [], []) G0 G0 := pj_kpt_r _ _
  show pj_X _ _ G0 0 [(0, .int what), (1, .int v)] [] _
  refine pj_X_of (fun r h => pj_R_to (G0, 1, [(0, .int what), (1, .int v)], [.int what], 0, 0) 1 2 (fun _ => rfl) h) ?_
  by_cases t1 : what.toInt = 0
  · refine pj_X_of (fun r h => pj_R_tw 32 rfl (n := 0) t1 rfl h) ?_
    refine pj_X_of (fun r h => pj_R_to (G0, 33, [(0, .int what), (1, .int v)], [.int v], 0, 0) 33 2 (fun _ => rfl) h) ?_
    cases b2 : pj_c1 .lt v 0 with
    | true =>
      have ub2 := pj_u0_ltT b2
      refine pj_X_of (fun r h => pj_R_ifT 46 rfl rfl b2 h) ?_
      refine pj_X_of (fun r h => pj_R_to (G0, 47, [(0, .int what), (1, .int v)], [.int (Int32.ofInt 0)], 0, 0) 47 2 (fun _ => rfl) h) ?_
      exact pj_X_rt rfl rfl ⟨_, rfl, rfl, ⟨by omega, by omega⟩⟩
    | false =>
      have ub2 := pj_u0_ltF b2
      refine pj_X_of (fun r h => pj_R_ifF rfl b2 h) ?_
      refine pj_X_of (fun r h => pj_R_to (G0, 39, [(0, .int what), (1, .int v)], [.int ((Int8.ofInt 18).toInt32), .int v], 0, 0) 39 3 (fun _ => rfl) h) ?_
      cases b3 : pj_c1 .gt v ((Int8.ofInt 18).toInt32) with
      | true =>
        have ub3 := pj_u_gtT b3
        refine pj_X_of (fun r h => pj_R_icT 46 rfl rfl b3 h) ?_
        refine pj_X_of (fun r h => pj_R_to (G0, 47, [(0, .int what), (1, .int v)], [.int (Int32.ofInt 0)], 0, 0) 47 2 (fun _ => rfl) h) ?_
        exact pj_X_rt rfl rfl ⟨_, rfl, rfl, ⟨by omega, by omega⟩⟩
      | false =>
        have ub3 := pj_u_gtF b3
        refine pj_X_of (fun r h => pj_R_icF rfl b3 h) ?_
        refine pj_X_of (fun r h => pj_R_to (G0, 47, [(0, .int what), (1, .int v)], [.int (Int32.ofInt 1)], 0, 0) 47 3 (fun _ => rfl) h) ?_
        exact pj_X_rt rfl rfl ⟨_, rfl, rfl, ⟨by omega, by omega⟩⟩
  by_cases t4 : what.toInt = 1
  · refine pj_X_of (fun r h => pj_R_tw 32 rfl (n := 1) t4 rfl h) ?_
    refine pj_X_of (fun r h => pj_R_to (G0, 33, [(0, .int what), (1, .int v)], [.int v], 0, 0) 33 2 (fun _ => rfl) h) ?_
    cases b5 : pj_c1 .lt v 0 with
    | true =>
      have ub5 := pj_u0_ltT b5
      refine pj_X_of (fun r h => pj_R_ifT 46 rfl rfl b5 h) ?_
      refine pj_X_of (fun r h => pj_R_to (G0, 47, [(0, .int what), (1, .int v)], [.int (Int32.ofInt 0)], 0, 0) 47 2 (fun _ => rfl) h) ?_
      exact pj_X_rt rfl rfl ⟨_, rfl, rfl, ⟨by omega, by omega⟩⟩
    | false =>
      have ub5 := pj_u0_ltF b5
      refine pj_X_of (fun r h => pj_R_ifF rfl b5 h) ?_
      refine pj_X_of (fun r h => pj_R_to (G0, 39, [(0, .int what), (1, .int v)], [.int ((Int8.ofInt 18).toInt32), .int v], 0, 0) 39 3 (fun _ => rfl) h) ?_
      cases b6 : pj_c1 .gt v ((Int8.ofInt 18).toInt32) with
      | true =>
        have ub6 := pj_u_gtT b6
        refine pj_X_of (fun r h => pj_R_icT 46 rfl rfl b6 h) ?_
        refine pj_X_of (fun r h => pj_R_to (G0, 47, [(0, .int what), (1, .int v)], [.int (Int32.ofInt 0)], 0, 0) 47 2 (fun _ => rfl) h) ?_
        exact pj_X_rt rfl rfl ⟨_, rfl, rfl, ⟨by omega, by omega⟩⟩
      | false =>
        have ub6 := pj_u_gtF b6
        refine pj_X_of (fun r h => pj_R_icF rfl b6 h) ?_
        refine pj_X_of (fun r h => pj_R_to (G0, 47, [(0, .int what), (1, .int v)], [.int (Int32.ofInt 1)], 0, 0) 47 3 (fun _ => rfl) h) ?_
        exact pj_X_rt rfl rfl ⟨_, rfl, rfl, ⟨by omega, by omega⟩⟩
  by_cases t7 : what.toInt = 2
  · refine pj_X_of (fun r h => pj_R_tw 48 rfl (n := 2) t7 rfl h) ?_
    refine pj_X_of (fun r h => pj_R_to (G0, 49, [(0, .int what), (1, .int v)], [.int v], 0, 0) 49 2 (fun _ => rfl) h) ?_
    cases b8 : pj_c1 .lt v 0 with
    | true =>
      have ub8 := pj_u0_ltT b8
      refine pj_X_of (fun r h => pj_R_ifT 62 rfl rfl b8 h) ?_
      refine pj_X_of (fun r h => pj_R_to (G0, 63, [(0, .int what), (1, .int v)], [.int (Int32.ofInt 0)], 0, 0) 63 2 (fun _ => rfl) h) ?_
      exact pj_X_rt rfl rfl ⟨_, rfl, rfl, ⟨by omega, by omega⟩⟩
    | false =>
      have ub8 := pj_u0_ltF b8
      refine pj_X_of (fun r h => pj_R_ifF rfl b8 h) ?_
      refine pj_X_of (fun r h => pj_R_to (G0, 55, [(0, .int what), (1, .int v)], [.int ((Int8.ofInt 6).toInt32), .int v], 0, 0) 55 3 (fun _ => rfl) h) ?_
      cases b9 : pj_c1 .gt v ((Int8.ofInt 6).toInt32) with
      | true =>
        have ub9 := pj_u_gtT b9
        refine pj_X_of (fun r h => pj_R_icT 62 rfl rfl b9 h) ?_
        refine pj_X_of (fun r h => pj_R_to (G0, 63, [(0, .int what), (1, .int v)], [.int (Int32.ofInt 0)], 0, 0) 63 2 (fun _ => rfl) h) ?_
        exact pj_X_rt rfl rfl ⟨_, rfl, rfl, ⟨by omega, by omega⟩⟩
      | false =>
        have ub9 := pj_u_gtF b9
        refine pj_X_of (fun r h => pj_R_icF rfl b9 h) ?_
        refine pj_X_of (fun r h => pj_R_to (G0, 63, [(0, .int what), (1, .int v)], [.int (Int32.ofInt 1)], 0, 0) 63 3 (fun _ => rfl) h) ?_
        exact pj_X_rt rfl rfl ⟨_, rfl, rfl, ⟨by omega, by omega⟩⟩
  by_cases t10 : what.toInt = 3
  · refine pj_X_of (fun r h => pj_R_tw 64 rfl (n := 3) t10 rfl h) ?_
    refine pj_X_of (fun r h => pj_R_to (G0, 65, [(0, .int what), (1, .int v)], [.int v], 0, 0) 65 2 (fun _ => rfl) h) ?_
    cases b11 : pj_c1 .eq v 0 with
    | true =>
      have ub11 := pj_u0_eqT b11
      refine pj_X_of (fun r h => pj_R_ifT 73 rfl rfl b11 h) ?_
      refine pj_X_of (fun r h => pj_R_to (G0, 78, [(0, .int what), (1, .int v)], [.int (Int32.ofInt 1)], 0, 0) 78 3 (fun _ => rfl) h) ?_
      exact pj_X_rt rfl rfl ⟨_, rfl, rfl, ⟨by omega, by omega⟩⟩
    | false =>
      have ub11 := pj_u0_eqF b11
      refine pj_X_of (fun r h => pj_R_ifF rfl b11 h) ?_
      refine pj_X_of (fun r h => pj_R_to (G0, 70, [(0, .int what), (1, .int v)], [.int (Int32.ofInt 1), .int v], 0, 0) 70 3 (fun _ => rfl) h) ?_
      cases b12 : pj_c1 .ne v (Int32.ofInt 1) with
      | true =>
        have ub12 := pj_u_neT b12
        refine pj_X_of (fun r h => pj_R_icT 77 rfl rfl b12 h) ?_
        refine pj_X_of (fun r h => pj_R_to (G0, 78, [(0, .int what), (1, .int v)], [.int (Int32.ofInt 0)], 0, 0) 78 2 (fun _ => rfl) h) ?_
        exact pj_X_rt rfl rfl ⟨_, rfl, rfl, ⟨by omega, by omega⟩⟩
      | false =>
        have ub12 := pj_u_neF b12
        refine pj_X_of (fun r h => pj_R_icF rfl b12 h) ?_
        refine pj_X_of (fun r h => pj_R_to (G0, 78, [(0, .int what), (1, .int v)], [.int (Int32.ofInt 1)], 0, 0) 78 3 (fun _ => rfl) h) ?_
        exact pj_X_rt rfl rfl ⟨_, rfl, rfl, ⟨by omega, by omega⟩⟩
  refine pj_X_of (fun r h => pj_R_td 79 rfl (by omega) rfl h) ?_
  refine pj_X_of (fun r h => pj_R_to (G0, 80, [(0, .int what), (1, .int v)], [.int (Int32.ofInt 0)], 0, 0) 80 2 (fun _ => rfl) h) ?_
  exact pj_X_rt rfl rfl ⟨_, rfl, rfl, ⟨by omega, by omega⟩⟩
theorem ct_6 (G0 : pj_G) (hI : pj_Inv G0) (p : Int32) (n : Int32) : pj_Y 1 6 [.ref 38, .int p, .int n] G0 (fun v G' => ∃ y : Int32, v = some (.int y) ∧ G0 = G' ∧ ((0 : Int) ≤ y.toInt ∧ y.toInt ≤ 1) ∧ (1 ≤ y.toInt → 0 ≤ n.toInt ∧ n.toInt ≤ 12)) := by
  have c0_ : ((Int8.ofInt 10).toInt32).toInt = 10 := by decide
  have c1_ : ((Int8.ofInt 12).toInt32).toInt = 12 := by decide
  have c2_ : (Int32.ofInt 0).toInt = 0 := by decide
  have c3_ : (Int32.ofInt 1).toInt = 1 := by decide
  refine pj_Y_X (M := pj_m6) rfl rfl (Nat.le_of_ble_eq_true rfl) ?_
  have hK : pj_kpt ([], [], []) G0 G0 := pj_kpt_r _ _
  show pj_X _ _ G0 0 [(0, .ref 38), (1, .int p), (2, .int n)] [] _
  refine pj_X_of (fun r h => pj_R_to (G0, 1, [(0, .ref 38), (1, .int p), (2, .int n)], [.int p], 0, 0) 1 2 (fun _ => rfl) h) ?_
  cases b1 : pj_c1 .lt p 0 with
  | true =>
    have ub1 := pj_u0_ltT b1
    refine pj_X_of (fun r h => pj_R_ifT 24 rfl rfl b1 h) ?_
    refine pj_X_of (fun r h => pj_R_to (G0, 25, [(0, .ref 38), (1, .int p), (2, .int n)], [.int (Int32.ofInt 0)], 0, 0) 25 2 (fun _ => rfl) h) ?_
    exact pj_X_rt rfl rfl ⟨_, rfl, rfl, ⟨by omega, by omega⟩, by omega⟩
  | false =>
    have ub1 := pj_u0_ltF b1
    refine pj_X_of (fun r h => pj_R_ifF rfl b1 h) ?_
    refine pj_X_of (fun r h => pj_R_to (G0, 7, [(0, .ref 38), (1, .int p), (2, .int n)], [.int ((Int8.ofInt 10).toInt32), .int p], 0, 0) 7 3 (fun _ => rfl) h) ?_
    cases b2 : pj_c1 .gt p ((Int8.ofInt 10).toInt32) with
    | true =>
      have ub2 := pj_u_gtT b2
      refine pj_X_of (fun r h => pj_R_icT 24 rfl rfl b2 h) ?_
      refine pj_X_of (fun r h => pj_R_to (G0, 25, [(0, .ref 38), (1, .int p), (2, .int n)], [.int (Int32.ofInt 0)], 0, 0) 25 2 (fun _ => rfl) h) ?_
      exact pj_X_rt rfl rfl ⟨_, rfl, rfl, ⟨by omega, by omega⟩, by omega⟩
    | false =>
      have ub2 := pj_u_gtF b2
      refine pj_X_of (fun r h => pj_R_icF rfl b2 h) ?_
      refine pj_X_of (fun r h => pj_R_to (G0, 11, [(0, .ref 38), (1, .int p), (2, .int n)], [.int n], 0, 0) 11 2 (fun _ => rfl) h) ?_
      cases b3 : pj_c1 .lt n 0 with
      | true =>
        have ub3 := pj_u0_ltT b3
        refine pj_X_of (fun r h => pj_R_ifT 24 rfl rfl b3 h) ?_
        refine pj_X_of (fun r h => pj_R_to (G0, 25, [(0, .ref 38), (1, .int p), (2, .int n)], [.int (Int32.ofInt 0)], 0, 0) 25 2 (fun _ => rfl) h) ?_
        exact pj_X_rt rfl rfl ⟨_, rfl, rfl, ⟨by omega, by omega⟩, by omega⟩
      | false =>
        have ub3 := pj_u0_ltF b3
        refine pj_X_of (fun r h => pj_R_ifF rfl b3 h) ?_
        refine pj_X_of (fun r h => pj_R_to (G0, 17, [(0, .ref 38), (1, .int p), (2, .int n)], [.int ((Int8.ofInt 12).toInt32), .int n], 0, 0) 17 3 (fun _ => rfl) h) ?_
        cases b4 : pj_c1 .gt n ((Int8.ofInt 12).toInt32) with
        | true =>
          have ub4 := pj_u_gtT b4
          refine pj_X_of (fun r h => pj_R_icT 24 rfl rfl b4 h) ?_
          refine pj_X_of (fun r h => pj_R_to (G0, 25, [(0, .ref 38), (1, .int p), (2, .int n)], [.int (Int32.ofInt 0)], 0, 0) 25 2 (fun _ => rfl) h) ?_
          exact pj_X_rt rfl rfl ⟨_, rfl, rfl, ⟨by omega, by omega⟩, by omega⟩
        | false =>
          have ub4 := pj_u_gtF b4
          refine pj_X_of (fun r h => pj_R_icF rfl b4 h) ?_
          refine pj_X_of (fun r h => pj_R_to (G0, 25, [(0, .ref 38), (1, .int p), (2, .int n)], [.int (Int32.ofInt 1)], 0, 0) 25 3 (fun _ => rfl) h) ?_
          exact pj_X_rt rfl rfl ⟨_, rfl, rfl, ⟨by omega, by omega⟩, by omega⟩
