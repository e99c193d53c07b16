def kc_77 : pj_KT := ([(2, 1)], [2, 3], [3])
theorem lp_ct_77 (G0 : pj_G) (hI0 : pj_Inv G0) (w : Int32) : ∀ mn : Nat, (∀ (G : pj_G) (hI : pj_Inv G) (hK : pj_kpt kc_77 G0 G) (v2 : Int32), ((-8 : Int) ≤ v2.toInt ∧ v2.toInt ≤ 24) → (v2.toInt % 8 = 0) → (8 * (pj_fi G 2 1).toInt + v2.toInt ≤ 632) → v2.toInt + 8 < (mn : Int) → pj_X 0 pj_m77 G 14 [(0, .ref 2), (1, .int w), (2, .int v2)] [] (fun v G' => ∃ y : Int32, v = some (.int y) ∧ pj_Inv G' ∧ pj_kpt kc_77 G0 G' ∧ ((-1 : Int) ≤ y.toInt ∧ y.toInt ≤ 80))) := by
  have c0_ : ((Int16.ofInt 255).toInt32).toInt = 255 := by decide
  have c1_ : ((Int8.ofInt 24).toInt32).toInt = 24 := by decide
  have c2_ : ((Int8.ofInt 76).toInt32).toInt = 76 := by decide
  have c3_ : (Int32.ofInt (-1)).toInt = -1 := by decide
  have c4_ : (Int32.ofInt (-8)).toInt = -8 := by decide
  have c5_ : (Int32.ofInt 1).toInt = 1 := by decide
  intro mn
  induction mn with
  | zero =>
    intro G hI hK v2 rv2 x0_ x1_ hm
    exfalso
    omega
  | succ mn ih =>
    intro G hI hK v2 rv2 x0_ x1_ hm
    refine pj_X_of (fun r h => pj_R_to (G, 15, [(0, .ref 2), (1, .int w), (2, .int v2)], [.int v2], 0, 0) 15 2 (fun _ => rfl) h) ?_
    cases b1 : pj_c1 .lt v2 0 with
    | true =>
      have ub1 := pj_u0_ltT b1
      refine pj_X_of (fun r h => pj_R_ifT 50 rfl rfl b1 h) ?_
      refine pj_X_of (fun r h => pj_R_to (G, 51, [(0, .ref 2), (1, .int w), (2, .int v2)], [.ref 2], 0, 0) 51 2 (fun _ => rfl) h) ?_
      refine pj_X_of (fun r h => pj_T_gi hI rfl rfl h) ?_
      show pj_X _ _ G 54 [(0, .ref 2), (1, .int w), (2, .int v2)] [.int (pj_fi G 2 1)] _
      obtain ⟨y2, hy2⟩ : ∃ z : Int32, z = pj_fi G 2 1 := ⟨_, rfl⟩
      rw [← hy2]
      have ey2 : (pj_fi G 2 1).toInt = y2.toInt := by rw [hy2]
      have ry2 : (0 : Int) ≤ y2.toInt ∧ y2.toInt ≤ 80 := by rw [hy2]; exact hI.2.1 2 1 (0, 80) rfl
      exact pj_X_rt rfl rfl ⟨_, rfl, hI, hK, ⟨by omega, by omega⟩⟩
    | false =>
      have ub1 := pj_u0_ltF b1
      refine pj_X_of (fun r h => pj_R_ifF rfl b1 h) ?_
      refine pj_X_of (fun r h => pj_R_to (G, 19, [(0, .ref 2), (1, .int w), (2, .int v2)], [.ref 2], 0, 0) 19 2 (fun _ => rfl) h) ?_
      refine pj_X_of (fun r h => pj_T_gr hI rfl rfl rfl h) ?_
      refine pj_X_of (fun r h => pj_R_to (G, 23, [(0, .ref 2), (1, .int w), (2, .int v2)], [.ref 2, .ref 3], 0, 0) 23 2 (fun _ => rfl) h) ?_
      refine pj_X_of (fun r h => pj_T_gi hI rfl rfl h) ?_
      show pj_X _ _ G 26 [(0, .ref 2), (1, .int w), (2, .int v2)] [.int (pj_fi G 2 1), .ref 3] _
      obtain ⟨y3, hy3⟩ : ∃ z : Int32, z = pj_fi G 2 1 := ⟨_, rfl⟩
      rw [← hy3]
      have ey3 : (pj_fi G 2 1).toInt = y3.toInt := by rw [hy3]
      have ry3 : (0 : Int) ≤ y3.toInt ∧ y3.toInt ≤ 80 := by rw [hy3]; exact hI.2.1 2 1 (0, 80) rfl
      refine pj_X_of (fun r h => pj_R_to (G, 29, [(0, .ref 2), (1, .int w), (2, .int v2)], [.int ((w.toUInt32 >>> (v2.toUInt32 &&& Int32.toUInt32 31)).toInt32), .int y3, .ref 3], 0, 0) 29 4 (fun _ => rfl) h) ?_
      obtain ⟨z4, hz4⟩ : ∃ z : Int32, z = (w.toUInt32 >>> (v2.toUInt32 &&& Int32.toUInt32 31)).toInt32 := ⟨_, rfl⟩
      rw [← hz4]
      refine pj_X_of (fun r h => pj_R_to (G, 33, [(0, .ref 2), (1, .int w), (2, .int v2)], [.int (z4 &&& ((Int16.ofInt 255).toInt32)), .int y3, .ref 3], 0, 0) 33 3 (fun _ => rfl) h) ?_
      obtain ⟨z5, hz5⟩ : ∃ z : Int32, z = z4 &&& ((Int16.ofInt 255).toInt32) := ⟨_, rfl⟩
      rw [← hz5]
      have fz5_0 : 0 ≤ z5.toInt ∧ z5.toInt ≤ ((Int16.ofInt 255).toInt32).toInt := by rw [hz5]; exact pj_andI (by omega)
      refine pj_X_of (fun r h => pj_T_is hI rfl rfl (by omega) (by omega) h) ?_
      show pj_X _ _ (pj_wa G 3 y3.toInt.toNat z5) 34 [(0, .ref 2), (1, .int w), (2, .int v2)] [] _
      obtain ⟨G6, hG6⟩ : ∃ H, H = pj_wa G 3 y3.toInt.toNat z5 := ⟨_, rfl⟩
      have iG6 : pj_Inv G6 := by rw [hG6]; exact pj_Inv_wa hI rfl (fun q hq => by cases hq; exact ⟨by show (0 : Int) ≤ _; omega, by show _ ≤ (255 : Int); omega, by show _ ≤ (0 : Int) ∨ (0 : Int) ≤ _; omega⟩) (fun n hn => by cases hn)
      have kG6 : pj_kpt kc_77 G0 G6 := by rw [hG6]; exact pj_kpt_a hK rfl
      rw [← hG6]
      refine pj_X_of (fun r h => pj_R_to (G6, 36, [(0, .ref 2), (1, .int w), (2, .int v2)], [.ref 2, .ref 2], 0, 0) 36 3 (fun _ => rfl) h) ?_
      refine pj_X_of (fun r h => pj_T_gi iG6 rfl rfl h) ?_
      show pj_X _ _ G6 39 [(0, .ref 2), (1, .int w), (2, .int v2)] [.int (pj_fi G6 2 1), .ref 2] _
      rw [show pj_fi G6 2 1 = y3 from by rw [hG6, pj_fi_wa]; exact hy3.symm]
      refine pj_X_of (fun r h => pj_R_to (G6, 41, [(0, .ref 2), (1, .int w), (2, .int v2)], [.int (y3 + (Int32.ofInt 1)), .ref 2], 0, 0) 41 3 (fun _ => rfl) h) ?_
      obtain ⟨z7, hz7⟩ : ∃ z : Int32, z = y3 + (Int32.ofInt 1) := ⟨_, rfl⟩
      rw [← hz7]
      have fz7_0 : z7.toInt = y3.toInt + (Int32.ofInt 1).toInt := by rw [hz7]; exact pj_addI (by have := pj_i32 y3; have := pj_i32 (Int32.ofInt 1); omega) (by have := pj_i32 y3; have := pj_i32 (Int32.ofInt 1); omega)
      refine pj_X_of (fun r h => pj_T_pf iG6 rfl rfl rfl h) ?_
      show pj_X _ _ (pj_wv G6 2 1 (.int z7)) 44 [(0, .ref 2), (1, .int w), (2, .int v2)] [] _
      obtain ⟨G8, hG8⟩ : ∃ H, H = pj_wv G6 2 1 (.int z7) := ⟨_, rfl⟩
      have iG8 : pj_Inv G8 := by rw [hG8]; exact pj_Inv_wi iG6 (ci := 9) rfl (fun q hq => by cases hq; exact ⟨by show (0 : Int) ≤ _; omega, by show _ ≤ (80 : Int); omega⟩)
      have kG8 : pj_kpt kc_77 G0 G8 := by rw [hG8]; exact pj_kpt_v kG6 rfl
      rw [← hG8]
      refine pj_X_of (fun r h => pj_R_to (G8, 47, [(2, .int (v2 + Int32.ofInt (-8))), (0, .ref 2), (1, .int w)], [], 0, 0) 47 2 (fun _ => rfl) h) ?_
      obtain ⟨z9, hz9⟩ : ∃ z : Int32, z = v2 + Int32.ofInt (-8) := ⟨_, rfl⟩
      rw [← hz9]
      have fz9_0 : z9.toInt = v2.toInt + (Int32.ofInt (-8)).toInt := by rw [hz9]; exact pj_addI (by have := pj_i32 v2; have := pj_i32 (Int32.ofInt (-8)); omega) (by have := pj_i32 v2; have := pj_i32 (Int32.ofInt (-8)); omega)
      refine pj_X_of (fun r h => pj_R_to (G8, 14, [(2, .int z9), (0, .ref 2), (1, .int w)], [], 0, 0) 14 2 (fun _ => rfl) h) ?_
      have q10 : (pj_fi G8 2 1).toInt = z7.toInt := by rw [show pj_fi G8 2 1 = z7 from by rw [hG8]; exact pj_fi_wi iG6.1 (ci := 9) rfl _]
      exact pj_X_sub [(0, .ref 2), (1, .int w), (2, .int z9)] (show List.Nodup [0, 1, 2] by decide) ⟨rfl, rfl, rfl, trivial⟩ (ih G8 iG8 kG8 z9 ⟨by omega, by omega⟩ (by omega) (by omega) (by omega))
theorem ct_77 (G0 : pj_G) (hI : pj_Inv G0) (w : Int32) : pj_Y 1 77 [.ref 2, .int w] G0 (fun v G' => ∃ y : Int32, v = some (.int y) ∧ pj_Inv G' ∧ pj_kpt kc_77 G0 G' ∧ ((-1 : Int) ≤ y.toInt ∧ y.toInt ≤ 80)) := by
  have c0_ : ((Int16.ofInt 255).toInt32).toInt = 255 := by decide
  have c1_ : ((Int8.ofInt 24).toInt32).toInt = 24 := by decide
  have c2_ : ((Int8.ofInt 76).toInt32).toInt = 76 := by decide
  have c3_ : (Int32.ofInt (-1)).toInt = -1 := by decide
  have c4_ : (Int32.ofInt (-8)).toInt = -8 := by decide
  have c5_ : (Int32.ofInt 1).toInt = 1 := by decide
  refine pj_Y_X (M := pj_m77) rfl rfl (Nat.le_of_ble_eq_true rfl) ?_
  have hK : pj_kpt kc_77 G0 G0 := pj_kpt_r _ _
  show pj_X _ _ G0 0 [(0, .ref 2), (1, .int w)] [] _
  refine pj_X_of (fun r h => pj_R_to (G0, 1, [(0, .ref 2), (1, .int w)], [.ref 2], 0, 0) 1 2 (fun _ => rfl) h) ?_
  refine pj_X_of (fun r h => pj_T_gi hI rfl rfl h) ?_
  show pj_X _ _ G0 4 [(0, .ref 2), (1, .int w)] [.int (pj_fi G0 2 1)] _
  obtain ⟨y11, hy11⟩ : ∃ z : Int32, z = pj_fi G0 2 1 := ⟨_, rfl⟩
  rw [← hy11]
  have ey11 : (pj_fi G0 2 1).toInt = y11.toInt := by rw [hy11]
  have ry11 : (0 : Int) ≤ y11.toInt ∧ y11.toInt ≤ 80 := by rw [hy11]; exact hI.2.1 2 1 (0, 80) rfl
  refine pj_X_of (fun r h => pj_R_to (G0, 6, [(0, .ref 2), (1, .int w)], [.int ((Int8.ofInt 76).toInt32), .int y11], 0, 0) 6 2 (fun _ => rfl) h) ?_
  cases b12 : pj_c1 .le y11 ((Int8.ofInt 76).toInt32) with
  | true =>
    have ub12 := pj_u_leT b12
    refine pj_X_of (fun r h => pj_R_icT 11 rfl rfl b12 h) ?_
    refine pj_X_of (fun r h => pj_R_to (G0, 14, [(2, .int ((Int8.ofInt 24).toInt32)), (0, .ref 2), (1, .int w)], [], 0, 0) 14 3 (fun _ => rfl) h) ?_
    have q13 : (pj_fi G0 2 1).toInt = y11.toInt := by rw [show pj_fi G0 2 1 = y11 from hy11.symm]
    exact pj_X_sub [(0, .ref 2), (1, .int w), (2, .int ((Int8.ofInt 24).toInt32))] (show List.Nodup [0, 1, 2] by decide) ⟨rfl, rfl, rfl, trivial⟩ ((lp_ct_77 G0 hI w  41) G0 hI hK ((Int8.ofInt 24).toInt32) ⟨by omega, by omega⟩ (by omega) (by omega) (by omega))
  | false =>
    have ub12 := pj_u_leF b12
    refine pj_X_of (fun r h => pj_R_icF rfl b12 h) ?_
    refine pj_X_of (fun r h => pj_R_to (G0, 10, [(0, .ref 2), (1, .int w)], [.int (Int32.ofInt (-1))], 0, 0) 10 2 (fun _ => rfl) h) ?_
    exact pj_X_rt rfl rfl ⟨_, rfl, hI, hK, ⟨by omega, by omega⟩⟩
def kc_117 : pj_KT := ([(2, 1)], [2, 3], [3])
theorem ct_117 (G0 : pj_G) (hI : pj_Inv G0) (w : Int32) : pj_Y 2 117 [.ref 1, .int w] G0 (fun v G' => ∃ y : Int32, v = some (.int y) ∧ pj_Inv G' ∧ pj_kpt kc_117 G0 G' ∧ ((-2147483648 : Int) ≤ y.toInt ∧ y.toInt ≤ 2147483647)) := by
  refine pj_Y_X (M := pj_m117) rfl rfl (Nat.le_of_ble_eq_true rfl) ?_
  have hK : pj_kpt kc_117 G0 G0 := pj_kpt_r _ _
  show pj_X _ _ G0 0 [(0, .ref 1), (1, .int w)] [] _
  refine pj_X_of (fun r h => pj_R_to (G0, 1, [(0, .ref 1), (1, .int w)], [.ref 1], 0, 0) 1 2 (fun _ => rfl) h) ?_
  refine pj_X_of (fun r h => pj_T_gr hI rfl rfl rfl h) ?_
  refine pj_X_of (fun r h => pj_R_to (G0, 5, [(0, .ref 1), (1, .int w)], [.int w, .ref 2], 0, 0) 5 2 (fun _ => rfl) h) ?_
  refine pj_X_ca (vs := [.ref 2, .int w]) rfl (fun _ => rfl) ⟨Nat.le_of_ble_eq_true rfl, Nat.le_of_ble_eq_true rfl, pj_T_rcv hI rfl⟩ ⟨rfl, rfl⟩ (pj_Y_up (by decide) (ct_77 G0 hI w)) ?_
  rintro _ G2 ⟨y1, rfl, iG2, jG2, ry1⟩
  have kG2 : pj_kpt kc_117 G0 G2 := pj_kpt_t hK (pj_kpt_s jG2 rfl)
  show pj_X _ _ G2 8 [(0, .ref 1), (1, .int w)] [.int y1] _
  exact pj_X_rt rfl rfl ⟨_, rfl, iG2, kG2, pj_i32 _⟩
def kc_60 : pj_KT := ([(27, 3)], [27, 28, 29], [28, 29])
theorem ct_60 (G0 : pj_G) (hI : pj_Inv G0) (sp : Int32) (p0_ : 0 ≤ sp.toInt ∧ sp.toInt ≤ 3255 ∧ (sp.toInt ≤ 1006 ∨ 2000 ≤ sp.toInt)) : pj_Y 1 60 [.ref 27, .int sp] G0 (fun v G' => v = none ∧ pj_Inv G' ∧ pj_kpt kc_60 G0 G') := by
  have c0_ : ((Int8.ofInt 40).toInt32).toInt = 40 := by decide
  have c1_ : (Int32.ofInt 1).toInt = 1 := by decide
  refine pj_Y_X (M := pj_m60) rfl rfl (Nat.le_of_ble_eq_true rfl) ?_
  have hK : pj_kpt kc_60 G0 G0 := pj_kpt_r _ _
  show pj_X _ _ G0 0 [(0, .ref 27), (1, .int sp)] [] _
  refine pj_X_of (fun r h => pj_R_to (G0, 1, [(0, .ref 27), (1, .int sp)], [.ref 27], 0, 0) 1 2 (fun _ => rfl) h) ?_
  refine pj_X_of (fun r h => pj_T_gi hI rfl rfl h) ?_
  show pj_X _ _ G0 4 [(0, .ref 27), (1, .int sp)] [.int (pj_fi G0 27 3)] _
  obtain ⟨y1, hy1⟩ : ∃ z : Int32, z = pj_fi G0 27 3 := ⟨_, rfl⟩
  rw [← hy1]
  have ey1 : (pj_fi G0 27 3).toInt = y1.toInt := by rw [hy1]
  have ry1 : (0 : Int) ≤ y1.toInt ∧ y1.toInt ≤ 40 := by rw [hy1]; exact hI.2.1 27 3 (0, 40) rfl
  refine pj_X_of (fun r h => pj_R_to (G0, 6, [(0, .ref 27), (1, .int sp)], [.int ((Int8.ofInt 40).toInt32), .int y1], 0, 0) 6 2 (fun _ => rfl) h) ?_
  cases b2 : pj_c1 .ge y1 ((Int8.ofInt 40).toInt32) with
  | true =>
    have ub2 := pj_u_geT b2
    refine pj_X_of (fun r h => pj_R_icT 29 rfl rfl b2 h) ?_
    exact pj_X_rt rfl rfl ⟨rfl, hI, hK⟩
  | false =>
    have ub2 := pj_u_geF b2
    refine pj_X_of (fun r h => pj_R_icF rfl b2 h) ?_
    refine pj_X_of (fun r h => pj_R_to (G0, 10, [(0, .ref 27), (1, .int sp)], [.ref 27], 0, 0) 10 2 (fun _ => rfl) h) ?_
    refine pj_X_gm hI rfl rfl (fun q3 => ?_) (fun q3 => ?_)
    · refine pj_X_of (fun r h => pj_R_to (G0, 14, [(0, .ref 27), (1, .int sp)], [.ref 27, .ref 28], 0, 0) 14 2 (fun _ => rfl) h) ?_
      refine pj_X_of (fun r h => pj_T_gi hI rfl rfl h) ?_
      show pj_X _ _ G0 17 [(0, .ref 27), (1, .int sp)] [.int (pj_fi G0 27 3), .ref 28] _
      rw [show pj_fi G0 27 3 = y1 from hy1.symm]
      refine pj_X_of (fun r h => pj_R_to (G0, 18, [(0, .ref 27), (1, .int sp)], [.int sp, .int y1, .ref 28], 0, 0) 18 2 (fun _ => rfl) h) ?_
      refine pj_X_of (fun r h => pj_T_is hI rfl rfl (by omega) (by omega) h) ?_
      show pj_X _ _ (pj_wa G0 28 y1.toInt.toNat sp) 19 [(0, .ref 27), (1, .int sp)] [] _
      obtain ⟨G4, hG4⟩ : ∃ H, H = pj_wa G0 28 y1.toInt.toNat sp := ⟨_, rfl⟩
      have iG4 : pj_Inv G4 := by rw [hG4]; exact pj_Inv_wa hI rfl (fun q hq => by cases hq; exact ⟨by show (0 : Int) ≤ _; omega, by show _ ≤ (3255 : Int); omega, by show _ ≤ (1006 : Int) ∨ (2000 : Int) ≤ _; omega⟩) (fun n hn => by cases hn)
      have kG4 : pj_kpt kc_60 G0 G4 := by rw [hG4]; exact pj_kpt_a hK rfl
      rw [← hG4]
      refine pj_X_of (fun r h => pj_R_to (G4, 21, [(0, .ref 27), (1, .int sp)], [.ref 27, .ref 27], 0, 0) 21 3 (fun _ => rfl) h) ?_
      refine pj_X_of (fun r h => pj_T_gi iG4 rfl rfl h) ?_
      show pj_X _ _ G4 24 [(0, .ref 27), (1, .int sp)] [.int (pj_fi G4 27 3), .ref 27] _
      rw [show pj_fi G4 27 3 = y1 from by rw [hG4, pj_fi_wa]; exact hy1.symm]
      refine pj_X_of (fun r h => pj_R_to (G4, 26, [(0, .ref 27), (1, .int sp)], [.int (y1 + (Int32.ofInt 1)), .ref 27], 0, 0) 26 3 (fun _ => rfl) h) ?_
      obtain ⟨z5, hz5⟩ : ∃ z : Int32, z = y1 + (Int32.ofInt 1) := ⟨_, rfl⟩
      rw [← hz5]
      have fz5_0 : z5.toInt = y1.toInt + (Int32.ofInt 1).toInt := by rw [hz5]; exact pj_addI (by have := pj_i32 y1; have := pj_i32 (Int32.ofInt 1); omega) (by have := pj_i32 y1; have := pj_i32 (Int32.ofInt 1); omega)
      refine pj_X_of (fun r h => pj_T_pf iG4 rfl rfl rfl h) ?_
      show pj_X _ _ (pj_wv G4 27 3 (.int z5)) 29 [(0, .ref 27), (1, .int sp)] [] _
      obtain ⟨G6, hG6⟩ : ∃ H, H = pj_wv G4 27 3 (.int z5) := ⟨_, rfl⟩
      have iG6 : pj_Inv G6 := by rw [hG6]; exact pj_Inv_wi iG4 (ci := 7) rfl (fun q hq => by cases hq; exact ⟨by show (0 : Int) ≤ _; omega, by show _ ≤ (40 : Int); omega⟩)
      have kG6 : pj_kpt kc_60 G0 G6 := by rw [hG6]; exact pj_kpt_v kG4 rfl
      rw [← hG6]
      exact pj_X_rt rfl rfl ⟨rfl, iG6, kG6⟩
    · refine pj_X_of (fun r h => pj_R_to (G0, 14, [(0, .ref 27), (1, .int sp)], [.ref 27, .ref 29], 0, 0) 14 2 (fun _ => rfl) h) ?_
      refine pj_X_of (fun r h => pj_T_gi hI rfl rfl h) ?_
      show pj_X _ _ G0 17 [(0, .ref 27), (1, .int sp)] [.int (pj_fi G0 27 3), .ref 29] _
      rw [show pj_fi G0 27 3 = y1 from hy1.symm]
      refine pj_X_of (fun r h => pj_R_to (G0, 18, [(0, .ref 27), (1, .int sp)], [.int sp, .int y1, .ref 29], 0, 0) 18 2 (fun _ => rfl) h) ?_
      refine pj_X_of (fun r h => pj_T_is hI rfl rfl (by omega) (by omega) h) ?_
      show pj_X _ _ (pj_wa G0 29 y1.toInt.toNat sp) 19 [(0, .ref 27), (1, .int sp)] [] _
      obtain ⟨G7, hG7⟩ : ∃ H, H = pj_wa G0 29 y1.toInt.toNat sp := ⟨_, rfl⟩
      have iG7 : pj_Inv G7 := by rw [hG7]; exact pj_Inv_wa hI rfl (fun q hq => by cases hq; exact ⟨by show (0 : Int) ≤ _; omega, by show _ ≤ (3255 : Int); omega, by show _ ≤ (1006 : Int) ∨ (2000 : Int) ≤ _; omega⟩) (fun n hn => by cases hn)
      have kG7 : pj_kpt kc_60 G0 G7 := by rw [hG7]; exact pj_kpt_a hK rfl
      rw [← hG7]
      refine pj_X_of (fun r h => pj_R_to (G7, 21, [(0, .ref 27), (1, .int sp)], [.ref 27, .ref 27], 0, 0) 21 3 (fun _ => rfl) h) ?_
      refine pj_X_of (fun r h => pj_T_gi iG7 rfl rfl h) ?_
      show pj_X _ _ G7 24 [(0, .ref 27), (1, .int sp)] [.int (pj_fi G7 27 3), .ref 27] _
      rw [show pj_fi G7 27 3 = y1 from by rw [hG7, pj_fi_wa]; exact hy1.symm]
      refine pj_X_of (fun r h => pj_R_to (G7, 26, [(0, .ref 27), (1, .int sp)], [.int (y1 + (Int32.ofInt 1)), .ref 27], 0, 0) 26 3 (fun _ => rfl) h) ?_
      obtain ⟨z8, hz8⟩ : ∃ z : Int32, z = y1 + (Int32.ofInt 1) := ⟨_, rfl⟩
      rw [← hz8]
      have fz8_0 : z8.toInt = y1.toInt + (Int32.ofInt 1).toInt := by rw [hz8]; exact pj_addI (by have := pj_i32 y1; have := pj_i32 (Int32.ofInt 1); omega) (by have := pj_i32 y1; have := pj_i32 (Int32.ofInt 1); omega)
      refine pj_X_of (fun r h => pj_T_pf iG7 rfl rfl rfl h) ?_
      show pj_X _ _ (pj_wv G7 27 3 (.int z8)) 29 [(0, .ref 27), (1, .int sp)] [] _
      obtain ⟨G9, hG9⟩ : ∃ H, H = pj_wv G7 27 3 (.int z8) := ⟨_, rfl⟩
      have iG9 : pj_Inv G9 := by rw [hG9]; exact pj_Inv_wi iG7 (ci := 7) rfl (fun q hq => by cases hq; exact ⟨by show (0 : Int) ≤ _; omega, by show _ ≤ (40 : Int); omega⟩)
      have kG9 : pj_kpt kc_60 G0 G9 := by rw [hG9]; exact pj_kpt_v kG7 rfl
      rw [← hG9]
      exact pj_X_rt rfl rfl ⟨rfl, iG9, kG9⟩
def kc_59 : pj_KT := ([(27, 0), (27, 1), (27, 2)], [27], [])
theorem ct_59 (G0 : pj_G) (hI : pj_Inv G0) : pj_Y 1 59 [.ref 27] G0 (fun v G' => v = none ∧ pj_Inv G' ∧ pj_kpt kc_59 G0 G') := by
  refine pj_Y_X (M := pj_m59) rfl rfl (Nat.le_of_ble_eq_true rfl) ?_
  have hK : pj_kpt kc_59 G0 G0 := pj_kpt_r _ _
  show pj_X _ _ G0 0 [(0, .ref 27)] [] _
  refine pj_X_of (fun r h => pj_R_to (G0, 1, [(0, .ref 27)], [.ref 27], 0, 0) 1 2 (fun _ => rfl) h) ?_
  refine pj_X_gm hI rfl rfl (fun q1 => ?_) (fun q1 => ?_)
  · refine pj_X_of (fun r h => pj_R_to (G0, 7, [(1, .ref 28), (0, .ref 27)], [.ref 27, .ref 27], 0, 0) 7 4 (fun _ => rfl) h) ?_
    refine pj_X_gm hI rfl rfl (fun q2 => ?_) (fun q2 => ?_)
    · refine pj_X_of (fun r h => pj_T_pf hI rfl rfl rfl h) ?_
      show pj_X _ _ (pj_wv G0 27 0 (.ref 28)) 13 [(1, .ref 28), (0, .ref 27)] [] _
      obtain ⟨G3, hG3⟩ : ∃ H, H = pj_wv G0 27 0 (.ref 28) := ⟨_, rfl⟩
      have iG3 : pj_Inv G3 := by rw [hG3]; exact pj_Inv_wv hI (ci := 7) rfl rfl rfl
      have kG3 : pj_kpt kc_59 G0 G3 := by rw [hG3]; exact pj_kpt_v hK rfl
      rw [← hG3]
      refine pj_X_of (fun r h => pj_R_to (G3, 15, [(1, .ref 28), (0, .ref 27)], [.ref 27, .ref 27], 0, 0) 15 3 (fun _ => rfl) h) ?_
      refine pj_X_of (fun r h => pj_T_gi iG3 rfl rfl h) ?_
      show pj_X _ _ G3 18 [(1, .ref 28), (0, .ref 27)] [.int (pj_fi G3 27 3), .ref 27] _
      obtain ⟨y4, hy4⟩ : ∃ z : Int32, z = pj_fi G3 27 3 := ⟨_, rfl⟩
      rw [← hy4]
      have ey4 : (pj_fi G3 27 3).toInt = y4.toInt := by rw [hy4]
      have ry4 : (0 : Int) ≤ y4.toInt ∧ y4.toInt ≤ 40 := by rw [hy4]; exact iG3.2.1 27 3 (0, 40) rfl
      refine pj_X_of (fun r h => pj_T_pf iG3 rfl rfl rfl h) ?_
      show pj_X _ _ (pj_wv G3 27 1 (.int y4)) 21 [(1, .ref 28), (0, .ref 27)] [] _
      obtain ⟨G5, hG5⟩ : ∃ H, H = pj_wv G3 27 1 (.int y4) := ⟨_, rfl⟩
      have iG5 : pj_Inv G5 := by rw [hG5]; exact pj_Inv_wi iG3 (ci := 7) rfl (fun q hq => by cases hq; exact ⟨by show (0 : Int) ≤ _; omega, by show _ ≤ (40 : Int); omega⟩)
      have kG5 : pj_kpt kc_59 G0 G5 := by rw [hG5]; exact pj_kpt_v kG3 rfl
      rw [← hG5]
      refine pj_X_of (fun r h => pj_R_to (G5, 23, [(1, .ref 28), (0, .ref 27)], [.ref 28, .ref 27], 0, 0) 23 3 (fun _ => rfl) h) ?_
      refine pj_X_of (fun r h => pj_T_pf iG5 rfl rfl rfl h) ?_
      show pj_X _ _ (pj_wv G5 27 2 (.ref 28)) 26 [(1, .ref 28), (0, .ref 27)] [] _
      obtain ⟨G6, hG6⟩ : ∃ H, H = pj_wv G5 27 2 (.ref 28) := ⟨_, rfl⟩
      have iG6 : pj_Inv G6 := by rw [hG6]; exact pj_Inv_wv iG5 (ci := 7) rfl rfl rfl
      have kG6 : pj_kpt kc_59 G0 G6 := by rw [hG6]; exact pj_kpt_v kG5 rfl
      rw [← hG6]
      exact pj_X_rt rfl rfl ⟨rfl, iG6, kG6⟩
    · refine pj_X_of (fun r h => pj_T_pf hI rfl rfl rfl h) ?_
      show pj_X _ _ (pj_wv G0 27 0 (.ref 29)) 13 [(1, .ref 28), (0, .ref 27)] [] _
      obtain ⟨G7, hG7⟩ : ∃ H, H = pj_wv G0 27 0 (.ref 29) := ⟨_, rfl⟩
      have iG7 : pj_Inv G7 := by rw [hG7]; exact pj_Inv_wv hI (ci := 7) rfl rfl rfl
      have kG7 : pj_kpt kc_59 G0 G7 := by rw [hG7]; exact pj_kpt_v hK rfl
      rw [← hG7]
      refine pj_X_of (fun r h => pj_R_to (G7, 15, [(1, .ref 28), (0, .ref 27)], [.ref 27, .ref 27], 0, 0) 15 3 (fun _ => rfl) h) ?_
      refine pj_X_of (fun r h => pj_T_gi iG7 rfl rfl h) ?_
      show pj_X _ _ G7 18 [(1, .ref 28), (0, .ref 27)] [.int (pj_fi G7 27 3), .ref 27] _
      obtain ⟨y8, hy8⟩ : ∃ z : Int32, z = pj_fi G7 27 3 := ⟨_, rfl⟩
      rw [← hy8]
      have ey8 : (pj_fi G7 27 3).toInt = y8.toInt := by rw [hy8]
      have ry8 : (0 : Int) ≤ y8.toInt ∧ y8.toInt ≤ 40 := by rw [hy8]; exact iG7.2.1 27 3 (0, 40) rfl
      refine pj_X_of (fun r h => pj_T_pf iG7 rfl rfl rfl h) ?_
      show pj_X _ _ (pj_wv G7 27 1 (.int y8)) 21 [(1, .ref 28), (0, .ref 27)] [] _
      obtain ⟨G9, hG9⟩ : ∃ H, H = pj_wv G7 27 1 (.int y8) := ⟨_, rfl⟩
      have iG9 : pj_Inv G9 := by rw [hG9]; exact pj_Inv_wi iG7 (ci := 7) rfl (fun q hq => by cases hq; exact ⟨by show (0 : Int) ≤ _; omega, by show _ ≤ (40 : Int); omega⟩)
      have kG9 : pj_kpt kc_59 G0 G9 := by rw [hG9]; exact pj_kpt_v kG7 rfl
      rw [← hG9]
      refine pj_X_of (fun r h => pj_R_to (G9, 23, [(1, .ref 28), (0, .ref 27)], [.ref 28, .ref 27], 0, 0) 23 3 (fun _ => rfl) h) ?_
      refine pj_X_of (fun r h => pj_T_pf iG9 rfl rfl rfl h) ?_
      show pj_X _ _ (pj_wv G9 27 2 (.ref 28)) 26 [(1, .ref 28), (0, .ref 27)] [] _
      obtain ⟨G10, hG10⟩ : ∃ H, H = pj_wv G9 27 2 (.ref 28) := ⟨_, rfl⟩
      have iG10 : pj_Inv G10 := by rw [hG10]; exact pj_Inv_wv iG9 (ci := 7) rfl rfl rfl
      have kG10 : pj_kpt kc_59 G0 G10 := by rw [hG10]; exact pj_kpt_v kG9 rfl
      rw [← hG10]
      exact pj_X_rt rfl rfl ⟨rfl, iG10, kG10⟩
  · refine pj_X_of (fun r h => pj_R_to (G0, 7, [(1, .ref 29), (0, .ref 27)], [.ref 27, .ref 27], 0, 0) 7 4 (fun _ => rfl) h) ?_
    refine pj_X_gm hI rfl rfl (fun q11 => ?_) (fun q11 => ?_)
    · refine pj_X_of (fun r h => pj_T_pf hI rfl rfl rfl h) ?_
      show pj_X _ _ (pj_wv G0 27 0 (.ref 28)) 13 [(1, .ref 29), (0, .ref 27)] [] _
      obtain ⟨G12, hG12⟩ : ∃ H, H = pj_wv G0 27 0 (.ref 28) := ⟨_, rfl⟩
      have iG12 : pj_Inv G12 := by rw [hG12]; exact pj_Inv_wv hI (ci := 7) rfl rfl rfl
      have kG12 : pj_kpt kc_59 G0 G12 := by rw [hG12]; exact pj_kpt_v hK rfl
      rw [← hG12]
      refine pj_X_of (fun r h => pj_R_to (G12, 15, [(1, .ref 29), (0, .ref 27)], [.ref 27, .ref 27], 0, 0) 15 3 (fun _ => rfl) h) ?_
      refine pj_X_of (fun r h => pj_T_gi iG12 rfl rfl h) ?_
      show pj_X _ _ G12 18 [(1, .ref 29), (0, .ref 27)] [.int (pj_fi G12 27 3), .ref 27] _
      obtain ⟨y13, hy13⟩ : ∃ z : Int32, z = pj_fi G12 27 3 := ⟨_, rfl⟩
      rw [← hy13]
      have ey13 : (pj_fi G12 27 3).toInt = y13.toInt := by rw [hy13]
      have ry13 : (0 : Int) ≤ y13.toInt ∧ y13.toInt ≤ 40 := by rw [hy13]; exact iG12.2.1 27 3 (0, 40) rfl
      refine pj_X_of (fun r h => pj_T_pf iG12 rfl rfl rfl h) ?_
      show pj_X _ _ (pj_wv G12 27 1 (.int y13)) 21 [(1, .ref 29), (0, .ref 27)] [] _
      obtain ⟨G14, hG14⟩ : ∃ H, H = pj_wv G12 27 1 (.int y13) := ⟨_, rfl⟩
      have iG14 : pj_Inv G14 := by rw [hG14]; exact pj_Inv_wi iG12 (ci := 7) rfl (fun q hq => by cases hq; exact ⟨by show (0 : Int) ≤ _; omega, by show _ ≤ (40 : Int); omega⟩)
      have kG14 : pj_kpt kc_59 G0 G14 := by rw [hG14]; exact pj_kpt_v kG12 rfl
      rw [← hG14]
      refine pj_X_of (fun r h => pj_R_to (G14, 23, [(1, .ref 29), (0, .ref 27)], [.ref 29, .ref 27], 0, 0) 23 3 (fun _ => rfl) h) ?_
      refine pj_X_of (fun r h => pj_T_pf iG14 rfl rfl rfl h) ?_
      show pj_X _ _ (pj_wv G14 27 2 (.ref 29)) 26 [(1, .ref 29), (0, .ref 27)] [] _
      obtain ⟨G15, hG15⟩ : ∃ H, H = pj_wv G14 27 2 (.ref 29) := ⟨_, rfl⟩
      have iG15 : pj_Inv G15 := by rw [hG15]; exact pj_Inv_wv iG14 (ci := 7) rfl rfl rfl
      have kG15 : pj_kpt kc_59 G0 G15 := by rw [hG15]; exact pj_kpt_v kG14 rfl
      rw [← hG15]
      exact pj_X_rt rfl rfl ⟨rfl, iG15, kG15⟩
    · refine pj_X_of (fun r h => pj_T_pf hI rfl rfl rfl h) ?_
      show pj_X _ _ (pj_wv G0 27 0 (.ref 29)) 13 [(1, .ref 29), (0, .ref 27)] [] _
      obtain ⟨G16, hG16⟩ : ∃ H, H = pj_wv G0 27 0 (.ref 29) := ⟨_, rfl⟩
      have iG16 : pj_Inv G16 := by rw [hG16]; exact pj_Inv_wv hI (ci := 7) rfl rfl rfl
      have kG16 : pj_kpt kc_59 G0 G16 := by rw [hG16]; exact pj_kpt_v hK rfl
      rw [← hG16]
      refine pj_X_of (fun r h => pj_R_to (G16, 15, [(1, .ref 29), (0, .ref 27)], [.ref 27, .ref 27], 0, 0) 15 3 (fun _ => rfl) h) ?_
      refine pj_X_of (fun r h => pj_T_gi iG16 rfl rfl h) ?_
      show pj_X _ _ G16 18 [(1, .ref 29), (0, .ref 27)] [.int (pj_fi G16 27 3), .ref 27] _
      obtain ⟨y17, hy17⟩ : ∃ z : Int32, z = pj_fi G16 27 3 := ⟨_, rfl⟩
      rw [← hy17]
      have ey17 : (pj_fi G16 27 3).toInt = y17.toInt := by rw [hy17]
      have ry17 : (0 : Int) ≤ y17.toInt ∧ y17.toInt ≤ 40 := by rw [hy17]; exact iG16.2.1 27 3 (0, 40) rfl
      refine pj_X_of (fun r h => pj_T_pf iG16 rfl rfl rfl h) ?_
      show pj_X _ _ (pj_wv G16 27 1 (.int y17)) 21 [(1, .ref 29), (0, .ref 27)] [] _
      obtain ⟨G18, hG18⟩ : ∃ H, H = pj_wv G16 27 1 (.int y17) := ⟨_, rfl⟩
      have iG18 : pj_Inv G18 := by rw [hG18]; exact pj_Inv_wi iG16 (ci := 7) rfl (fun q hq => by cases hq; exact ⟨by show (0 : Int) ≤ _; omega, by show _ ≤ (40 : Int); omega⟩)
      have kG18 : pj_kpt kc_59 G0 G18 := by rw [hG18]; exact pj_kpt_v kG16 rfl
      rw [← hG18]
      refine pj_X_of (fun r h => pj_R_to (G18, 23, [(1, .ref 29), (0, .ref 27)], [.ref 29, .ref 27], 0, 0) 23 3 (fun _ => rfl) h) ?_
      refine pj_X_of (fun r h => pj_T_pf iG18 rfl rfl rfl h) ?_
      show pj_X _ _ (pj_wv G18 27 2 (.ref 29)) 26 [(1, .ref 29), (0, .ref 27)] [] _
      obtain ⟨G19, hG19⟩ : ∃ H, H = pj_wv G18 27 2 (.ref 29) := ⟨_, rfl⟩
      have iG19 : pj_Inv G19 := by rw [hG19]; exact pj_Inv_wv iG18 (ci := 7) rfl rfl rfl
      have kG19 : pj_kpt kc_59 G0 G19 := by rw [hG19]; exact pj_kpt_v kG18 rfl
      rw [← hG19]
      exact pj_X_rt rfl rfl ⟨rfl, iG19, kG19⟩
def kc_41_7 : pj_KT := ([(2, 3), (2, 4), (7, 0), (7, 1)], [2, 7, 8, 9, 10, 11], [8, 9, 10, 11])
theorem lp_ct_41_7 (G0 : pj_G) (hI0 : pj_Inv G0) : ∀ mn : Nat, (∀ (G : pj_G) (hI : pj_Inv G) (hK : pj_kpt kc_41_7 G0 G) (v2 : Int32), ((0 : Int) ≤ v2.toInt ∧ v2.toInt ≤ 10) → 10 - v2.toInt < (mn : Int) → pj_X 3 pj_m41 G 21 [(0, .ref 7), (1, .ref 2), (2, .int v2)] [] (fun v G' => v = none ∧ pj_Inv G' ∧ pj_kpt kc_41_7 G0 G')) := by
  have c0_ : ((Int8.ofInt 10).toInt32).toInt = 10 := by decide
  have c1_ : ((Int8.ofInt 49).toInt32).toInt = 49 := by decide
  have c2_ : ((Int8.ofInt 50).toInt32).toInt = 50 := by decide
  have c3_ : ((Int8.ofInt 56).toInt32).toInt = 56 := by decide
  have c4_ : ((Int8.ofInt 57).toInt32).toInt = 57 := by decide
  have c5_ : ((Int8.ofInt 58).toInt32).toInt = 58 := by decide
  have c6_ : ((Int8.ofInt 59).toInt32).toInt = 59 := by decide
  have c7_ : (Int32.ofInt (-1)).toInt = -1 := by decide
  have c8_ : (Int32.ofInt 0).toInt = 0 := by decide
  have c9_ : (Int32.ofInt 1).toInt = 1 := by decide
  have c10_ : (Int32.ofInt 2).toInt = 2 := by decide
  intro mn
  induction mn with
  | zero =>
    intro G hI hK v2 rv2 hm
    exfalso
    omega
  | succ mn ih =>
    intro G hI hK v2 rv2 hm
    refine pj_X_of (fun r h => pj_R_to (G, 24, [(0, .ref 7), (1, .ref 2), (2, .int v2)], [.int ((Int8.ofInt 10).toInt32), .int v2], 0, 0) 24 3 (fun _ => rfl) h) ?_
    cases b1 : pj_c1 .ge v2 ((Int8.ofInt 10).toInt32) with
    | true =>
      have ub1 := pj_u_geT b1
      refine pj_X_of (fun r h => pj_R_icT 120 rfl rfl b1 h) ?_
      exact pj_X_rt rfl rfl ⟨rfl, hI, hK⟩
    | false =>
      have ub1 := pj_u_geF b1
      refine pj_X_of (fun r h => pj_R_icF rfl b1 h) ?_
      refine pj_X_of (fun r h => pj_R_to (G, 30, [(0, .ref 7), (1, .ref 2), (2, .int v2)], [.int ((Int8.ofInt 59).toInt32), .ref 2], 0, 0) 30 3 (fun _ => rfl) h) ?_
      refine pj_X_ca (vs := [.ref 2, .int ((Int8.ofInt 59).toInt32)]) rfl (fun _ => rfl) ⟨Nat.le_of_ble_eq_true rfl, Nat.le_of_ble_eq_true rfl, pj_T_rcv hI rfl⟩ ⟨rfl, rfl⟩ (pj_Y_up (by decide) (ct_82 G hI ((Int8.ofInt 59).toInt32) ⟨by omega, by omega⟩)) ?_
      rintro _ G3 ⟨y2, rfl, iG3, jG3, ry2⟩
      have kG3 : pj_kpt kc_41_7 G0 G3 := pj_kpt_t hK (pj_kpt_s jG3 rfl)
      show pj_X _ _ G3 33 [(0, .ref 7), (1, .ref 2), (2, .int v2)] [.int y2] _
      cases b4 : pj_c1 .eq y2 0 with
      | true =>
        have ub4 := pj_u0_eqT b4
        refine pj_X_of (fun r h => pj_R_ifT 120 rfl rfl b4 h) ?_
        exact pj_X_rt rfl rfl ⟨rfl, iG3, kG3⟩
      | false =>
        have ub4 := pj_u0_eqF b4
        refine pj_X_of (fun r h => pj_R_ifF rfl b4 h) ?_
        refine pj_X_of (fun r h => pj_R_to (G3, 37, [(0, .ref 7), (1, .ref 2), (2, .int v2)], [.ref 7], 0, 0) 37 2 (fun _ => rfl) h) ?_
        refine pj_X_of (fun r h => pj_T_gr iG3 rfl rfl rfl h) ?_
        refine pj_X_of (fun r h => pj_R_to (G3, 44, [(0, .ref 7), (1, .ref 2), (2, .int v2)], [.ref 7, .int (Int32.ofInt (-1)), .ref 2, .int v2, .ref 8], 0, 0) 44 5 (fun _ => rfl) h) ?_
        refine pj_X_of (fun r h => pj_T_gi iG3 rfl rfl h) ?_
        show pj_X _ _ G3 47 [(0, .ref 7), (1, .ref 2), (2, .int v2)] [.int (pj_fi G3 7 0), .int (Int32.ofInt (-1)), .ref 2, .int v2, .ref 8] _
        obtain ⟨y5, hy5⟩ : ∃ z : Int32, z = pj_fi G3 7 0 := ⟨_, rfl⟩
        rw [← hy5]
        have ey5 : (pj_fi G3 7 0).toInt = y5.toInt := by rw [hy5]
        have ry5 : (0 : Int) ≤ y5.toInt ∧ y5.toInt ≤ 8 := by rw [hy5]; exact iG3.2.1 7 0 (0, 8) rfl
        refine pj_X_ca (vs := [.ref 2, .int (Int32.ofInt (-1)), .int y5]) rfl (fun _ => rfl) ⟨Nat.le_of_ble_eq_true rfl, Nat.le_of_ble_eq_true rfl, pj_T_rcv iG3 rfl⟩ ⟨rfl, rfl⟩ (pj_Y_up (by decide) (ct_87 G3 iG3 (Int32.ofInt (-1)) y5 ⟨by omega, by omega⟩ ⟨by omega, by omega⟩)) ?_
        rintro _ G7 ⟨y6, rfl, iG7, jG7, ry6, ey6⟩
        have kG7 : pj_kpt kc_41_7 G0 G7 := pj_kpt_t kG3 (pj_kpt_s jG7 rfl)
        show pj_X _ _ G7 50 [(0, .ref 7), (1, .ref 2), (2, .int v2)] [.int y6, .int v2, .ref 8] _
        refine pj_X_of (fun r h => pj_T_is iG7 rfl rfl (by omega) (by omega) h) ?_
        show pj_X _ _ (pj_wa G7 8 v2.toInt.toNat y6) 51 [(0, .ref 7), (1, .ref 2), (2, .int v2)] [] _
        obtain ⟨G8, hG8⟩ : ∃ H, H = pj_wa G7 8 v2.toInt.toNat y6 := ⟨_, rfl⟩
        have iG8 : pj_Inv G8 := by rw [hG8]; exact pj_Inv_wa iG7 rfl (fun q hq => by cases hq; exact ⟨by show (0 : Int) ≤ _; omega, by show _ ≤ (7 : Int); omega, by show _ ≤ (0 : Int) ∨ (0 : Int) ≤ _; omega⟩) (fun n hn => by cases hn)
        have kG8 : pj_kpt kc_41_7 G0 G8 := by rw [hG8]; exact pj_kpt_a kG7 rfl
        rw [← hG8]
        refine pj_X_of (fun r h => pj_R_to (G8, 52, [(0, .ref 7), (1, .ref 2), (2, .int v2)], [.ref 7], 0, 0) 52 2 (fun _ => rfl) h) ?_
        refine pj_X_of (fun r h => pj_T_gr iG8 rfl rfl rfl h) ?_
        refine pj_X_of (fun r h => pj_R_to (G8, 58, [(0, .ref 7), (1, .ref 2), (2, .int v2)], [.ref 7, .ref 2, .int v2, .ref 9], 0, 0) 58 4 (fun _ => rfl) h) ?_
        refine pj_X_of (fun r h => pj_T_gr iG8 rfl rfl rfl h) ?_
        refine pj_X_of (fun r h => pj_R_to (G8, 62, [(0, .ref 7), (1, .ref 2), (2, .int v2)], [.int v2, .ref 8, .ref 2, .int v2, .ref 9], 0, 0) 62 2 (fun _ => rfl) h) ?_
        refine pj_X_of (fun r h => pj_T_il iG8 rfl rfl (by omega) (by omega) h) ?_
        show pj_X _ _ G8 63 [(0, .ref 7), (1, .ref 2), (2, .int v2)] [.int (pj_ai G8 8 v2.toInt.toNat), .ref 2, .int v2, .ref 9] _
        obtain ⟨z9, hz9⟩ : ∃ z : Int32, z = pj_ai G8 8 v2.toInt.toNat := ⟨_, rfl⟩
        rw [← hz9]
        have ez9 : (pj_ai G8 8 v2.toInt.toNat).toInt = z9.toInt := by rw [hz9]
        have fz9_0 : (0 : Int) ≤ z9.toInt ∧ z9.toInt ≤ 7 ∧ (z9.toInt ≤ 0 ∨ 0 ≤ z9.toInt) := by rw [hz9]; exact iG8.2.2.1 8 (10, 0, 7, 0, 0) rfl _ (by show _ < 10; omega)
        refine pj_X_of (fun r h => pj_R_to (G8, 64, [(0, .ref 7), (1, .ref 2), (2, .int v2)], [.ref 7, .int z9, .ref 2, .int v2, .ref 9], 0, 0) 64 2 (fun _ => rfl) h) ?_
        refine pj_X_of (fun r h => pj_T_gi iG8 rfl rfl h) ?_
        show pj_X _ _ G8 67 [(0, .ref 7), (1, .ref 2), (2, .int v2)] [.int (pj_fi G8 7 0), .int z9, .ref 2, .int v2, .ref 9] _
        obtain ⟨y10, hy10⟩ : ∃ z : Int32, z = pj_fi G8 7 0 := ⟨_, rfl⟩
        rw [← hy10]
        have ey10 : (pj_fi G8 7 0).toInt = y10.toInt := by rw [hy10]
        have ry10 : (0 : Int) ≤ y10.toInt ∧ y10.toInt ≤ 8 := by rw [hy10]; exact iG8.2.1 7 0 (0, 8) rfl
        refine pj_X_ca (vs := [.ref 2, .int z9, .int y10]) rfl (fun _ => rfl) ⟨Nat.le_of_ble_eq_true rfl, Nat.le_of_ble_eq_true rfl, pj_T_rcv iG8 rfl⟩ ⟨rfl, rfl⟩ (pj_Y_up (by decide) (ct_87 G8 iG8 z9 y10 ⟨by omega, by omega⟩ ⟨by omega, by omega⟩)) ?_
        rintro _ G12 ⟨y11, rfl, iG12, jG12, ry11, ey11⟩
        have kG12 : pj_kpt kc_41_7 G0 G12 := pj_kpt_t kG8 (pj_kpt_s jG12 rfl)
        show pj_X _ _ G12 70 [(0, .ref 7), (1, .ref 2), (2, .int v2)] [.int y11, .int v2, .ref 9] _
        refine pj_X_of (fun r h => pj_T_is iG12 rfl rfl (by omega) (by omega) h) ?_
        show pj_X _ _ (pj_wa G12 9 v2.toInt.toNat y11) 71 [(0, .ref 7), (1, .ref 2), (2, .int v2)] [] _
        obtain ⟨G13, hG13⟩ : ∃ H, H = pj_wa G12 9 v2.toInt.toNat y11 := ⟨_, rfl⟩
        have iG13 : pj_Inv G13 := by rw [hG13]; exact pj_Inv_wa iG12 rfl (fun q hq => by cases hq; exact ⟨by show (0 : Int) ≤ _; omega, by show _ ≤ (7 : Int); omega, by show _ ≤ (0 : Int) ∨ (0 : Int) ≤ _; omega⟩) (fun n hn => by cases hn)
        have kG13 : pj_kpt kc_41_7 G0 G13 := by rw [hG13]; exact pj_kpt_a kG12 rfl
        rw [← hG13]
        refine pj_X_of (fun r h => pj_R_to (G13, 72, [(0, .ref 7), (1, .ref 2), (2, .int v2)], [.ref 7], 0, 0) 72 2 (fun _ => rfl) h) ?_
        refine pj_X_of (fun r h => pj_T_gr iG13 rfl rfl rfl h) ?_
        refine pj_X_of (fun r h => pj_R_to (G13, 78, [(0, .ref 7), (1, .ref 2), (2, .int v2)], [.int (Int32.ofInt 2), .ref 2, .int v2, .ref 10], 0, 0) 78 4 (fun _ => rfl) h) ?_
        refine pj_X_ca (vs := [.ref 2, .int (Int32.ofInt 2)]) rfl (fun _ => rfl) ⟨Nat.le_of_ble_eq_true rfl, Nat.le_of_ble_eq_true rfl, pj_T_rcv iG13 rfl⟩ ⟨rfl, rfl⟩ (pj_Y_up (by decide) (ct_86 G13 iG13 (Int32.ofInt 2) ⟨by omega, by omega⟩)) ?_
        rintro _ G15 ⟨y14, rfl, iG15, jG15, ry14⟩
        have kG15 : pj_kpt kc_41_7 G0 G15 := pj_kpt_t kG13 (pj_kpt_s jG15 rfl)
        show pj_X _ _ G15 81 [(0, .ref 7), (1, .ref 2), (2, .int v2)] [.int y14, .int v2, .ref 10] _
        refine pj_X_of (fun r h => pj_T_is iG15 rfl rfl (by omega) (by omega) h) ?_
        show pj_X _ _ (pj_wa G15 10 v2.toInt.toNat y14) 82 [(0, .ref 7), (1, .ref 2), (2, .int v2)] [] _
        obtain ⟨G16, hG16⟩ : ∃ H, H = pj_wa G15 10 v2.toInt.toNat y14 := ⟨_, rfl⟩
        have iG16 : pj_Inv G16 := by rw [hG16]; exact pj_Inv_wa iG15 rfl (fun q hq => by cases hq) (fun n hn => by cases hn)
        have kG16 : pj_kpt kc_41_7 G0 G16 := by rw [hG16]; exact pj_kpt_a kG15 rfl
        rw [← hG16]
        refine pj_X_of (fun r h => pj_R_to (G16, 87, [(0, .ref 7), (1, .ref 2), (2, .int v2)], [.int ((Int8.ofInt 58).toInt32), .int ((Int8.ofInt 58).toInt32), .ref 2], 0, 0) 87 4 (fun _ => rfl) h) ?_
        refine pj_X_ca (vs := [.ref 2, .int ((Int8.ofInt 58).toInt32), .int ((Int8.ofInt 58).toInt32)]) rfl (fun _ => rfl) ⟨Nat.le_of_ble_eq_true rfl, Nat.le_of_ble_eq_true rfl, pj_T_rcv iG16 rfl⟩ ⟨rfl, rfl⟩ (pj_Y_up (by decide) (ct_83 G16 iG16 ((Int8.ofInt 58).toInt32) ((Int8.ofInt 58).toInt32) ⟨by omega, by omega⟩ ⟨by omega, by omega⟩)) ?_
        rintro _ G18 ⟨y17, rfl, iG18, jG18, ry17, ey17⟩
        have kG18 : pj_kpt kc_41_7 G0 G18 := pj_kpt_t kG16 (pj_kpt_s jG18 rfl)
        show pj_X _ _ G18 90 [(0, .ref 7), (1, .ref 2), (2, .int v2)] [.int y17] _
        refine pj_X_of (fun r h => pj_R_to (G18, 92, [(0, .ref 7), (1, .ref 2), (2, .int v2)], [.ref 7], 0, 0) 92 3 (fun _ => rfl) h) ?_
        refine pj_X_of (fun r h => pj_T_gr iG18 rfl rfl rfl h) ?_
        refine pj_X_of (fun r h => pj_R_to (G18, 102, [(0, .ref 7), (1, .ref 2), (2, .int v2)], [.int ((Int8.ofInt 57).toInt32), .int ((Int8.ofInt 49).toInt32), .ref 2, .int (Int32.ofInt 1), .int v2, .ref 11], 0, 0) 102 6 (fun _ => rfl) h) ?_
        refine pj_X_ca (vs := [.ref 2, .int ((Int8.ofInt 49).toInt32), .int ((Int8.ofInt 57).toInt32)]) rfl (fun _ => rfl) ⟨Nat.le_of_ble_eq_true rfl, Nat.le_of_ble_eq_true rfl, pj_T_rcv iG18 rfl⟩ ⟨rfl, rfl⟩ (pj_Y_up (by decide) (ct_83 G18 iG18 ((Int8.ofInt 49).toInt32) ((Int8.ofInt 57).toInt32) ⟨by omega, by omega⟩ ⟨by omega, by omega⟩)) ?_
        rintro _ G20 ⟨y19, rfl, iG20, jG20, ry19, ey19⟩
        have kG20 : pj_kpt kc_41_7 G0 G20 := pj_kpt_t kG18 (pj_kpt_s jG20 rfl)
        show pj_X _ _ G20 105 [(0, .ref 7), (1, .ref 2), (2, .int v2)] [.int y19, .int (Int32.ofInt 1), .int v2, .ref 11] _
        refine pj_X_of (fun r h => pj_R_to (G20, 106, [(0, .ref 7), (1, .ref 2), (2, .int v2)], [.int ((Int32.ofInt 1) + y19), .int v2, .ref 11], 0, 0) 106 2 (fun _ => rfl) h) ?_
        obtain ⟨z21, hz21⟩ : ∃ z : Int32, z = (Int32.ofInt 1) + y19 := ⟨_, rfl⟩
        rw [← hz21]
        have fz21_0 : z21.toInt = (Int32.ofInt 1).toInt + y19.toInt := by rw [hz21]; exact pj_addI (by have := pj_i32 (Int32.ofInt 1); have := pj_i32 y19; omega) (by have := pj_i32 (Int32.ofInt 1); have := pj_i32 y19; omega)
        refine pj_X_of (fun r h => pj_T_is iG20 rfl rfl (by omega) (by omega) h) ?_
        show pj_X _ _ (pj_wa G20 11 v2.toInt.toNat z21) 107 [(0, .ref 7), (1, .ref 2), (2, .int v2)] [] _
        obtain ⟨G22, hG22⟩ : ∃ H, H = pj_wa G20 11 v2.toInt.toNat z21 := ⟨_, rfl⟩
        have iG22 : pj_Inv G22 := by rw [hG22]; exact pj_Inv_wa iG20 rfl (fun q hq => by cases hq; exact ⟨by show (0 : Int) ≤ _; omega, by show _ ≤ (9 : Int); omega, by show _ ≤ (0 : Int) ∨ (0 : Int) ≤ _; omega⟩) (fun n hn => by cases hn)
        have kG22 : pj_kpt kc_41_7 G0 G22 := by rw [hG22]; exact pj_kpt_a kG20 rfl
        rw [← hG22]
        refine pj_X_of (fun r h => pj_R_to (G22, 111, [(0, .ref 7), (1, .ref 2), (2, .int v2)], [.int (v2 + (Int32.ofInt 1)), .ref 7], 0, 0) 111 5 (fun _ => rfl) h) ?_
        obtain ⟨z23, hz23⟩ : ∃ z : Int32, z = v2 + (Int32.ofInt 1) := ⟨_, rfl⟩
        rw [← hz23]
        have fz23_0 : z23.toInt = v2.toInt + (Int32.ofInt 1).toInt := by rw [hz23]; exact pj_addI (by have := pj_i32 v2; have := pj_i32 (Int32.ofInt 1); omega) (by have := pj_i32 v2; have := pj_i32 (Int32.ofInt 1); omega)
        refine pj_X_of (fun r h => pj_T_pf iG22 rfl rfl rfl h) ?_
        show pj_X _ _ (pj_wv G22 7 1 (.int z23)) 114 [(0, .ref 7), (1, .ref 2), (2, .int v2)] [] _
        obtain ⟨G24, hG24⟩ : ∃ H, H = pj_wv G22 7 1 (.int z23) := ⟨_, rfl⟩
        have iG24 : pj_Inv G24 := by rw [hG24]; exact pj_Inv_wi iG22 (ci := 5) rfl (fun q hq => by cases hq; exact ⟨by show (0 : Int) ≤ _; omega, by show _ ≤ (10 : Int); omega⟩)
        have kG24 : pj_kpt kc_41_7 G0 G24 := by rw [hG24]; exact pj_kpt_v kG22 rfl
        rw [← hG24]
        refine pj_X_of (fun r h => pj_R_to (G24, 117, [(2, .int (v2 + Int32.ofInt 1)), (0, .ref 7), (1, .ref 2)], [], 0, 0) 117 2 (fun _ => rfl) h) ?_
        obtain ⟨z25, hz25⟩ : ∃ z : Int32, z = v2 + Int32.ofInt 1 := ⟨_, rfl⟩
        rw [← hz25]
        have fz25_0 : z25.toInt = v2.toInt + (Int32.ofInt 1).toInt := by rw [hz25]; exact pj_addI (by have := pj_i32 v2; have := pj_i32 (Int32.ofInt 1); omega) (by have := pj_i32 v2; have := pj_i32 (Int32.ofInt 1); omega)
        refine pj_X_of (fun r h => pj_R_to (G24, 21, [(2, .int z25), (0, .ref 7), (1, .ref 2)], [], 0, 0) 21 2 (fun _ => rfl) h) ?_
        exact pj_X_sub [(0, .ref 7), (1, .ref 2), (2, .int z25)] (show List.Nodup [0, 1, 2] by decide) ⟨rfl, rfl, rfl, trivial⟩ (ih G24 iG24 kG24 z25 ⟨by omega, by omega⟩ (by omega))
theorem ct_41_7 (G0 : pj_G) (hI : pj_Inv G0) : pj_Y 4 41 [.ref 7, .ref 2] G0 (fun v G' => v = none ∧ pj_Inv G' ∧ pj_kpt kc_41_7 G0 G') := by
  have c0_ : ((Int8.ofInt 10).toInt32).toInt = 10 := by decide
  have c1_ : ((Int8.ofInt 49).toInt32).toInt = 49 := by decide
  have c2_ : ((Int8.ofInt 50).toInt32).toInt = 50 := by decide
  have c3_ : ((Int8.ofInt 56).toInt32).toInt = 56 := by decide
  have c4_ : ((Int8.ofInt 57).toInt32).toInt = 57 := by decide
  have c5_ : ((Int8.ofInt 58).toInt32).toInt = 58 := by decide
  have c6_ : ((Int8.ofInt 59).toInt32).toInt = 59 := by decide
  have c7_ : (Int32.ofInt (-1)).toInt = -1 := by decide
  have c8_ : (Int32.ofInt 0).toInt = 0 := by decide
  have c9_ : (Int32.ofInt 1).toInt = 1 := by decide
  have c10_ : (Int32.ofInt 2).toInt = 2 := by decide
  refine pj_Y_X (M := pj_m41) rfl rfl (Nat.le_of_ble_eq_true rfl) ?_
  have hK : pj_kpt kc_41_7 G0 G0 := pj_kpt_r _ _
  show pj_X _ _ G0 0 [(0, .ref 7), (1, .ref 2)] [] _
  refine pj_X_of (fun r h => pj_R_to (G0, 7, [(0, .ref 7), (1, .ref 2)], [.int ((Int8.ofInt 56).toInt32), .int ((Int8.ofInt 50).toInt32), .ref 2, .int (Int32.ofInt 2), .ref 7], 0, 0) 7 6 (fun _ => rfl) h) ?_
  refine pj_X_ca (vs := [.ref 2, .int ((Int8.ofInt 50).toInt32), .int ((Int8.ofInt 56).toInt32)]) rfl (fun _ => rfl) ⟨Nat.le_of_ble_eq_true rfl, Nat.le_of_ble_eq_true rfl, pj_T_rcv hI rfl⟩ ⟨rfl, rfl⟩ (pj_Y_up (by decide) (ct_83 G0 hI ((Int8.ofInt 50).toInt32) ((Int8.ofInt 56).toInt32) ⟨by omega, by omega⟩ ⟨by omega, by omega⟩)) ?_
  rintro _ G27 ⟨y26, rfl, iG27, jG27, ry26, ey26⟩
  have kG27 : pj_kpt kc_41_7 G0 G27 := pj_kpt_t hK (pj_kpt_s jG27 rfl)
  show pj_X _ _ G27 10 [(0, .ref 7), (1, .ref 2)] [.int y26, .int (Int32.ofInt 2), .ref 7] _
  refine pj_X_of (fun r h => pj_R_to (G27, 11, [(0, .ref 7), (1, .ref 2)], [.int ((Int32.ofInt 2) + y26), .ref 7], 0, 0) 11 2 (fun _ => rfl) h) ?_
  obtain ⟨z28, hz28⟩ : ∃ z : Int32, z = (Int32.ofInt 2) + y26 := ⟨_, rfl⟩
  rw [← hz28]
  have fz28_0 : z28.toInt = (Int32.ofInt 2).toInt + y26.toInt := by rw [hz28]; exact pj_addI (by have := pj_i32 (Int32.ofInt 2); have := pj_i32 y26; omega) (by have := pj_i32 (Int32.ofInt 2); have := pj_i32 y26; omega)
  refine pj_X_of (fun r h => pj_T_pf iG27 rfl rfl rfl h) ?_
  show pj_X _ _ (pj_wv G27 7 0 (.int z28)) 14 [(0, .ref 7), (1, .ref 2)] [] _
  obtain ⟨G29, hG29⟩ : ∃ H, H = pj_wv G27 7 0 (.int z28) := ⟨_, rfl⟩
  have iG29 : pj_Inv G29 := by rw [hG29]; exact pj_Inv_wi iG27 (ci := 5) rfl (fun q hq => by cases hq; exact ⟨by show (0 : Int) ≤ _; omega, by show _ ≤ (8 : Int); omega⟩)
  have kG29 : pj_kpt kc_41_7 G0 G29 := by rw [hG29]; exact pj_kpt_v kG27 rfl
  rw [← hG29]
  refine pj_X_of (fun r h => pj_R_to (G29, 16, [(0, .ref 7), (1, .ref 2)], [.int (Int32.ofInt 0), .ref 7], 0, 0) 16 3 (fun _ => rfl) h) ?_
  refine pj_X_of (fun r h => pj_T_pf iG29 rfl rfl rfl h) ?_
  show pj_X _ _ (pj_wv G29 7 1 (.int (Int32.ofInt 0))) 19 [(0, .ref 7), (1, .ref 2)] [] _
  obtain ⟨G30, hG30⟩ : ∃ H, H = pj_wv G29 7 1 (.int (Int32.ofInt 0)) := ⟨_, rfl⟩
  have iG30 : pj_Inv G30 := by rw [hG30]; exact pj_Inv_wi iG29 (ci := 5) rfl (fun q hq => by cases hq; exact ⟨by show (0 : Int) ≤ _; omega, by show _ ≤ (10 : Int); omega⟩)
  have kG30 : pj_kpt kc_41_7 G0 G30 := by rw [hG30]; exact pj_kpt_v kG29 rfl
  rw [← hG30]
  refine pj_X_of (fun r h => pj_R_to (G30, 21, [(2, .int (Int32.ofInt 0)), (0, .ref 7), (1, .ref 2)], [], 0, 0) 21 3 (fun _ => rfl) h) ?_
  exact pj_X_sub [(0, .ref 7), (1, .ref 2), (2, .int (Int32.ofInt 0))] (show List.Nodup [0, 1, 2] by decide) ⟨rfl, rfl, rfl, trivial⟩ ((lp_ct_41_7 G0 hI   11) G30 iG30 kG30 (Int32.ofInt 0) ⟨by omega, by omega⟩ (by omega))
def kc_41_14 : pj_KT := ([(2, 3), (2, 4), (14, 0), (14, 1)], [2, 14, 15, 16, 17, 18], [15, 16, 17, 18])
theorem lp_ct_41_14 (G0 : pj_G) (hI0 : pj_Inv G0) : ∀ mn : Nat, (∀ (G : pj_G) (hI : pj_Inv G) (hK : pj_kpt kc_41_14 G0 G) (v2 : Int32), ((0 : Int) ≤ v2.toInt ∧ v2.toInt ≤ 10) → 10 - v2.toInt < (mn : Int) → pj_X 3 pj_m41 G 21 [(0, .ref 14), (1, .ref 2), (2, .int v2)] [] (fun v G' => v = none ∧ pj_Inv G' ∧ pj_kpt kc_41_14 G0 G')) := by
  have c0_ : ((Int8.ofInt 10).toInt32).toInt = 10 := by decide
  have c1_ : ((Int8.ofInt 49).toInt32).toInt = 49 := by decide
  have c2_ : ((Int8.ofInt 50).toInt32).toInt = 50 := by decide
  have c3_ : ((Int8.ofInt 56).toInt32).toInt = 56 := by decide
  have c4_ : ((Int8.ofInt 57).toInt32).toInt = 57 := by decide
  have c5_ : ((Int8.ofInt 58).toInt32).toInt = 58 := by decide
  have c6_ : ((Int8.ofInt 59).toInt32).toInt = 59 := by decide
  have c7_ : (Int32.ofInt (-1)).toInt = -1 := by decide
  have c8_ : (Int32.ofInt 0).toInt = 0 := by decide
  have c9_ : (Int32.ofInt 1).toInt = 1 := by decide
  have c10_ : (Int32.ofInt 2).toInt = 2 := by decide
  intro mn
  induction mn with
  | zero =>
    intro G hI hK v2 rv2 hm
    exfalso
    omega
  | succ mn ih =>
    intro G hI hK v2 rv2 hm
    refine pj_X_of (fun r h => pj_R_to (G, 24, [(0, .ref 14), (1, .ref 2), (2, .int v2)], [.int ((Int8.ofInt 10).toInt32), .int v2], 0, 0) 24 3 (fun _ => rfl) h) ?_
    cases b1 : pj_c1 .ge v2 ((Int8.ofInt 10).toInt32) with
    | true =>
      have ub1 := pj_u_geT b1
      refine pj_X_of (fun r h => pj_R_icT 120 rfl rfl b1 h) ?_
      exact pj_X_rt rfl rfl ⟨rfl, hI, hK⟩
    | false =>
      have ub1 := pj_u_geF b1
      refine pj_X_of (fun r h => pj_R_icF rfl b1 h) ?_
      refine pj_X_of (fun r h => pj_R_to (G, 30, [(0, .ref 14), (1, .ref 2), (2, .int v2)], [.int ((Int8.ofInt 59).toInt32), .ref 2], 0, 0) 30 3 (fun _ => rfl) h) ?_
      refine pj_X_ca (vs := [.ref 2, .int ((Int8.ofInt 59).toInt32)]) rfl (fun _ => rfl) ⟨Nat.le_of_ble_eq_true rfl, Nat.le_of_ble_eq_true rfl, pj_T_rcv hI rfl⟩ ⟨rfl, rfl⟩ (pj_Y_up (by decide) (ct_82 G hI ((Int8.ofInt 59).toInt32) ⟨by omega, by omega⟩)) ?_
      rintro _ G3 ⟨y2, rfl, iG3, jG3, ry2⟩
      have kG3 : pj_kpt kc_41_14 G0 G3 := pj_kpt_t hK (pj_kpt_s jG3 rfl)
      show pj_X _ _ G3 33 [(0, .ref 14), (1, .ref 2), (2, .int v2)] [.int y2] _
      cases b4 : pj_c1 .eq y2 0 with
      | true =>
        have ub4 := pj_u0_eqT b4
        refine pj_X_of (fun r h => pj_R_ifT 120 rfl rfl b4 h) ?_
        exact pj_X_rt rfl rfl ⟨rfl, iG3, kG3⟩
      | false =>
        have ub4 := pj_u0_eqF b4
        refine pj_X_of (fun r h => pj_R_ifF rfl b4 h) ?_
        refine pj_X_of (fun r h => pj_R_to (G3, 37, [(0, .ref 14), (1, .ref 2), (2, .int v2)], [.ref 14], 0, 0) 37 2 (fun _ => rfl) h) ?_
        refine pj_X_of (fun r h => pj_T_gr iG3 rfl rfl rfl h) ?_
        refine pj_X_of (fun r h => pj_R_to (G3, 44, [(0, .ref 14), (1, .ref 2), (2, .int v2)], [.ref 14, .int (Int32.ofInt (-1)), .ref 2, .int v2, .ref 15], 0, 0) 44 5 (fun _ => rfl) h) ?_
        refine pj_X_of (fun r h => pj_T_gi iG3 rfl rfl h) ?_
        show pj_X _ _ G3 47 [(0, .ref 14), (1, .ref 2), (2, .int v2)] [.int (pj_fi G3 14 0), .int (Int32.ofInt (-1)), .ref 2, .int v2, .ref 15] _
        obtain ⟨y5, hy5⟩ : ∃ z : Int32, z = pj_fi G3 14 0 := ⟨_, rfl⟩
        rw [← hy5]
        have ey5 : (pj_fi G3 14 0).toInt = y5.toInt := by rw [hy5]
        have ry5 : (0 : Int) ≤ y5.toInt ∧ y5.toInt ≤ 8 := by rw [hy5]; exact iG3.2.1 14 0 (0, 8) rfl
        refine pj_X_ca (vs := [.ref 2, .int (Int32.ofInt (-1)), .int y5]) rfl (fun _ => rfl) ⟨Nat.le_of_ble_eq_true rfl, Nat.le_of_ble_eq_true rfl, pj_T_rcv iG3 rfl⟩ ⟨rfl, rfl⟩ (pj_Y_up (by decide) (ct_87 G3 iG3 (Int32.ofInt (-1)) y5 ⟨by omega, by omega⟩ ⟨by omega, by omega⟩)) ?_
        rintro _ G7 ⟨y6, rfl, iG7, jG7, ry6, ey6⟩
        have kG7 : pj_kpt kc_41_14 G0 G7 := pj_kpt_t kG3 (pj_kpt_s jG7 rfl)
        show pj_X _ _ G7 50 [(0, .ref 14), (1, .ref 2), (2, .int v2)] [.int y6, .int v2, .ref 15] _
        refine pj_X_of (fun r h => pj_T_is iG7 rfl rfl (by omega) (by omega) h) ?_
        show pj_X _ _ (pj_wa G7 15 v2.toInt.toNat y6) 51 [(0, .ref 14), (1, .ref 2), (2, .int v2)] [] _
        obtain ⟨G8, hG8⟩ : ∃ H, H = pj_wa G7 15 v2.toInt.toNat y6 := ⟨_, rfl⟩
        have iG8 : pj_Inv G8 := by rw [hG8]; exact pj_Inv_wa iG7 rfl (fun q hq => by cases hq; exact ⟨by show (0 : Int) ≤ _; omega, by show _ ≤ (7 : Int); omega, by show _ ≤ (0 : Int) ∨ (0 : Int) ≤ _; omega⟩) (fun n hn => by cases hn)
        have kG8 : pj_kpt kc_41_14 G0 G8 := by rw [hG8]; exact pj_kpt_a kG7 rfl
        rw [← hG8]
        refine pj_X_of (fun r h => pj_R_to (G8, 52, [(0, .ref 14), (1, .ref 2), (2, .int v2)], [.ref 14], 0, 0) 52 2 (fun _ => rfl) h) ?_
        refine pj_X_of (fun r h => pj_T_gr iG8 rfl rfl rfl h) ?_
        refine pj_X_of (fun r h => pj_R_to (G8, 58, [(0, .ref 14), (1, .ref 2), (2, .int v2)], [.ref 14, .ref 2, .int v2, .ref 16], 0, 0) 58 4 (fun _ => rfl) h) ?_
        refine pj_X_of (fun r h => pj_T_gr iG8 rfl rfl rfl h) ?_
        refine pj_X_of (fun r h => pj_R_to (G8, 62, [(0, .ref 14), (1, .ref 2), (2, .int v2)], [.int v2, .ref 15, .ref 2, .int v2, .ref 16], 0, 0) 62 2 (fun _ => rfl) h) ?_
        refine pj_X_of (fun r h => pj_T_il iG8 rfl rfl (by omega) (by omega) h) ?_
        show pj_X _ _ G8 63 [(0, .ref 14), (1, .ref 2), (2, .int v2)] [.int (pj_ai G8 15 v2.toInt.toNat), .ref 2, .int v2, .ref 16] _
        obtain ⟨z9, hz9⟩ : ∃ z : Int32, z = pj_ai G8 15 v2.toInt.toNat := ⟨_, rfl⟩
        rw [← hz9]
        have ez9 : (pj_ai G8 15 v2.toInt.toNat).toInt = z9.toInt := by rw [hz9]
        have fz9_0 : (0 : Int) ≤ z9.toInt ∧ z9.toInt ≤ 7 ∧ (z9.toInt ≤ 0 ∨ 0 ≤ z9.toInt) := by rw [hz9]; exact iG8.2.2.1 15 (10, 0, 7, 0, 0) rfl _ (by show _ < 10; omega)
        refine pj_X_of (fun r h => pj_R_to (G8, 64, [(0, .ref 14), (1, .ref 2), (2, .int v2)], [.ref 14, .int z9, .ref 2, .int v2, .ref 16], 0, 0) 64 2 (fun _ => rfl) h) ?_
        refine pj_X_of (fun r h => pj_T_gi iG8 rfl rfl h) ?_
        show pj_X _ _ G8 67 [(0, .ref 14), (1, .ref 2), (2, .int v2)] [.int (pj_fi G8 14 0), .int z9, .ref 2, .int v2, .ref 16] _
        obtain ⟨y10, hy10⟩ : ∃ z : Int32, z = pj_fi G8 14 0 := ⟨_, rfl⟩
        rw [← hy10]
        have ey10 : (pj_fi G8 14 0).toInt = y10.toInt := by rw [hy10]
        have ry10 : (0 : Int) ≤ y10.toInt ∧ y10.toInt ≤ 8 := by rw [hy10]; exact iG8.2.1 14 0 (0, 8) rfl
        refine pj_X_ca (vs := [.ref 2, .int z9, .int y10]) rfl (fun _ => rfl) ⟨Nat.le_of_ble_eq_true rfl, Nat.le_of_ble_eq_true rfl, pj_T_rcv iG8 rfl⟩ ⟨rfl, rfl⟩ (pj_Y_up (by decide) (ct_87 G8 iG8 z9 y10 ⟨by omega, by omega⟩ ⟨by omega, by omega⟩)) ?_
        rintro _ G12 ⟨y11, rfl, iG12, jG12, ry11, ey11⟩
        have kG12 : pj_kpt kc_41_14 G0 G12 := pj_kpt_t kG8 (pj_kpt_s jG12 rfl)
        show pj_X _ _ G12 70 [(0, .ref 14), (1, .ref 2), (2, .int v2)] [.int y11, .int v2, .ref 16] _
        refine pj_X_of (fun r h => pj_T_is iG12 rfl rfl (by omega) (by omega) h) ?_
        show pj_X _ _ (pj_wa G12 16 v2.toInt.toNat y11) 71 [(0, .ref 14), (1, .ref 2), (2, .int v2)] [] _
        obtain ⟨G13, hG13⟩ : ∃ H, H = pj_wa G12 16 v2.toInt.toNat y11 := ⟨_, rfl⟩
        have iG13 : pj_Inv G13 := by rw [hG13]; exact pj_Inv_wa iG12 rfl (fun q hq => by cases hq; exact ⟨by show (0 : Int) ≤ _; omega, by show _ ≤ (7 : Int); omega, by show _ ≤ (0 : Int) ∨ (0 : Int) ≤ _; omega⟩) (fun n hn => by cases hn)
        have kG13 : pj_kpt kc_41_14 G0 G13 := by rw [hG13]; exact pj_kpt_a kG12 rfl
        rw [← hG13]
        refine pj_X_of (fun r h => pj_R_to (G13, 72, [(0, .ref 14), (1, .ref 2), (2, .int v2)], [.ref 14], 0, 0) 72 2 (fun _ => rfl) h) ?_
        refine pj_X_of (fun r h => pj_T_gr iG13 rfl rfl rfl h) ?_
        refine pj_X_of (fun r h => pj_R_to (G13, 78, [(0, .ref 14), (1, .ref 2), (2, .int v2)], [.int (Int32.ofInt 2), .ref 2, .int v2, .ref 17], 0, 0) 78 4 (fun _ => rfl) h) ?_
        refine pj_X_ca (vs := [.ref 2, .int (Int32.ofInt 2)]) rfl (fun _ => rfl) ⟨Nat.le_of_ble_eq_true rfl, Nat.le_of_ble_eq_true rfl, pj_T_rcv iG13 rfl⟩ ⟨rfl, rfl⟩ (pj_Y_up (by decide) (ct_86 G13 iG13 (Int32.ofInt 2) ⟨by omega, by omega⟩)) ?_
        rintro _ G15 ⟨y14, rfl, iG15, jG15, ry14⟩
        have kG15 : pj_kpt kc_41_14 G0 G15 := pj_kpt_t kG13 (pj_kpt_s jG15 rfl)
        show pj_X _ _ G15 81 [(0, .ref 14), (1, .ref 2), (2, .int v2)] [.int y14, .int v2, .ref 17] _
        refine pj_X_of (fun r h => pj_T_is iG15 rfl rfl (by omega) (by omega) h) ?_
        show pj_X _ _ (pj_wa G15 17 v2.toInt.toNat y14) 82 [(0, .ref 14), (1, .ref 2), (2, .int v2)] [] _
        obtain ⟨G16, hG16⟩ : ∃ H, H = pj_wa G15 17 v2.toInt.toNat y14 := ⟨_, rfl⟩
        have iG16 : pj_Inv G16 := by rw [hG16]; exact pj_Inv_wa iG15 rfl (fun q hq => by cases hq) (fun n hn => by cases hn)
        have kG16 : pj_kpt kc_41_14 G0 G16 := by rw [hG16]; exact pj_kpt_a kG15 rfl
        rw [← hG16]
        refine pj_X_of (fun r h => pj_R_to (G16, 87, [(0, .ref 14), (1, .ref 2), (2, .int v2)], [.int ((Int8.ofInt 58).toInt32), .int ((Int8.ofInt 58).toInt32), .ref 2], 0, 0) 87 4 (fun _ => rfl) h) ?_
        refine pj_X_ca (vs := [.ref 2, .int ((Int8.ofInt 58).toInt32), .int ((Int8.ofInt 58).toInt32)]) rfl (fun _ => rfl) ⟨Nat.le_of_ble_eq_true rfl, Nat.le_of_ble_eq_true rfl, pj_T_rcv iG16 rfl⟩ ⟨rfl, rfl⟩ (pj_Y_up (by decide) (ct_83 G16 iG16 ((Int8.ofInt 58).toInt32) ((Int8.ofInt 58).toInt32) ⟨by omega, by omega⟩ ⟨by omega, by omega⟩)) ?_
        rintro _ G18 ⟨y17, rfl, iG18, jG18, ry17, ey17⟩
        have kG18 : pj_kpt kc_41_14 G0 G18 := pj_kpt_t kG16 (pj_kpt_s jG18 rfl)
        show pj_X _ _ G18 90 [(0, .ref 14), (1, .ref 2), (2, .int v2)] [.int y17] _
        refine pj_X_of (fun r h => pj_R_to (G18, 92, [(0, .ref 14), (1, .ref 2), (2, .int v2)], [.ref 14], 0, 0) 92 3 (fun _ => rfl) h) ?_
        refine pj_X_of (fun r h => pj_T_gr iG18 rfl rfl rfl h) ?_
        refine pj_X_of (fun r h => pj_R_to (G18, 102, [(0, .ref 14), (1, .ref 2), (2, .int v2)], [.int ((Int8.ofInt 57).toInt32), .int ((Int8.ofInt 49).toInt32), .ref 2, .int (Int32.ofInt 1), .int v2, .ref 18], 0, 0) 102 6 (fun _ => rfl) h) ?_
        refine pj_X_ca (vs := [.ref 2, .int ((Int8.ofInt 49).toInt32), .int ((Int8.ofInt 57).toInt32)]) rfl (fun _ => rfl) ⟨Nat.le_of_ble_eq_true rfl, Nat.le_of_ble_eq_true rfl, pj_T_rcv iG18 rfl⟩ ⟨rfl, rfl⟩ (pj_Y_up (by decide) (ct_83 G18 iG18 ((Int8.ofInt 49).toInt32) ((Int8.ofInt 57).toInt32) ⟨by omega, by omega⟩ ⟨by omega, by omega⟩)) ?_
        rintro _ G20 ⟨y19, rfl, iG20, jG20, ry19, ey19⟩
        have kG20 : pj_kpt kc_41_14 G0 G20 := pj_kpt_t kG18 (pj_kpt_s jG20 rfl)
        show pj_X _ _ G20 105 [(0, .ref 14), (1, .ref 2), (2, .int v2)] [.int y19, .int (Int32.ofInt 1), .int v2, .ref 18] _
        refine pj_X_of (fun r h => pj_R_to (G20, 106, [(0, .ref 14), (1, .ref 2), (2, .int v2)], [.int ((Int32.ofInt 1) + y19), .int v2, .ref 18], 0, 0) 106 2 (fun _ => rfl) h) ?_
        obtain ⟨z21, hz21⟩ : ∃ z : Int32, z = (Int32.ofInt 1) + y19 := ⟨_, rfl⟩
        rw [← hz21]
        have fz21_0 : z21.toInt = (Int32.ofInt 1).toInt + y19.toInt := by rw [hz21]; exact pj_addI (by have := pj_i32 (Int32.ofInt 1); have := pj_i32 y19; omega) (by have := pj_i32 (Int32.ofInt 1); have := pj_i32 y19; omega)
        refine pj_X_of (fun r h => pj_T_is iG20 rfl rfl (by omega) (by omega) h) ?_
        show pj_X _ _ (pj_wa G20 18 v2.toInt.toNat z21) 107 [(0, .ref 14), (1, .ref 2), (2, .int v2)] [] _
        obtain ⟨G22, hG22⟩ : ∃ H, H = pj_wa G20 18 v2.toInt.toNat z21 := ⟨_, rfl⟩
        have iG22 : pj_Inv G22 := by rw [hG22]; exact pj_Inv_wa iG20 rfl (fun q hq => by cases hq; exact ⟨by show (0 : Int) ≤ _; omega, by show _ ≤ (9 : Int); omega, by show _ ≤ (0 : Int) ∨ (0 : Int) ≤ _; omega⟩) (fun n hn => by cases hn)
        have kG22 : pj_kpt kc_41_14 G0 G22 := by rw [hG22]; exact pj_kpt_a kG20 rfl
        rw [← hG22]
        refine pj_X_of (fun r h => pj_R_to (G22, 111, [(0, .ref 14), (1, .ref 2), (2, .int v2)], [.int (v2 + (Int32.ofInt 1)), .ref 14], 0, 0) 111 5 (fun _ => rfl) h) ?_
        obtain ⟨z23, hz23⟩ : ∃ z : Int32, z = v2 + (Int32.ofInt 1) := ⟨_, rfl⟩
        rw [← hz23]
        have fz23_0 : z23.toInt = v2.toInt + (Int32.ofInt 1).toInt := by rw [hz23]; exact pj_addI (by have := pj_i32 v2; have := pj_i32 (Int32.ofInt 1); omega) (by have := pj_i32 v2; have := pj_i32 (Int32.ofInt 1); omega)
        refine pj_X_of (fun r h => pj_T_pf iG22 rfl rfl rfl h) ?_
        show pj_X _ _ (pj_wv G22 14 1 (.int z23)) 114 [(0, .ref 14), (1, .ref 2), (2, .int v2)] [] _
        obtain ⟨G24, hG24⟩ : ∃ H, H = pj_wv G22 14 1 (.int z23) := ⟨_, rfl⟩
        have iG24 : pj_Inv G24 := by rw [hG24]; exact pj_Inv_wi iG22 (ci := 5) rfl (fun q hq => by cases hq; exact ⟨by show (0 : Int) ≤ _; omega, by show _ ≤ (10 : Int); omega⟩)
        have kG24 : pj_kpt kc_41_14 G0 G24 := by rw [hG24]; exact pj_kpt_v kG22 rfl
        rw [← hG24]
        refine pj_X_of (fun r h => pj_R_to (G24, 117, [(2, .int (v2 + Int32.ofInt 1)), (0, .ref 14), (1, .ref 2)], [], 0, 0) 117 2 (fun _ => rfl) h) ?_
        obtain ⟨z25, hz25⟩ : ∃ z : Int32, z = v2 + Int32.ofInt 1 := ⟨_, rfl⟩
        rw [← hz25]
        have fz25_0 : z25.toInt = v2.toInt + (Int32.ofInt 1).toInt := by rw [hz25]; exact pj_addI (by have := pj_i32 v2; have := pj_i32 (Int32.ofInt 1); omega) (by have := pj_i32 v2; have := pj_i32 (Int32.ofInt 1); omega)
        refine pj_X_of (fun r h => pj_R_to (G24, 21, [(2, .int z25), (0, .ref 14), (1, .ref 2)], [], 0, 0) 21 2 (fun _ => rfl) h) ?_
        exact pj_X_sub [(0, .ref 14), (1, .ref 2), (2, .int z25)] (show List.Nodup [0, 1, 2] by decide) ⟨rfl, rfl, rfl, trivial⟩ (ih G24 iG24 kG24 z25 ⟨by omega, by omega⟩ (by omega))
theorem ct_41_14 (G0 : pj_G) (hI : pj_Inv G0) : pj_Y 4 41 [.ref 14, .ref 2] G0 (fun v G' => v = none ∧ pj_Inv G' ∧ pj_kpt kc_41_14 G0 G') := by
  have c0_ : ((Int8.ofInt 10).toInt32).toInt = 10 := by decide
  have c1_ : ((Int8.ofInt 49).toInt32).toInt = 49 := by decide
  have c2_ : ((Int8.ofInt 50).toInt32).toInt = 50 := by decide
  have c3_ : ((Int8.ofInt 56).toInt32).toInt = 56 := by decide
  have c4_ : ((Int8.ofInt 57).toInt32).toInt = 57 := by decide
  have c5_ : ((Int8.ofInt 58).toInt32).toInt = 58 := by decide
  have c6_ : ((Int8.ofInt 59).toInt32).toInt = 59 := by decide
  have c7_ : (Int32.ofInt (-1)).toInt = -1 := by decide
  have c8_ : (Int32.ofInt 0).toInt = 0 := by decide
  have c9_ : (Int32.ofInt 1).toInt = 1 := by decide
  have c10_ : (Int32.ofInt 2).toInt = 2 := by decide
  refine pj_Y_X (M := pj_m41) rfl rfl (Nat.le_of_ble_eq_true rfl) ?_
  have hK : pj_kpt kc_41_14 G0 G0 := pj_kpt_r _ _
  show pj_X _ _ G0 0 [(0, .ref 14), (1, .ref 2)] [] _
  refine pj_X_of (fun r h => pj_R_to (G0, 7, [(0, .ref 14), (1, .ref 2)], [.int ((Int8.ofInt 56).toInt32), .int ((Int8.ofInt 50).toInt32), .ref 2, .int (Int32.ofInt 2), .ref 14], 0, 0) 7 6 (fun _ => rfl) h) ?_
  refine pj_X_ca (vs := [.ref 2, .int ((Int8.ofInt 50).toInt32), .int ((Int8.ofInt 56).toInt32)]) rfl (fun _ => rfl) ⟨Nat.le_of_ble_eq_true rfl, Nat.le_of_ble_eq_true rfl, pj_T_rcv hI rfl⟩ ⟨rfl, rfl⟩ (pj_Y_up (by decide) (ct_83 G0 hI ((Int8.ofInt 50).toInt32) ((Int8.ofInt 56).toInt32) ⟨by omega, by omega⟩ ⟨by omega, by omega⟩)) ?_
  rintro _ G27 ⟨y26, rfl, iG27, jG27, ry26, ey26⟩
  have kG27 : pj_kpt kc_41_14 G0 G27 := pj_kpt_t hK (pj_kpt_s jG27 rfl)
  show pj_X _ _ G27 10 [(0, .ref 14), (1, .ref 2)] [.int y26, .int (Int32.ofInt 2), .ref 14] _
  refine pj_X_of (fun r h => pj_R_to (G27, 11, [(0, .ref 14), (1, .ref 2)], [.int ((Int32.ofInt 2) + y26), .ref 14], 0, 0) 11 2 (fun _ => rfl) h) ?_
  obtain ⟨z28, hz28⟩ : ∃ z : Int32, z = (Int32.ofInt 2) + y26 := ⟨_, rfl⟩
  rw [← hz28]
  have fz28_0 : z28.toInt = (Int32.ofInt 2).toInt + y26.toInt := by rw [hz28]; exact pj_addI (by have := pj_i32 (Int32.ofInt 2); have := pj_i32 y26; omega) (by have := pj_i32 (Int32.ofInt 2); have := pj_i32 y26; omega)
  refine pj_X_of (fun r h => pj_T_pf iG27 rfl rfl rfl h) ?_
  show pj_X _ _ (pj_wv G27 14 0 (.int z28)) 14 [(0, .ref 14), (1, .ref 2)] [] _
  obtain ⟨G29, hG29⟩ : ∃ H, H = pj_wv G27 14 0 (.int z28) := ⟨_, rfl⟩
  have iG29 : pj_Inv G29 := by rw [hG29]; exact pj_Inv_wi iG27 (ci := 5) rfl (fun q hq => by cases hq; exact ⟨by show (0 : Int) ≤ _; omega, by show _ ≤ (8 : Int); omega⟩)
  have kG29 : pj_kpt kc_41_14 G0 G29 := by rw [hG29]; exact pj_kpt_v kG27 rfl
  rw [← hG29]
  refine pj_X_of (fun r h => pj_R_to (G29, 16, [(0, .ref 14), (1, .ref 2)], [.int (Int32.ofInt 0), .ref 14], 0, 0) 16 3 (fun _ => rfl) h) ?_
  refine pj_X_of (fun r h => pj_T_pf iG29 rfl rfl rfl h) ?_
  show pj_X _ _ (pj_wv G29 14 1 (.int (Int32.ofInt 0))) 19 [(0, .ref 14), (1, .ref 2)] [] _
  obtain ⟨G30, hG30⟩ : ∃ H, H = pj_wv G29 14 1 (.int (Int32.ofInt 0)) := ⟨_, rfl⟩
  have iG30 : pj_Inv G30 := by rw [hG30]; exact pj_Inv_wi iG29 (ci := 5) rfl (fun q hq => by cases hq; exact ⟨by show (0 : Int) ≤ _; omega, by show _ ≤ (10 : Int); omega⟩)
  have kG30 : pj_kpt kc_41_14 G0 G30 := by rw [hG30]; exact pj_kpt_v kG29 rfl
  rw [← hG30]
  refine pj_X_of (fun r h => pj_R_to (G30, 21, [(2, .int (Int32.ofInt 0)), (0, .ref 14), (1, .ref 2)], [], 0, 0) 21 3 (fun _ => rfl) h) ?_
  exact pj_X_sub [(0, .ref 14), (1, .ref 2), (2, .int (Int32.ofInt 0))] (show List.Nodup [0, 1, 2] by decide) ⟨rfl, rfl, rfl, trivial⟩ ((lp_ct_41_14 G0 hI   11) G30 iG30 kG30 (Int32.ofInt 0) ⟨by omega, by omega⟩ (by omega))
def kc_91 : pj_KT := ([(2, 3), (2, 4)], [2, 22, 23, 24, 25, 31], [22, 23, 24, 25, 31])
theorem lp_ct_91 (G0 : pj_G) (hI0 : pj_Inv G0) : ∀ mn : Nat, (∀ (G : pj_G) (hI : pj_Inv G) (hK : pj_kpt kc_91 G0 G) (v2 : Int32) (v3 : Int32) (v4 : Int32), ((0 : Int) ≤ v2.toInt ∧ v2.toInt ≤ 7) → ((0 : Int) ≤ v3.toInt ∧ v3.toInt ≤ 1) → ((0 : Int) ≤ v4.toInt ∧ v4.toInt ≤ 7) → (v4.toInt = (pj_fi G 21 0).toInt + v2.toInt) → (v4.toInt = 7 → (pj_fi G 2 4).toInt ≠ -1) → 7 - v4.toInt < (mn : Int) → pj_X 2 pj_m91 G 25 [(0, .ref 6), (1, .ref 2), (2, .int v2), (3, .int v3), (4, .int v4)] [] (fun v G' => ∃ y : Int32, v = some (.int y) ∧ pj_Inv G' ∧ pj_kpt kc_91 G0 G' ∧ ((0 : Int) ≤ y.toInt ∧ y.toInt ≤ 7) ∧ ((pj_fi G' 2 4).toInt = -1 → (pj_fi G' 21 0).toInt + y.toInt ≤ 6))) := by
  have c0_ : ((Int8.ofInt 48).toInt32).toInt = 48 := by decide
  have c1_ : ((Int8.ofInt 49).toInt32).toInt = 49 := by decide
  have c2_ : ((Int8.ofInt 57).toInt32).toInt = 57 := by decide
  have c3_ : ((Int8.ofInt 59).toInt32).toInt = 59 := by decide
  have c4_ : ((Int8.ofInt 6).toInt32).toInt = 6 := by decide
  have c5_ : (Int32.ofInt (-1)).toInt = -1 := by decide
  have c6_ : (Int32.ofInt 0).toInt = 0 := by decide
  have c7_ : (Int32.ofInt 1).toInt = 1 := by decide
  intro mn
  induction mn with
  | zero =>
    intro G hI hK v2 v3 v4 rv2 rv3 rv4 x0_ x1_ hm
    exfalso
    omega
  | succ mn ih =>
    intro G hI hK v2 v3 v4 rv2 rv3 rv4 x0_ x1_ hm
    obtain ⟨y1, hy1⟩ : ∃ z : Int32, z = pj_fi G 21 0 := ⟨_, rfl⟩
    have ey1 : (pj_fi G 21 0).toInt = y1.toInt := by rw [hy1]
    have ry1 : (0 : Int) ≤ y1.toInt ∧ y1.toInt ≤ 6 := by rw [hy1]; exact hI.2.1 21 0 (0, 6) rfl
    obtain ⟨y2, hy2⟩ : ∃ z : Int32, z = pj_fi G 2 4 := ⟨_, rfl⟩
    have ey2 : (pj_fi G 2 4).toInt = y2.toInt := by rw [hy2]
    have ry2 : (-1 : Int) ≤ y2.toInt ∧ y2.toInt ≤ 80 := by rw [hy2]; exact hI.2.1 2 4 (-1, 80) rfl
    refine pj_X_of (fun r h => pj_R_to (G, 29, [(0, .ref 6), (1, .ref 2), (2, .int v2), (3, .int v3), (4, .int v4)], [.int ((Int8.ofInt 6).toInt32), .int v4], 0, 0) 29 3 (fun _ => rfl) h) ?_
    cases b3 : pj_c1 .gt v4 ((Int8.ofInt 6).toInt32) with
    | true =>
      have ub3 := pj_u_gtT b3
      refine pj_X_of (fun r h => pj_R_icT 134 rfl rfl b3 h) ?_
      refine pj_X_of (fun r h => pj_R_to (G, 135, [(0, .ref 6), (1, .ref 2), (2, .int v2), (3, .int v3), (4, .int v4)], [.int v2], 0, 0) 135 2 (fun _ => rfl) h) ?_
      have q4 : (pj_fi G 21 0).toInt = y1.toInt := by rw [show pj_fi G 21 0 = y1 from hy1.symm]
      have q5 : (pj_fi G 2 4).toInt = y2.toInt := by rw [show pj_fi G 2 4 = y2 from hy2.symm]
      exact pj_X_rt rfl rfl ⟨_, rfl, hI, hK, ⟨by omega, by omega⟩, by omega⟩
    | false =>
      have ub3 := pj_u_gtF b3
      refine pj_X_of (fun r h => pj_R_icF rfl b3 h) ?_
      refine pj_X_of (fun r h => pj_R_to (G, 33, [(0, .ref 6), (1, .ref 2), (2, .int v2), (3, .int v3), (4, .int v4)], [.int v3], 0, 0) 33 2 (fun _ => rfl) h) ?_
      cases b6 : pj_c1 .eq v3 0 with
      | true =>
        have ub6 := pj_u0_eqT b6
        refine pj_X_of (fun r h => pj_R_ifT 134 rfl rfl b6 h) ?_
        refine pj_X_of (fun r h => pj_R_to (G, 135, [(0, .ref 6), (1, .ref 2), (2, .int v2), (3, .int v3), (4, .int v4)], [.int v2], 0, 0) 135 2 (fun _ => rfl) h) ?_
        have q7 : (pj_fi G 21 0).toInt = y1.toInt := by rw [show pj_fi G 21 0 = y1 from hy1.symm]
        have q8 : (pj_fi G 2 4).toInt = y2.toInt := by rw [show pj_fi G 2 4 = y2 from hy2.symm]
        exact pj_X_rt rfl rfl ⟨_, rfl, hI, hK, ⟨by omega, by omega⟩, by omega⟩
      | false =>
        have ub6 := pj_u0_eqF b6
        refine pj_X_of (fun r h => pj_R_ifF rfl b6 h) ?_
        refine pj_X_of (fun r h => pj_R_to (G, 40, [(0, .ref 6), (1, .ref 2), (2, .int v2), (3, .int v3), (4, .int v4)], [.int ((Int8.ofInt 6).toInt32), .int v4], 0, 0) 40 3 (fun _ => rfl) h) ?_
        cases b9 : pj_c1 .ge v4 ((Int8.ofInt 6).toInt32) with
        | true =>
          have ub9 := pj_u_geT b9
          refine pj_X_of (fun r h => pj_R_icT 114 rfl rfl b9 h) ?_
          refine pj_X_of (fun r h => pj_R_to (G, 115, [(0, .ref 6), (1, .ref 2), (2, .int v2), (3, .int v3), (4, .int v4)], [.ref 2], 0, 0) 115 2 (fun _ => rfl) h) ?_
          have q10 : (pj_fi G 21 0).toInt = y1.toInt := by rw [show pj_fi G 21 0 = y1 from hy1.symm]
          have q11 : (pj_fi G 2 4).toInt = y2.toInt := by rw [show pj_fi G 2 4 = y2 from hy2.symm]
          refine pj_X_ca (vs := [.ref 2]) rfl (fun _ => rfl) ⟨Nat.le_of_ble_eq_true rfl, Nat.le_of_ble_eq_true rfl, pj_T_rcv hI rfl⟩ ⟨rfl, rfl⟩ (pj_Y_up (by decide) (ct_81 G hI)) ?_
          rintro _ G13 ⟨rfl, iG13, jG13, eG13⟩
          have kG13 : pj_kpt kc_91 G0 G13 := pj_kpt_t hK (pj_kpt_s jG13 rfl)
          have q14 : (pj_fi G13 21 0).toInt = (pj_fi G 21 0).toInt := by rw [jG13.1 (21, 0) (by decide)]
          obtain ⟨y15, hy15⟩ : ∃ z : Int32, z = pj_fi G13 21 0 := ⟨_, rfl⟩
          have ey15 : (pj_fi G13 21 0).toInt = y15.toInt := by rw [hy15]
          have ry15 : (0 : Int) ≤ y15.toInt ∧ y15.toInt ≤ 6 := by rw [hy15]; exact iG13.2.1 21 0 (0, 6) rfl
          obtain ⟨y16, hy16⟩ : ∃ z : Int32, z = pj_fi G13 2 4 := ⟨_, rfl⟩
          have ey16 : (pj_fi G13 2 4).toInt = y16.toInt := by rw [hy16]
          have ry16 : (-1 : Int) ≤ y16.toInt ∧ y16.toInt ≤ 80 := by rw [hy16]; exact iG13.2.1 2 4 (-1, 80) rfl
          show pj_X _ _ G13 118 [(0, .ref 6), (1, .ref 2), (2, .int v2), (3, .int v3), (4, .int v4)] [] _
          refine pj_X_of (fun r h => pj_R_to (G13, 121, [(2, .int (v2 + Int32.ofInt 1)), (0, .ref 6), (1, .ref 2), (3, .int v3), (4, .int v4)], [], 0, 0) 121 2 (fun _ => rfl) h) ?_
          obtain ⟨z17, hz17⟩ : ∃ z : Int32, z = v2 + Int32.ofInt 1 := ⟨_, rfl⟩
          rw [← hz17]
          have fz17_0 : z17.toInt = v2.toInt + (Int32.ofInt 1).toInt := by rw [hz17]; exact pj_addI (by have := pj_i32 v2; have := pj_i32 (Int32.ofInt 1); omega) (by have := pj_i32 v2; have := pj_i32 (Int32.ofInt 1); omega)
          refine pj_X_of (fun r h => pj_R_to (G13, 124, [(2, .int z17), (0, .ref 6), (1, .ref 2), (3, .int v3), (4, .int v4)], [.int ((Int8.ofInt 59).toInt32), .ref 2], 0, 0) 124 3 (fun _ => rfl) h) ?_
          have q18 : (pj_fi G13 21 0).toInt = y15.toInt := by rw [show pj_fi G13 21 0 = y15 from hy15.symm]
          have q19 : (pj_fi G13 2 4).toInt = y16.toInt := by rw [show pj_fi G13 2 4 = y16 from hy16.symm]
          refine pj_X_ca (vs := [.ref 2, .int ((Int8.ofInt 59).toInt32)]) rfl (fun _ => rfl) ⟨Nat.le_of_ble_eq_true rfl, Nat.le_of_ble_eq_true rfl, pj_T_rcv iG13 rfl⟩ ⟨rfl, rfl⟩ (pj_Y_up (by decide) (ct_82 G13 iG13 ((Int8.ofInt 59).toInt32) ⟨by omega, by omega⟩)) ?_
          rintro _ G21 ⟨y20, rfl, iG21, jG21, ry20⟩
          have kG21 : pj_kpt kc_91 G0 G21 := pj_kpt_t kG13 (pj_kpt_s jG21 rfl)
          have q22 : (pj_fi G21 21 0).toInt = (pj_fi G13 21 0).toInt := by rw [jG21.1 (21, 0) (by decide)]
          have q23 : (pj_fi G21 2 4).toInt = (pj_fi G13 2 4).toInt := by rw [jG21.1 (2, 4) (by decide)]
          obtain ⟨y24, hy24⟩ : ∃ z : Int32, z = pj_fi G21 21 0 := ⟨_, rfl⟩
          have ey24 : (pj_fi G21 21 0).toInt = y24.toInt := by rw [hy24]
          have ry24 : (0 : Int) ≤ y24.toInt ∧ y24.toInt ≤ 6 := by rw [hy24]; exact iG21.2.1 21 0 (0, 6) rfl
          obtain ⟨y25, hy25⟩ : ∃ z : Int32, z = pj_fi G21 2 4 := ⟨_, rfl⟩
          have ey25 : (pj_fi G21 2 4).toInt = y25.toInt := by rw [hy25]
          have ry25 : (-1 : Int) ≤ y25.toInt ∧ y25.toInt ≤ 80 := by rw [hy25]; exact iG21.2.1 2 4 (-1, 80) rfl
          show pj_X _ _ G21 127 [(2, .int z17), (0, .ref 6), (1, .ref 2), (3, .int v3), (4, .int v4)] [.int y20] _
          refine pj_X_of (fun r h => pj_R_to (G21, 131, [(4, .int (v4 + Int32.ofInt 1)), (3, .int y20), (2, .int z17), (0, .ref 6), (1, .ref 2)], [], 0, 0) 131 3 (fun _ => rfl) h) ?_
          obtain ⟨z26, hz26⟩ : ∃ z : Int32, z = v4 + Int32.ofInt 1 := ⟨_, rfl⟩
          rw [← hz26]
          have fz26_0 : z26.toInt = v4.toInt + (Int32.ofInt 1).toInt := by rw [hz26]; exact pj_addI (by have := pj_i32 v4; have := pj_i32 (Int32.ofInt 1); omega) (by have := pj_i32 v4; have := pj_i32 (Int32.ofInt 1); omega)
          refine pj_X_of (fun r h => pj_R_to (G21, 25, [(4, .int z26), (3, .int y20), (2, .int z17), (0, .ref 6), (1, .ref 2)], [], 0, 0) 25 2 (fun _ => rfl) h) ?_
          have q27 : (pj_fi G21 21 0).toInt = y24.toInt := by rw [show pj_fi G21 21 0 = y24 from hy24.symm]
          have q28 : (pj_fi G21 2 4).toInt = y25.toInt := by rw [show pj_fi G21 2 4 = y25 from hy25.symm]
          exact pj_X_sub [(0, .ref 6), (1, .ref 2), (2, .int z17), (3, .int y20), (4, .int z26)] (show List.Nodup [0, 1, 2, 3, 4] by decide) ⟨rfl, rfl, rfl, rfl, rfl, trivial⟩ (ih G21 iG21 kG21 z17 y20 z26 ⟨by omega, by omega⟩ ⟨by omega, by omega⟩ ⟨by omega, by omega⟩ (by omega) (by omega) (by omega))
        | false =>
          have ub9 := pj_u_geF b9
          refine pj_X_of (fun r h => pj_R_icF rfl b9 h) ?_
          refine pj_X_of (fun r h => pj_R_to (G, 44, [(0, .ref 6), (1, .ref 2), (2, .int v2), (3, .int v3), (4, .int v4)], [.ref 6], 0, 0) 44 2 (fun _ => rfl) h) ?_
          refine pj_X_of (fun r h => pj_T_gr hI rfl rfl rfl h) ?_
          refine pj_X_of (fun r h => pj_R_to (G, 55, [(0, .ref 6), (1, .ref 2), (2, .int v2), (3, .int v3), (4, .int v4)], [.int ((Int8.ofInt 57).toInt32), .int ((Int8.ofInt 49).toInt32), .ref 2, .int (Int32.ofInt 1), .int v4, .ref 31], 0, 0) 55 6 (fun _ => rfl) h) ?_
          have q29 : (pj_fi G 21 0).toInt = y1.toInt := by rw [show pj_fi G 21 0 = y1 from hy1.symm]
          have q30 : (pj_fi G 2 4).toInt = y2.toInt := by rw [show pj_fi G 2 4 = y2 from hy2.symm]
          refine pj_X_ca (vs := [.ref 2, .int ((Int8.ofInt 49).toInt32), .int ((Int8.ofInt 57).toInt32)]) rfl (fun _ => rfl) ⟨Nat.le_of_ble_eq_true rfl, Nat.le_of_ble_eq_true rfl, pj_T_rcv hI rfl⟩ ⟨rfl, rfl⟩ (pj_Y_up (by decide) (ct_83 G hI ((Int8.ofInt 49).toInt32) ((Int8.ofInt 57).toInt32) ⟨by omega, by omega⟩ ⟨by omega, by omega⟩)) ?_
          rintro _ G32 ⟨y31, rfl, iG32, jG32, ry31, ey31⟩
          have kG32 : pj_kpt kc_91 G0 G32 := pj_kpt_t hK (pj_kpt_s jG32 rfl)
          have q33 : (pj_fi G32 21 0).toInt = (pj_fi G 21 0).toInt := by rw [jG32.1 (21, 0) (by decide)]
          obtain ⟨y34, hy34⟩ : ∃ z : Int32, z = pj_fi G32 21 0 := ⟨_, rfl⟩
          have ey34 : (pj_fi G32 21 0).toInt = y34.toInt := by rw [hy34]
          have ry34 : (0 : Int) ≤ y34.toInt ∧ y34.toInt ≤ 6 := by rw [hy34]; exact iG32.2.1 21 0 (0, 6) rfl
          obtain ⟨y35, hy35⟩ : ∃ z : Int32, z = pj_fi G32 2 4 := ⟨_, rfl⟩
          have ey35 : (pj_fi G32 2 4).toInt = y35.toInt := by rw [hy35]
          have ry35 : (-1 : Int) ≤ y35.toInt ∧ y35.toInt ≤ 80 := by rw [hy35]; exact iG32.2.1 2 4 (-1, 80) rfl
          show pj_X _ _ G32 58 [(0, .ref 6), (1, .ref 2), (2, .int v2), (3, .int v3), (4, .int v4)] [.int y31, .int (Int32.ofInt 1), .int v4, .ref 31] _
          refine pj_X_of (fun r h => pj_R_to (G32, 59, [(0, .ref 6), (1, .ref 2), (2, .int v2), (3, .int v3), (4, .int v4)], [.int ((Int32.ofInt 1) + y31), .int v4, .ref 31], 0, 0) 59 2 (fun _ => rfl) h) ?_
          obtain ⟨z36, hz36⟩ : ∃ z : Int32, z = (Int32.ofInt 1) + y31 := ⟨_, rfl⟩
          rw [← hz36]
          have fz36_0 : z36.toInt = (Int32.ofInt 1).toInt + y31.toInt := by rw [hz36]; exact pj_addI (by have := pj_i32 (Int32.ofInt 1); have := pj_i32 y31; omega) (by have := pj_i32 (Int32.ofInt 1); have := pj_i32 y31; omega)
          refine pj_X_of (fun r h => pj_T_is iG32 rfl rfl (by omega) (by omega) h) ?_
          show pj_X _ _ (pj_wa G32 31 v4.toInt.toNat z36) 60 [(0, .ref 6), (1, .ref 2), (2, .int v2), (3, .int v3), (4, .int v4)] [] _
          obtain ⟨G37, hG37⟩ : ∃ H, H = pj_wa G32 31 v4.toInt.toNat z36 := ⟨_, rfl⟩
          have iG37 : pj_Inv G37 := by rw [hG37]; exact pj_Inv_wa iG32 rfl (fun q hq => by cases hq) (fun n hn => by cases hn)
          have kG37 : pj_kpt kc_91 G0 G37 := by rw [hG37]; exact pj_kpt_a kG32 rfl
          rw [← hG37]
          refine pj_X_of (fun r h => pj_R_to (G37, 61, [(0, .ref 6), (1, .ref 2), (2, .int v2), (3, .int v3), (4, .int v4)], [.ref 6], 0, 0) 61 2 (fun _ => rfl) h) ?_
          refine pj_X_of (fun r h => pj_T_gr iG37 rfl rfl rfl h) ?_
          refine pj_X_of (fun r h => pj_T_gr iG37 rfl rfl rfl h) ?_
          refine pj_X_of (fun r h => pj_R_to (G37, 74, [(0, .ref 6), (1, .ref 2), (2, .int v2), (3, .int v3), (4, .int v4)], [.int ((Int8.ofInt 57).toInt32), .int ((Int8.ofInt 48).toInt32), .ref 2, .int v4, .ref 24], 0, 0) 74 5 (fun _ => rfl) h) ?_
          have q38 : (pj_fi G37 21 0).toInt = y34.toInt := by rw [show pj_fi G37 21 0 = y34 from by rw [hG37, pj_fi_wa]; exact hy34.symm]
          have q39 : (pj_fi G37 2 4).toInt = y35.toInt := by rw [show pj_fi G37 2 4 = y35 from by rw [hG37, pj_fi_wa]; exact hy35.symm]
          refine pj_X_ca (vs := [.ref 2, .int ((Int8.ofInt 48).toInt32), .int ((Int8.ofInt 57).toInt32)]) rfl (fun _ => rfl) ⟨Nat.le_of_ble_eq_true rfl, Nat.le_of_ble_eq_true rfl, pj_T_rcv iG37 rfl⟩ ⟨rfl, rfl⟩ (pj_Y_up (by decide) (ct_83 G37 iG37 ((Int8.ofInt 48).toInt32) ((Int8.ofInt 57).toInt32) ⟨by omega, by omega⟩ ⟨by omega, by omega⟩)) ?_
          rintro _ G41 ⟨y40, rfl, iG41, jG41, ry40, ey40⟩
          have kG41 : pj_kpt kc_91 G0 G41 := pj_kpt_t kG37 (pj_kpt_s jG41 rfl)
          have q42 : (pj_fi G41 21 0).toInt = (pj_fi G37 21 0).toInt := by rw [jG41.1 (21, 0) (by decide)]
          obtain ⟨y43, hy43⟩ : ∃ z : Int32, z = pj_fi G41 21 0 := ⟨_, rfl⟩
          have ey43 : (pj_fi G41 21 0).toInt = y43.toInt := by rw [hy43]
          have ry43 : (0 : Int) ≤ y43.toInt ∧ y43.toInt ≤ 6 := by rw [hy43]; exact iG41.2.1 21 0 (0, 6) rfl
          obtain ⟨y44, hy44⟩ : ∃ z : Int32, z = pj_fi G41 2 4 := ⟨_, rfl⟩
          have ey44 : (pj_fi G41 2 4).toInt = y44.toInt := by rw [hy44]
          have ry44 : (-1 : Int) ≤ y44.toInt ∧ y44.toInt ≤ 80 := by rw [hy44]; exact iG41.2.1 2 4 (-1, 80) rfl
          show pj_X _ _ G41 77 [(0, .ref 6), (1, .ref 2), (2, .int v2), (3, .int v3), (4, .int v4)] [.int y40, .int v4, .ref 24] _
          refine pj_X_of (fun r h => pj_T_is iG41 rfl rfl (by omega) (by omega) h) ?_
          show pj_X _ _ (pj_wa G41 24 v4.toInt.toNat y40) 78 [(0, .ref 6), (1, .ref 2), (2, .int v2), (3, .int v3), (4, .int v4)] [] _
          obtain ⟨G45, hG45⟩ : ∃ H, H = pj_wa G41 24 v4.toInt.toNat y40 := ⟨_, rfl⟩
          have iG45 : pj_Inv G45 := by rw [hG45]; exact pj_Inv_wa iG41 rfl (fun q hq => by cases hq) (fun n hn => by cases hn)
          have kG45 : pj_kpt kc_91 G0 G45 := by rw [hG45]; exact pj_kpt_a kG41 rfl
          rw [← hG45]
          refine pj_X_of (fun r h => pj_R_to (G45, 79, [(0, .ref 6), (1, .ref 2), (2, .int v2), (3, .int v3), (4, .int v4)], [.ref 6], 0, 0) 79 2 (fun _ => rfl) h) ?_
          refine pj_X_of (fun r h => pj_T_gr iG45 rfl rfl rfl h) ?_
          refine pj_X_of (fun r h => pj_T_gr iG45 rfl rfl rfl h) ?_
          refine pj_X_of (fun r h => pj_R_to (G45, 88, [(0, .ref 6), (1, .ref 2), (2, .int v2), (3, .int v3), (4, .int v4)], [.int (Int32.ofInt (-1)), .int v4, .ref 22], 0, 0) 88 3 (fun _ => rfl) h) ?_
          refine pj_X_of (fun r h => pj_T_is iG45 rfl rfl (by omega) (by omega) h) ?_
          show pj_X _ _ (pj_wa G45 22 v4.toInt.toNat (Int32.ofInt (-1))) 89 [(0, .ref 6), (1, .ref 2), (2, .int v2), (3, .int v3), (4, .int v4)] [] _
          obtain ⟨G46, hG46⟩ : ∃ H, H = pj_wa G45 22 v4.toInt.toNat (Int32.ofInt (-1)) := ⟨_, rfl⟩
          have iG46 : pj_Inv G46 := by rw [hG46]; exact pj_Inv_wa iG45 rfl (fun q hq => by cases hq; exact ⟨by show (-1 : Int) ≤ _; omega, by show _ ≤ (9 : Int); omega, by show _ ≤ (-1 : Int) ∨ (-1 : Int) ≤ _; omega⟩) (fun n hn => by cases hn)
          have kG46 : pj_kpt kc_91 G0 G46 := by rw [hG46]; exact pj_kpt_a kG45 rfl
          rw [← hG46]
          refine pj_X_of (fun r h => pj_R_to (G46, 90, [(0, .ref 6), (1, .ref 2), (2, .int v2), (3, .int v3), (4, .int v4)], [.ref 6], 0, 0) 90 2 (fun _ => rfl) h) ?_
          refine pj_X_of (fun r h => pj_T_gr iG46 rfl rfl rfl h) ?_
          refine pj_X_of (fun r h => pj_T_gr iG46 rfl rfl rfl h) ?_
          refine pj_X_of (fun r h => pj_R_to (G46, 99, [(0, .ref 6), (1, .ref 2), (2, .int v2), (3, .int v3), (4, .int v4)], [.int (Int32.ofInt 0), .int v4, .ref 23], 0, 0) 99 3 (fun _ => rfl) h) ?_
          refine pj_X_of (fun r h => pj_T_is iG46 rfl rfl (by omega) (by omega) h) ?_
          show pj_X _ _ (pj_wa G46 23 v4.toInt.toNat (Int32.ofInt 0)) 100 [(0, .ref 6), (1, .ref 2), (2, .int v2), (3, .int v3), (4, .int v4)] [] _
          obtain ⟨G47, hG47⟩ : ∃ H, H = pj_wa G46 23 v4.toInt.toNat (Int32.ofInt 0) := ⟨_, rfl⟩
          have iG47 : pj_Inv G47 := by rw [hG47]; exact pj_Inv_wa iG46 rfl (fun q hq => by cases hq) (fun n hn => by cases hn)
          have kG47 : pj_kpt kc_91 G0 G47 := by rw [hG47]; exact pj_kpt_a kG46 rfl
          rw [← hG47]
          refine pj_X_of (fun r h => pj_R_to (G47, 101, [(0, .ref 6), (1, .ref 2), (2, .int v2), (3, .int v3), (4, .int v4)], [.ref 6], 0, 0) 101 2 (fun _ => rfl) h) ?_
          refine pj_X_of (fun r h => pj_T_gr iG47 rfl rfl rfl h) ?_
          refine pj_X_of (fun r h => pj_T_gr iG47 rfl rfl rfl h) ?_
          refine pj_X_of (fun r h => pj_R_to (G47, 110, [(0, .ref 6), (1, .ref 2), (2, .int v2), (3, .int v3), (4, .int v4)], [.int (Int32.ofInt (-1)), .int v4, .ref 25], 0, 0) 110 3 (fun _ => rfl) h) ?_
          refine pj_X_of (fun r h => pj_T_is iG47 rfl rfl (by omega) (by omega) h) ?_
          show pj_X _ _ (pj_wa G47 25 v4.toInt.toNat (Int32.ofInt (-1))) 111 [(0, .ref 6), (1, .ref 2), (2, .int v2), (3, .int v3), (4, .int v4)] [] _
          obtain ⟨G48, hG48⟩ : ∃ H, H = pj_wa G47 25 v4.toInt.toNat (Int32.ofInt (-1)) := ⟨_, rfl⟩
          have iG48 : pj_Inv G48 := by rw [hG48]; exact pj_Inv_wa iG47 rfl (fun q hq => by cases hq) (fun n hn => by cases hn)
          have kG48 : pj_kpt kc_91 G0 G48 := by rw [hG48]; exact pj_kpt_a kG47 rfl
          rw [← hG48]
          refine pj_X_of (fun r h => pj_R_to (G48, 121, [(2, .int (v2 + Int32.ofInt 1)), (0, .ref 6), (1, .ref 2), (3, .int v3), (4, .int v4)], [], 0, 0) 121 3 (fun _ => rfl) h) ?_
          obtain ⟨z49, hz49⟩ : ∃ z : Int32, z = v2 + Int32.ofInt 1 := ⟨_, rfl⟩
          rw [← hz49]
          have fz49_0 : z49.toInt = v2.toInt + (Int32.ofInt 1).toInt := by rw [hz49]; exact pj_addI (by have := pj_i32 v2; have := pj_i32 (Int32.ofInt 1); omega) (by have := pj_i32 v2; have := pj_i32 (Int32.ofInt 1); omega)
          refine pj_X_of (fun r h => pj_R_to (G48, 124, [(2, .int z49), (0, .ref 6), (1, .ref 2), (3, .int v3), (4, .int v4)], [.int ((Int8.ofInt 59).toInt32), .ref 2], 0, 0) 124 3 (fun _ => rfl) h) ?_
          have q50 : (pj_fi G48 21 0).toInt = y43.toInt := by rw [show pj_fi G48 21 0 = y43 from by rw [hG48, pj_fi_wa]; exact (by rw [hG47, pj_fi_wa]; exact (by rw [hG46, pj_fi_wa]; exact (by rw [hG45, pj_fi_wa]; exact hy43.symm)))]
          have q51 : (pj_fi G48 2 4).toInt = y44.toInt := by rw [show pj_fi G48 2 4 = y44 from by rw [hG48, pj_fi_wa]; exact (by rw [hG47, pj_fi_wa]; exact (by rw [hG46, pj_fi_wa]; exact (by rw [hG45, pj_fi_wa]; exact hy44.symm)))]
          refine pj_X_ca (vs := [.ref 2, .int ((Int8.ofInt 59).toInt32)]) rfl (fun _ => rfl) ⟨Nat.le_of_ble_eq_true rfl, Nat.le_of_ble_eq_true rfl, pj_T_rcv iG48 rfl⟩ ⟨rfl, rfl⟩ (pj_Y_up (by decide) (ct_82 G48 iG48 ((Int8.ofInt 59).toInt32) ⟨by omega, by omega⟩)) ?_
          rintro _ G53 ⟨y52, rfl, iG53, jG53, ry52⟩
          have kG53 : pj_kpt kc_91 G0 G53 := pj_kpt_t kG48 (pj_kpt_s jG53 rfl)
          have q54 : (pj_fi G53 21 0).toInt = (pj_fi G48 21 0).toInt := by rw [jG53.1 (21, 0) (by decide)]
          have q55 : (pj_fi G53 2 4).toInt = (pj_fi G48 2 4).toInt := by rw [jG53.1 (2, 4) (by decide)]
          obtain ⟨y56, hy56⟩ : ∃ z : Int32, z = pj_fi G53 21 0 := ⟨_, rfl⟩
          have ey56 : (pj_fi G53 21 0).toInt = y56.toInt := by rw [hy56]
          have ry56 : (0 : Int) ≤ y56.toInt ∧ y56.toInt ≤ 6 := by rw [hy56]; exact iG53.2.1 21 0 (0, 6) rfl
          obtain ⟨y57, hy57⟩ : ∃ z : Int32, z = pj_fi G53 2 4 := ⟨_, rfl⟩
          have ey57 : (pj_fi G53 2 4).toInt = y57.toInt := by rw [hy57]
          have ry57 : (-1 : Int) ≤ y57.toInt ∧ y57.toInt ≤ 80 := by rw [hy57]; exact iG53.2.1 2 4 (-1, 80) rfl
          show pj_X _ _ G53 127 [(2, .int z49), (0, .ref 6), (1, .ref 2), (3, .int v3), (4, .int v4)] [.int y52] _
          refine pj_X_of (fun r h => pj_R_to (G53, 131, [(4, .int (v4 + Int32.ofInt 1)), (3, .int y52), (2, .int z49), (0, .ref 6), (1, .ref 2)], [], 0, 0) 131 3 (fun _ => rfl) h) ?_
          obtain ⟨z58, hz58⟩ : ∃ z : Int32, z = v4 + Int32.ofInt 1 := ⟨_, rfl⟩
          rw [← hz58]
          have fz58_0 : z58.toInt = v4.toInt + (Int32.ofInt 1).toInt := by rw [hz58]; exact pj_addI (by have := pj_i32 v4; have := pj_i32 (Int32.ofInt 1); omega) (by have := pj_i32 v4; have := pj_i32 (Int32.ofInt 1); omega)
          refine pj_X_of (fun r h => pj_R_to (G53, 25, [(4, .int z58), (3, .int y52), (2, .int z49), (0, .ref 6), (1, .ref 2)], [], 0, 0) 25 2 (fun _ => rfl) h) ?_
          have q59 : (pj_fi G53 21 0).toInt = y56.toInt := by rw [show pj_fi G53 21 0 = y56 from hy56.symm]
          have q60 : (pj_fi G53 2 4).toInt = y57.toInt := by rw [show pj_fi G53 2 4 = y57 from hy57.symm]
          exact pj_X_sub [(0, .ref 6), (1, .ref 2), (2, .int z49), (3, .int y52), (4, .int z58)] (show List.Nodup [0, 1, 2, 3, 4] by decide) ⟨rfl, rfl, rfl, rfl, rfl, trivial⟩ (ih G53 iG53 kG53 z49 y52 z58 ⟨by omega, by omega⟩ ⟨by omega, by omega⟩ ⟨by omega, by omega⟩ (by omega) (by omega) (by omega))
theorem ct_91 (G0 : pj_G) (hI : pj_Inv G0) : pj_Y 3 91 [.ref 6, .ref 2] G0 (fun v G' => ∃ y : Int32, v = some (.int y) ∧ pj_Inv G' ∧ pj_kpt kc_91 G0 G' ∧ ((0 : Int) ≤ y.toInt ∧ y.toInt ≤ 7) ∧ ((pj_fi G' 2 4).toInt = -1 → (pj_fi G' 21 0).toInt + y.toInt ≤ 6)) := by
  have c0_ : ((Int8.ofInt 48).toInt32).toInt = 48 := by decide
  have c1_ : ((Int8.ofInt 49).toInt32).toInt = 49 := by decide
  have c2_ : ((Int8.ofInt 57).toInt32).toInt = 57 := by decide
  have c3_ : ((Int8.ofInt 59).toInt32).toInt = 59 := by decide
  have c4_ : ((Int8.ofInt 6).toInt32).toInt = 6 := by decide
  have c5_ : (Int32.ofInt (-1)).toInt = -1 := by decide
  have c6_ : (Int32.ofInt 0).toInt = 0 := by decide
  have c7_ : (Int32.ofInt 1).toInt = 1 := by decide
  refine pj_Y_X (M := pj_m91) rfl rfl (Nat.le_of_ble_eq_true rfl) ?_
  have hK : pj_kpt kc_91 G0 G0 := pj_kpt_r _ _
  show pj_X _ _ G0 0 [(0, .ref 6), (1, .ref 2)] [] _
  obtain ⟨y61, hy61⟩ : ∃ z : Int32, z = pj_fi G0 21 0 := ⟨_, rfl⟩
  have ey61 : (pj_fi G0 21 0).toInt = y61.toInt := by rw [hy61]
  have ry61 : (0 : Int) ≤ y61.toInt ∧ y61.toInt ≤ 6 := by rw [hy61]; exact hI.2.1 21 0 (0, 6) rfl
  obtain ⟨y62, hy62⟩ : ∃ z : Int32, z = pj_fi G0 2 4 := ⟨_, rfl⟩
  have ey62 : (pj_fi G0 2 4).toInt = y62.toInt := by rw [hy62]
  have ry62 : (-1 : Int) ≤ y62.toInt ∧ y62.toInt ≤ 80 := by rw [hy62]; exact hI.2.1 2 4 (-1, 80) rfl
  refine pj_X_of (fun r h => pj_R_to (G0, 3, [(2, .int (Int32.ofInt 0)), (0, .ref 6), (1, .ref 2)], [.ref 2], 0, 0) 3 4 (fun _ => rfl) h) ?_
  have q63 : (pj_fi G0 21 0).toInt = y61.toInt := by rw [show pj_fi G0 21 0 = y61 from hy61.symm]
  have q64 : (pj_fi G0 2 4).toInt = y62.toInt := by rw [show pj_fi G0 2 4 = y62 from hy62.symm]
  refine pj_X_ca (vs := [.ref 2]) rfl (fun _ => rfl) ⟨Nat.le_of_ble_eq_true rfl, Nat.le_of_ble_eq_true rfl, pj_T_rcv hI rfl⟩ ⟨rfl, rfl⟩ (pj_Y_up (by decide) (ct_80 G0 hI)) ?_
  rintro _ _ ⟨y65, rfl, rfl, ry65, ey65⟩
  show pj_X _ _ G0 6 [(2, .int (Int32.ofInt 0)), (0, .ref 6), (1, .ref 2)] [.int y65] _
  refine pj_X_of (fun r h => pj_R_to (G0, 7, [(2, .int (Int32.ofInt 0)), (0, .ref 6), (1, .ref 2)], [.int (Int32.ofInt (-1)), .int y65], 0, 0) 7 2 (fun _ => rfl) h) ?_
  cases b66 : pj_c1 .eq y65 (Int32.ofInt (-1)) with
  | true =>
    have ub66 := pj_u_eqT b66
    refine pj_X_of (fun r h => pj_R_icT 14 rfl rfl b66 h) ?_
    refine pj_X_of (fun r h => pj_R_to (G0, 17, [(3, .int (Int32.ofInt 0)), (2, .int (Int32.ofInt 0)), (0, .ref 6), (1, .ref 2)], [.ref 6], 0, 0) 17 4 (fun _ => rfl) h) ?_
    refine pj_X_of (fun r h => pj_T_gr hI rfl rfl rfl h) ?_
    refine pj_X_of (fun r h => pj_T_gi hI rfl rfl h) ?_
    show pj_X _ _ G0 23 [(3, .int (Int32.ofInt 0)), (2, .int (Int32.ofInt 0)), (0, .ref 6), (1, .ref 2)] [.int (pj_fi G0 21 0)] _
    rw [show pj_fi G0 21 0 = y61 from hy61.symm]
    refine pj_X_of (fun r h => pj_R_to (G0, 25, [(4, .int y61), (3, .int (Int32.ofInt 0)), (2, .int (Int32.ofInt 0)), (0, .ref 6), (1, .ref 2)], [], 0, 0) 25 2 (fun _ => rfl) h) ?_
    have q67 : (pj_fi G0 21 0).toInt = y61.toInt := by rw [show pj_fi G0 21 0 = y61 from hy61.symm]
    have q68 : (pj_fi G0 2 4).toInt = y62.toInt := by rw [show pj_fi G0 2 4 = y62 from hy62.symm]
    exact pj_X_sub [(0, .ref 6), (1, .ref 2), (2, .int (Int32.ofInt 0)), (3, .int (Int32.ofInt 0)), (4, .int y61)] (show List.Nodup [0, 1, 2, 3, 4] by decide) ⟨rfl, rfl, rfl, rfl, rfl, trivial⟩ ((lp_ct_91 G0 hI   8) G0 hI hK (Int32.ofInt 0) (Int32.ofInt 0) y61 ⟨by omega, by omega⟩ ⟨by omega, by omega⟩ ⟨by omega, by omega⟩ (by omega) (by omega) (by omega))
  | false =>
    have ub66 := pj_u_eqF b66
    refine pj_X_of (fun r h => pj_R_icF rfl b66 h) ?_
    refine pj_X_of (fun r h => pj_R_to (G0, 17, [(3, .int (Int32.ofInt 1)), (2, .int (Int32.ofInt 0)), (0, .ref 6), (1, .ref 2)], [.ref 6], 0, 0) 17 5 (fun _ => rfl) h) ?_
    refine pj_X_of (fun r h => pj_T_gr hI rfl rfl rfl h) ?_
    refine pj_X_of (fun r h => pj_T_gi hI rfl rfl h) ?_
    show pj_X _ _ G0 23 [(3, .int (Int32.ofInt 1)), (2, .int (Int32.ofInt 0)), (0, .ref 6), (1, .ref 2)] [.int (pj_fi G0 21 0)] _
    rw [show pj_fi G0 21 0 = y61 from hy61.symm]
    refine pj_X_of (fun r h => pj_R_to (G0, 25, [(4, .int y61), (3, .int (Int32.ofInt 1)), (2, .int (Int32.ofInt 0)), (0, .ref 6), (1, .ref 2)], [], 0, 0) 25 2 (fun _ => rfl) h) ?_
    have q69 : (pj_fi G0 21 0).toInt = y61.toInt := by rw [show pj_fi G0 21 0 = y61 from hy61.symm]
    have q70 : (pj_fi G0 2 4).toInt = y62.toInt := by rw [show pj_fi G0 2 4 = y62 from hy62.symm]
    exact pj_X_sub [(0, .ref 6), (1, .ref 2), (2, .int (Int32.ofInt 0)), (3, .int (Int32.ofInt 1)), (4, .int y61)] (show List.Nodup [0, 1, 2, 3, 4] by decide) ⟨rfl, rfl, rfl, rfl, rfl, trivial⟩ ((lp_ct_91 G0 hI   8) G0 hI hK (Int32.ofInt 0) (Int32.ofInt 1) y61 ⟨by omega, by omega⟩ ⟨by omega, by omega⟩ ⟨by omega, by omega⟩ (by omega) (by omega) (by omega))
def kc_92 : pj_KT := ([(2, 3), (2, 4)], [2, 26, 32], [26, 32])
theorem lp_ct_92 (G0 : pj_G) (hI0 : pj_Inv G0) : ∀ mn : Nat, (∀ (G : pj_G) (hI : pj_Inv G) (hK : pj_kpt kc_92 G0 G) (v2 : Int32) (v3 : Int32) (v4 : Int32), ((0 : Int) ≤ v2.toInt ∧ v2.toInt ≤ 7) → ((0 : Int) ≤ v3.toInt ∧ v3.toInt ≤ 1) → ((0 : Int) ≤ v4.toInt ∧ v4.toInt ≤ 7) → (v4.toInt = (pj_fi G 21 5).toInt + v2.toInt) → (v4.toInt = 7 → (pj_fi G 2 4).toInt ≠ -1) → 7 - v4.toInt < (mn : Int) → pj_X 3 pj_m92 G 25 [(0, .ref 6), (1, .ref 2), (2, .int v2), (3, .int v3), (4, .int v4)] [] (fun v G' => ∃ y : Int32, v = some (.int y) ∧ pj_Inv G' ∧ pj_kpt kc_92 G0 G' ∧ ((0 : Int) ≤ y.toInt ∧ y.toInt ≤ 7) ∧ ((pj_fi G' 2 4).toInt = -1 → (pj_fi G' 21 5).toInt + y.toInt ≤ 6))) := by
  have c0_ : ((Int8.ofInt 49).toInt32).toInt = 49 := by decide
  have c1_ : ((Int8.ofInt 57).toInt32).toInt = 57 := by decide
  have c2_ : ((Int8.ofInt 59).toInt32).toInt = 59 := by decide
  have c3_ : ((Int8.ofInt 6).toInt32).toInt = 6 := by decide
  have c4_ : (Int32.ofInt (-1)).toInt = -1 := by decide
  have c5_ : (Int32.ofInt 0).toInt = 0 := by decide
  have c6_ : (Int32.ofInt 1).toInt = 1 := by decide
  intro mn
  induction mn with
  | zero =>
    intro G hI hK v2 v3 v4 rv2 rv3 rv4 x0_ x1_ hm
    exfalso
    omega
  | succ mn ih =>
    intro G hI hK v2 v3 v4 rv2 rv3 rv4 x0_ x1_ hm
    obtain ⟨y1, hy1⟩ : ∃ z : Int32, z = pj_fi G 21 5 := ⟨_, rfl⟩
    have ey1 : (pj_fi G 21 5).toInt = y1.toInt := by rw [hy1]
    have ry1 : (0 : Int) ≤ y1.toInt ∧ y1.toInt ≤ 6 := by rw [hy1]; exact hI.2.1 21 5 (0, 6) rfl
    obtain ⟨y2, hy2⟩ : ∃ z : Int32, z = pj_fi G 2 4 := ⟨_, rfl⟩
    have ey2 : (pj_fi G 2 4).toInt = y2.toInt := by rw [hy2]
    have ry2 : (-1 : Int) ≤ y2.toInt ∧ y2.toInt ≤ 80 := by rw [hy2]; exact hI.2.1 2 4 (-1, 80) rfl
    refine pj_X_of (fun r h => pj_R_to (G, 29, [(0, .ref 6), (1, .ref 2), (2, .int v2), (3, .int v3), (4, .int v4)], [.int ((Int8.ofInt 6).toInt32), .int v4], 0, 0) 29 3 (fun _ => rfl) h) ?_
    cases b3 : pj_c1 .gt v4 ((Int8.ofInt 6).toInt32) with
    | true =>
      have ub3 := pj_u_gtT b3
      refine pj_X_of (fun r h => pj_R_icT 105 rfl rfl b3 h) ?_
      refine pj_X_of (fun r h => pj_R_to (G, 106, [(0, .ref 6), (1, .ref 2), (2, .int v2), (3, .int v3), (4, .int v4)], [.int v2], 0, 0) 106 2 (fun _ => rfl) h) ?_
      have q4 : (pj_fi G 21 5).toInt = y1.toInt := by rw [show pj_fi G 21 5 = y1 from hy1.symm]
      have q5 : (pj_fi G 2 4).toInt = y2.toInt := by rw [show pj_fi G 2 4 = y2 from hy2.symm]
      exact pj_X_rt rfl rfl ⟨_, rfl, hI, hK, ⟨by omega, by omega⟩, by omega⟩
    | false =>
      have ub3 := pj_u_gtF b3
      refine pj_X_of (fun r h => pj_R_icF rfl b3 h) ?_
      refine pj_X_of (fun r h => pj_R_to (G, 33, [(0, .ref 6), (1, .ref 2), (2, .int v2), (3, .int v3), (4, .int v4)], [.int v3], 0, 0) 33 2 (fun _ => rfl) h) ?_
      cases b6 : pj_c1 .eq v3 0 with
      | true =>
        have ub6 := pj_u0_eqT b6
        refine pj_X_of (fun r h => pj_R_ifT 105 rfl rfl b6 h) ?_
        refine pj_X_of (fun r h => pj_R_to (G, 106, [(0, .ref 6), (1, .ref 2), (2, .int v2), (3, .int v3), (4, .int v4)], [.int v2], 0, 0) 106 2 (fun _ => rfl) h) ?_
        have q7 : (pj_fi G 21 5).toInt = y1.toInt := by rw [show pj_fi G 21 5 = y1 from hy1.symm]
        have q8 : (pj_fi G 2 4).toInt = y2.toInt := by rw [show pj_fi G 2 4 = y2 from hy2.symm]
        exact pj_X_rt rfl rfl ⟨_, rfl, hI, hK, ⟨by omega, by omega⟩, by omega⟩
      | false =>
        have ub6 := pj_u0_eqF b6
        refine pj_X_of (fun r h => pj_R_ifF rfl b6 h) ?_
        refine pj_X_of (fun r h => pj_R_to (G, 40, [(0, .ref 6), (1, .ref 2), (2, .int v2), (3, .int v3), (4, .int v4)], [.int ((Int8.ofInt 6).toInt32), .int v4], 0, 0) 40 3 (fun _ => rfl) h) ?_
        cases b9 : pj_c1 .ge v4 ((Int8.ofInt 6).toInt32) with
        | true =>
          have ub9 := pj_u_geT b9
          refine pj_X_of (fun r h => pj_R_icT 85 rfl rfl b9 h) ?_
          refine pj_X_of (fun r h => pj_R_to (G, 86, [(0, .ref 6), (1, .ref 2), (2, .int v2), (3, .int v3), (4, .int v4)], [.ref 2], 0, 0) 86 2 (fun _ => rfl) h) ?_
          have q10 : (pj_fi G 21 5).toInt = y1.toInt := by rw [show pj_fi G 21 5 = y1 from hy1.symm]
          have q11 : (pj_fi G 2 4).toInt = y2.toInt := by rw [show pj_fi G 2 4 = y2 from hy2.symm]
          refine pj_X_ca (vs := [.ref 2]) rfl (fun _ => rfl) ⟨Nat.le_of_ble_eq_true rfl, Nat.le_of_ble_eq_true rfl, pj_T_rcv hI rfl⟩ ⟨rfl, rfl⟩ (pj_Y_up (by decide) (ct_81 G hI)) ?_
          rintro _ G13 ⟨rfl, iG13, jG13, eG13⟩
          have kG13 : pj_kpt kc_92 G0 G13 := pj_kpt_t hK (pj_kpt_s jG13 rfl)
          have q14 : (pj_fi G13 21 5).toInt = (pj_fi G 21 5).toInt := by rw [jG13.1 (21, 5) (by decide)]
          obtain ⟨y15, hy15⟩ : ∃ z : Int32, z = pj_fi G13 21 5 := ⟨_, rfl⟩
          have ey15 : (pj_fi G13 21 5).toInt = y15.toInt := by rw [hy15]
          have ry15 : (0 : Int) ≤ y15.toInt ∧ y15.toInt ≤ 6 := by rw [hy15]; exact iG13.2.1 21 5 (0, 6) rfl
          obtain ⟨y16, hy16⟩ : ∃ z : Int32, z = pj_fi G13 2 4 := ⟨_, rfl⟩
          have ey16 : (pj_fi G13 2 4).toInt = y16.toInt := by rw [hy16]
          have ry16 : (-1 : Int) ≤ y16.toInt ∧ y16.toInt ≤ 80 := by rw [hy16]; exact iG13.2.1 2 4 (-1, 80) rfl
          show pj_X _ _ G13 89 [(0, .ref 6), (1, .ref 2), (2, .int v2), (3, .int v3), (4, .int v4)] [] _
          refine pj_X_of (fun r h => pj_R_to (G13, 92, [(2, .int (v2 + Int32.ofInt 1)), (0, .ref 6), (1, .ref 2), (3, .int v3), (4, .int v4)], [], 0, 0) 92 2 (fun _ => rfl) h) ?_
          obtain ⟨z17, hz17⟩ : ∃ z : Int32, z = v2 + Int32.ofInt 1 := ⟨_, rfl⟩
          rw [← hz17]
          have fz17_0 : z17.toInt = v2.toInt + (Int32.ofInt 1).toInt := by rw [hz17]; exact pj_addI (by have := pj_i32 v2; have := pj_i32 (Int32.ofInt 1); omega) (by have := pj_i32 v2; have := pj_i32 (Int32.ofInt 1); omega)
          refine pj_X_of (fun r h => pj_R_to (G13, 95, [(2, .int z17), (0, .ref 6), (1, .ref 2), (3, .int v3), (4, .int v4)], [.int ((Int8.ofInt 59).toInt32), .ref 2], 0, 0) 95 3 (fun _ => rfl) h) ?_
          have q18 : (pj_fi G13 21 5).toInt = y15.toInt := by rw [show pj_fi G13 21 5 = y15 from hy15.symm]
          have q19 : (pj_fi G13 2 4).toInt = y16.toInt := by rw [show pj_fi G13 2 4 = y16 from hy16.symm]
          refine pj_X_ca (vs := [.ref 2, .int ((Int8.ofInt 59).toInt32)]) rfl (fun _ => rfl) ⟨Nat.le_of_ble_eq_true rfl, Nat.le_of_ble_eq_true rfl, pj_T_rcv iG13 rfl⟩ ⟨rfl, rfl⟩ (pj_Y_up (by decide) (ct_82 G13 iG13 ((Int8.ofInt 59).toInt32) ⟨by omega, by omega⟩)) ?_
          rintro _ G21 ⟨y20, rfl, iG21, jG21, ry20⟩
          have kG21 : pj_kpt kc_92 G0 G21 := pj_kpt_t kG13 (pj_kpt_s jG21 rfl)
          have q22 : (pj_fi G21 21 5).toInt = (pj_fi G13 21 5).toInt := by rw [jG21.1 (21, 5) (by decide)]
          have q23 : (pj_fi G21 2 4).toInt = (pj_fi G13 2 4).toInt := by rw [jG21.1 (2, 4) (by decide)]
          obtain ⟨y24, hy24⟩ : ∃ z : Int32, z = pj_fi G21 21 5 := ⟨_, rfl⟩
          have ey24 : (pj_fi G21 21 5).toInt = y24.toInt := by rw [hy24]
          have ry24 : (0 : Int) ≤ y24.toInt ∧ y24.toInt ≤ 6 := by rw [hy24]; exact iG21.2.1 21 5 (0, 6) rfl
          obtain ⟨y25, hy25⟩ : ∃ z : Int32, z = pj_fi G21 2 4 := ⟨_, rfl⟩
          have ey25 : (pj_fi G21 2 4).toInt = y25.toInt := by rw [hy25]
          have ry25 : (-1 : Int) ≤ y25.toInt ∧ y25.toInt ≤ 80 := by rw [hy25]; exact iG21.2.1 2 4 (-1, 80) rfl
          show pj_X _ _ G21 98 [(2, .int z17), (0, .ref 6), (1, .ref 2), (3, .int v3), (4, .int v4)] [.int y20] _
          refine pj_X_of (fun r h => pj_R_to (G21, 102, [(4, .int (v4 + Int32.ofInt 1)), (3, .int y20), (2, .int z17), (0, .ref 6), (1, .ref 2)], [], 0, 0) 102 3 (fun _ => rfl) h) ?_
          obtain ⟨z26, hz26⟩ : ∃ z : Int32, z = v4 + Int32.ofInt 1 := ⟨_, rfl⟩
          rw [← hz26]
          have fz26_0 : z26.toInt = v4.toInt + (Int32.ofInt 1).toInt := by rw [hz26]; exact pj_addI (by have := pj_i32 v4; have := pj_i32 (Int32.ofInt 1); omega) (by have := pj_i32 v4; have := pj_i32 (Int32.ofInt 1); omega)
          refine pj_X_of (fun r h => pj_R_to (G21, 25, [(4, .int z26), (3, .int y20), (2, .int z17), (0, .ref 6), (1, .ref 2)], [], 0, 0) 25 2 (fun _ => rfl) h) ?_
          have q27 : (pj_fi G21 21 5).toInt = y24.toInt := by rw [show pj_fi G21 21 5 = y24 from hy24.symm]
          have q28 : (pj_fi G21 2 4).toInt = y25.toInt := by rw [show pj_fi G21 2 4 = y25 from hy25.symm]
          exact pj_X_sub [(0, .ref 6), (1, .ref 2), (2, .int z17), (3, .int y20), (4, .int z26)] (show List.Nodup [0, 1, 2, 3, 4] by decide) ⟨rfl, rfl, rfl, rfl, rfl, trivial⟩ (ih G21 iG21 kG21 z17 y20 z26 ⟨by omega, by omega⟩ ⟨by omega, by omega⟩ ⟨by omega, by omega⟩ (by omega) (by omega) (by omega))
        | false =>
          have ub9 := pj_u_geF b9
          refine pj_X_of (fun r h => pj_R_icF rfl b9 h) ?_
          refine pj_X_of (fun r h => pj_R_to (G, 44, [(0, .ref 6), (1, .ref 2), (2, .int v2), (3, .int v3), (4, .int v4)], [.ref 6], 0, 0) 44 2 (fun _ => rfl) h) ?_
          refine pj_X_of (fun r h => pj_T_gr hI rfl rfl rfl h) ?_
          refine pj_X_of (fun r h => pj_T_gr hI rfl rfl rfl h) ?_
          refine pj_X_of (fun r h => pj_R_to (G, 55, [(0, .ref 6), (1, .ref 2), (2, .int v2), (3, .int v3), (4, .int v4)], [.ref 6, .int (Int32.ofInt (-1)), .ref 2, .int v4, .ref 26], 0, 0) 55 5 (fun _ => rfl) h) ?_
          refine pj_X_gm hI rfl rfl (fun q29 => ?_) (fun q29 => ?_)
          · refine pj_X_of (fun r h => pj_T_gi hI rfl rfl h) ?_
            show pj_X _ _ G 61 [(0, .ref 6), (1, .ref 2), (2, .int v2), (3, .int v3), (4, .int v4)] [.int (pj_fi G 7 0), .int (Int32.ofInt (-1)), .ref 2, .int v4, .ref 26] _
            obtain ⟨y30, hy30⟩ : ∃ z : Int32, z = pj_fi G 7 0 := ⟨_, rfl⟩
            rw [← hy30]
            have ey30 : (pj_fi G 7 0).toInt = y30.toInt := by rw [hy30]
            have ry30 : (0 : Int) ≤ y30.toInt ∧ y30.toInt ≤ 8 := by rw [hy30]; exact hI.2.1 7 0 (0, 8) rfl
            have q31 : (pj_fi G 21 5).toInt = y1.toInt := by rw [show pj_fi G 21 5 = y1 from hy1.symm]
            have q32 : (pj_fi G 2 4).toInt = y2.toInt := by rw [show pj_fi G 2 4 = y2 from hy2.symm]
            refine pj_X_ca (vs := [.ref 2, .int (Int32.ofInt (-1)), .int y30]) rfl (fun _ => rfl) ⟨Nat.le_of_ble_eq_true rfl, Nat.le_of_ble_eq_true rfl, pj_T_rcv hI rfl⟩ ⟨rfl, rfl⟩ (pj_Y_up (by decide) (ct_87 G hI (Int32.ofInt (-1)) y30 ⟨by omega, by omega⟩ ⟨by omega, by omega⟩)) ?_
            rintro _ G34 ⟨y33, rfl, iG34, jG34, ry33, ey33⟩
            have kG34 : pj_kpt kc_92 G0 G34 := pj_kpt_t hK (pj_kpt_s jG34 rfl)
            have q35 : (pj_fi G34 21 5).toInt = (pj_fi G 21 5).toInt := by rw [jG34.1 (21, 5) (by decide)]
            obtain ⟨y36, hy36⟩ : ∃ z : Int32, z = pj_fi G34 21 5 := ⟨_, rfl⟩
            have ey36 : (pj_fi G34 21 5).toInt = y36.toInt := by rw [hy36]
            have ry36 : (0 : Int) ≤ y36.toInt ∧ y36.toInt ≤ 6 := by rw [hy36]; exact iG34.2.1 21 5 (0, 6) rfl
            obtain ⟨y37, hy37⟩ : ∃ z : Int32, z = pj_fi G34 2 4 := ⟨_, rfl⟩
            have ey37 : (pj_fi G34 2 4).toInt = y37.toInt := by rw [hy37]
            have ry37 : (-1 : Int) ≤ y37.toInt ∧ y37.toInt ≤ 80 := by rw [hy37]; exact iG34.2.1 2 4 (-1, 80) rfl
            show pj_X _ _ G34 64 [(0, .ref 6), (1, .ref 2), (2, .int v2), (3, .int v3), (4, .int v4)] [.int y33, .int v4, .ref 26] _
            refine pj_X_of (fun r h => pj_T_is iG34 rfl rfl (by omega) (by omega) h) ?_
            show pj_X _ _ (pj_wa G34 26 v4.toInt.toNat y33) 65 [(0, .ref 6), (1, .ref 2), (2, .int v2), (3, .int v3), (4, .int v4)] [] _
            obtain ⟨G38, hG38⟩ : ∃ H, H = pj_wa G34 26 v4.toInt.toNat y33 := ⟨_, rfl⟩
            have iG38 : pj_Inv G38 := by rw [hG38]; exact pj_Inv_wa iG34 rfl (fun q hq => by cases hq; exact ⟨by show (0 : Int) ≤ _; omega, by show _ ≤ (7 : Int); omega, by show _ ≤ (0 : Int) ∨ (0 : Int) ≤ _; omega⟩) (fun n hn => by cases hn)
            have kG38 : pj_kpt kc_92 G0 G38 := by rw [hG38]; exact pj_kpt_a kG34 rfl
            rw [← hG38]
            refine pj_X_of (fun r h => pj_R_to (G38, 66, [(0, .ref 6), (1, .ref 2), (2, .int v2), (3, .int v3), (4, .int v4)], [.ref 6], 0, 0) 66 2 (fun _ => rfl) h) ?_
            refine pj_X_of (fun r h => pj_T_gr iG38 rfl rfl rfl h) ?_
            refine pj_X_of (fun r h => pj_R_to (G38, 77, [(0, .ref 6), (1, .ref 2), (2, .int v2), (3, .int v3), (4, .int v4)], [.int ((Int8.ofInt 57).toInt32), .int ((Int8.ofInt 49).toInt32), .ref 2, .int (Int32.ofInt 1), .int v4, .ref 32], 0, 0) 77 6 (fun _ => rfl) h) ?_
            have q39 : (pj_fi G38 21 5).toInt = y36.toInt := by rw [show pj_fi G38 21 5 = y36 from by rw [hG38, pj_fi_wa]; exact hy36.symm]
            have q40 : (pj_fi G38 2 4).toInt = y37.toInt := by rw [show pj_fi G38 2 4 = y37 from by rw [hG38, pj_fi_wa]; exact hy37.symm]
            refine pj_X_ca (vs := [.ref 2, .int ((Int8.ofInt 49).toInt32), .int ((Int8.ofInt 57).toInt32)]) rfl (fun _ => rfl) ⟨Nat.le_of_ble_eq_true rfl, Nat.le_of_ble_eq_true rfl, pj_T_rcv iG38 rfl⟩ ⟨rfl, rfl⟩ (pj_Y_up (by decide) (ct_83 G38 iG38 ((Int8.ofInt 49).toInt32) ((Int8.ofInt 57).toInt32) ⟨by omega, by omega⟩ ⟨by omega, by omega⟩)) ?_
            rintro _ G42 ⟨y41, rfl, iG42, jG42, ry41, ey41⟩
            have kG42 : pj_kpt kc_92 G0 G42 := pj_kpt_t kG38 (pj_kpt_s jG42 rfl)
            have q43 : (pj_fi G42 21 5).toInt = (pj_fi G38 21 5).toInt := by rw [jG42.1 (21, 5) (by decide)]
            obtain ⟨y44, hy44⟩ : ∃ z : Int32, z = pj_fi G42 21 5 := ⟨_, rfl⟩
            have ey44 : (pj_fi G42 21 5).toInt = y44.toInt := by rw [hy44]
            have ry44 : (0 : Int) ≤ y44.toInt ∧ y44.toInt ≤ 6 := by rw [hy44]; exact iG42.2.1 21 5 (0, 6) rfl
            obtain ⟨y45, hy45⟩ : ∃ z : Int32, z = pj_fi G42 2 4 := ⟨_, rfl⟩
            have ey45 : (pj_fi G42 2 4).toInt = y45.toInt := by rw [hy45]
            have ry45 : (-1 : Int) ≤ y45.toInt ∧ y45.toInt ≤ 80 := by rw [hy45]; exact iG42.2.1 2 4 (-1, 80) rfl
            show pj_X _ _ G42 80 [(0, .ref 6), (1, .ref 2), (2, .int v2), (3, .int v3), (4, .int v4)] [.int y41, .int (Int32.ofInt 1), .int v4, .ref 32] _
            refine pj_X_of (fun r h => pj_R_to (G42, 81, [(0, .ref 6), (1, .ref 2), (2, .int v2), (3, .int v3), (4, .int v4)], [.int ((Int32.ofInt 1) + y41), .int v4, .ref 32], 0, 0) 81 2 (fun _ => rfl) h) ?_
            obtain ⟨z46, hz46⟩ : ∃ z : Int32, z = (Int32.ofInt 1) + y41 := ⟨_, rfl⟩
            rw [← hz46]
            have fz46_0 : z46.toInt = (Int32.ofInt 1).toInt + y41.toInt := by rw [hz46]; exact pj_addI (by have := pj_i32 (Int32.ofInt 1); have := pj_i32 y41; omega) (by have := pj_i32 (Int32.ofInt 1); have := pj_i32 y41; omega)
            refine pj_X_of (fun r h => pj_T_is iG42 rfl rfl (by omega) (by omega) h) ?_
            show pj_X _ _ (pj_wa G42 32 v4.toInt.toNat z46) 82 [(0, .ref 6), (1, .ref 2), (2, .int v2), (3, .int v3), (4, .int v4)] [] _
            obtain ⟨G47, hG47⟩ : ∃ H, H = pj_wa G42 32 v4.toInt.toNat z46 := ⟨_, rfl⟩
            have iG47 : pj_Inv G47 := by rw [hG47]; exact pj_Inv_wa iG42 rfl (fun q hq => by cases hq) (fun n hn => by cases hn)
            have kG47 : pj_kpt kc_92 G0 G47 := by rw [hG47]; exact pj_kpt_a kG42 rfl
            rw [← hG47]
            refine pj_X_of (fun r h => pj_R_to (G47, 92, [(2, .int (v2 + Int32.ofInt 1)), (0, .ref 6), (1, .ref 2), (3, .int v3), (4, .int v4)], [], 0, 0) 92 3 (fun _ => rfl) h) ?_
            obtain ⟨z48, hz48⟩ : ∃ z : Int32, z = v2 + Int32.ofInt 1 := ⟨_, rfl⟩
            rw [← hz48]
            have fz48_0 : z48.toInt = v2.toInt + (Int32.ofInt 1).toInt := by rw [hz48]; exact pj_addI (by have := pj_i32 v2; have := pj_i32 (Int32.ofInt 1); omega) (by have := pj_i32 v2; have := pj_i32 (Int32.ofInt 1); omega)
            refine pj_X_of (fun r h => pj_R_to (G47, 95, [(2, .int z48), (0, .ref 6), (1, .ref 2), (3, .int v3), (4, .int v4)], [.int ((Int8.ofInt 59).toInt32), .ref 2], 0, 0) 95 3 (fun _ => rfl) h) ?_
            have q49 : (pj_fi G47 21 5).toInt = y44.toInt := by rw [show pj_fi G47 21 5 = y44 from by rw [hG47, pj_fi_wa]; exact hy44.symm]
            have q50 : (pj_fi G47 2 4).toInt = y45.toInt := by rw [show pj_fi G47 2 4 = y45 from by rw [hG47, pj_fi_wa]; exact hy45.symm]
            refine pj_X_ca (vs := [.ref 2, .int ((Int8.ofInt 59).toInt32)]) rfl (fun _ => rfl) ⟨Nat.le_of_ble_eq_true rfl, Nat.le_of_ble_eq_true rfl, pj_T_rcv iG47 rfl⟩ ⟨rfl, rfl⟩ (pj_Y_up (by decide) (ct_82 G47 iG47 ((Int8.ofInt 59).toInt32) ⟨by omega, by omega⟩)) ?_
            rintro _ G52 ⟨y51, rfl, iG52, jG52, ry51⟩
            have kG52 : pj_kpt kc_92 G0 G52 := pj_kpt_t kG47 (pj_kpt_s jG52 rfl)
            have q53 : (pj_fi G52 21 5).toInt = (pj_fi G47 21 5).toInt := by rw [jG52.1 (21, 5) (by decide)]
            have q54 : (pj_fi G52 2 4).toInt = (pj_fi G47 2 4).toInt := by rw [jG52.1 (2, 4) (by decide)]
            obtain ⟨y55, hy55⟩ : ∃ z : Int32, z = pj_fi G52 21 5 := ⟨_, rfl⟩
            have ey55 : (pj_fi G52 21 5).toInt = y55.toInt := by rw [hy55]
            have ry55 : (0 : Int) ≤ y55.toInt ∧ y55.toInt ≤ 6 := by rw [hy55]; exact iG52.2.1 21 5 (0, 6) rfl
            obtain ⟨y56, hy56⟩ : ∃ z : Int32, z = pj_fi G52 2 4 := ⟨_, rfl⟩
            have ey56 : (pj_fi G52 2 4).toInt = y56.toInt := by rw [hy56]
            have ry56 : (-1 : Int) ≤ y56.toInt ∧ y56.toInt ≤ 80 := by rw [hy56]; exact iG52.2.1 2 4 (-1, 80) rfl
            show pj_X _ _ G52 98 [(2, .int z48), (0, .ref 6), (1, .ref 2), (3, .int v3), (4, .int v4)] [.int y51] _
            refine pj_X_of (fun r h => pj_R_to (G52, 102, [(4, .int (v4 + Int32.ofInt 1)), (3, .int y51), (2, .int z48), (0, .ref 6), (1, .ref 2)], [], 0, 0) 102 3 (fun _ => rfl) h) ?_
            obtain ⟨z57, hz57⟩ : ∃ z : Int32, z = v4 + Int32.ofInt 1 := ⟨_, rfl⟩
            rw [← hz57]
            have fz57_0 : z57.toInt = v4.toInt + (Int32.ofInt 1).toInt := by rw [hz57]; exact pj_addI (by have := pj_i32 v4; have := pj_i32 (Int32.ofInt 1); omega) (by have := pj_i32 v4; have := pj_i32 (Int32.ofInt 1); omega)
            refine pj_X_of (fun r h => pj_R_to (G52, 25, [(4, .int z57), (3, .int y51), (2, .int z48), (0, .ref 6), (1, .ref 2)], [], 0, 0) 25 2 (fun _ => rfl) h) ?_
            have q58 : (pj_fi G52 21 5).toInt = y55.toInt := by rw [show pj_fi G52 21 5 = y55 from hy55.symm]
            have q59 : (pj_fi G52 2 4).toInt = y56.toInt := by rw [show pj_fi G52 2 4 = y56 from hy56.symm]
            exact pj_X_sub [(0, .ref 6), (1, .ref 2), (2, .int z48), (3, .int y51), (4, .int z57)] (show List.Nodup [0, 1, 2, 3, 4] by decide) ⟨rfl, rfl, rfl, rfl, rfl, trivial⟩ (ih G52 iG52 kG52 z48 y51 z57 ⟨by omega, by omega⟩ ⟨by omega, by omega⟩ ⟨by omega, by omega⟩ (by omega) (by omega) (by omega))
          · refine pj_X_of (fun r h => pj_T_gi hI rfl rfl h) ?_
            show pj_X _ _ G 61 [(0, .ref 6), (1, .ref 2), (2, .int v2), (3, .int v3), (4, .int v4)] [.int (pj_fi G 14 0), .int (Int32.ofInt (-1)), .ref 2, .int v4, .ref 26] _
            obtain ⟨y60, hy60⟩ : ∃ z : Int32, z = pj_fi G 14 0 := ⟨_, rfl⟩
            rw [← hy60]
            have ey60 : (pj_fi G 14 0).toInt = y60.toInt := by rw [hy60]
            have ry60 : (0 : Int) ≤ y60.toInt ∧ y60.toInt ≤ 8 := by rw [hy60]; exact hI.2.1 14 0 (0, 8) rfl
            have q61 : (pj_fi G 21 5).toInt = y1.toInt := by rw [show pj_fi G 21 5 = y1 from hy1.symm]
            have q62 : (pj_fi G 2 4).toInt = y2.toInt := by rw [show pj_fi G 2 4 = y2 from hy2.symm]
            refine pj_X_ca (vs := [.ref 2, .int (Int32.ofInt (-1)), .int y60]) rfl (fun _ => rfl) ⟨Nat.le_of_ble_eq_true rfl, Nat.le_of_ble_eq_true rfl, pj_T_rcv hI rfl⟩ ⟨rfl, rfl⟩ (pj_Y_up (by decide) (ct_87 G hI (Int32.ofInt (-1)) y60 ⟨by omega, by omega⟩ ⟨by omega, by omega⟩)) ?_
            rintro _ G64 ⟨y63, rfl, iG64, jG64, ry63, ey63⟩
            have kG64 : pj_kpt kc_92 G0 G64 := pj_kpt_t hK (pj_kpt_s jG64 rfl)
            have q65 : (pj_fi G64 21 5).toInt = (pj_fi G 21 5).toInt := by rw [jG64.1 (21, 5) (by decide)]
            obtain ⟨y66, hy66⟩ : ∃ z : Int32, z = pj_fi G64 21 5 := ⟨_, rfl⟩
            have ey66 : (pj_fi G64 21 5).toInt = y66.toInt := by rw [hy66]
            have ry66 : (0 : Int) ≤ y66.toInt ∧ y66.toInt ≤ 6 := by rw [hy66]; exact iG64.2.1 21 5 (0, 6) rfl
            obtain ⟨y67, hy67⟩ : ∃ z : Int32, z = pj_fi G64 2 4 := ⟨_, rfl⟩
            have ey67 : (pj_fi G64 2 4).toInt = y67.toInt := by rw [hy67]
            have ry67 : (-1 : Int) ≤ y67.toInt ∧ y67.toInt ≤ 80 := by rw [hy67]; exact iG64.2.1 2 4 (-1, 80) rfl
            show pj_X _ _ G64 64 [(0, .ref 6), (1, .ref 2), (2, .int v2), (3, .int v3), (4, .int v4)] [.int y63, .int v4, .ref 26] _
            refine pj_X_of (fun r h => pj_T_is iG64 rfl rfl (by omega) (by omega) h) ?_
            show pj_X _ _ (pj_wa G64 26 v4.toInt.toNat y63) 65 [(0, .ref 6), (1, .ref 2), (2, .int v2), (3, .int v3), (4, .int v4)] [] _
            obtain ⟨G68, hG68⟩ : ∃ H, H = pj_wa G64 26 v4.toInt.toNat y63 := ⟨_, rfl⟩
            have iG68 : pj_Inv G68 := by rw [hG68]; exact pj_Inv_wa iG64 rfl (fun q hq => by cases hq; exact ⟨by show (0 : Int) ≤ _; omega, by show _ ≤ (7 : Int); omega, by show _ ≤ (0 : Int) ∨ (0 : Int) ≤ _; omega⟩) (fun n hn => by cases hn)
            have kG68 : pj_kpt kc_92 G0 G68 := by rw [hG68]; exact pj_kpt_a kG64 rfl
            rw [← hG68]
            refine pj_X_of (fun r h => pj_R_to (G68, 66, [(0, .ref 6), (1, .ref 2), (2, .int v2), (3, .int v3), (4, .int v4)], [.ref 6], 0, 0) 66 2 (fun _ => rfl) h) ?_
            refine pj_X_of (fun r h => pj_T_gr iG68 rfl rfl rfl h) ?_
            refine pj_X_of (fun r h => pj_R_to (G68, 77, [(0, .ref 6), (1, .ref 2), (2, .int v2), (3, .int v3), (4, .int v4)], [.int ((Int8.ofInt 57).toInt32), .int ((Int8.ofInt 49).toInt32), .ref 2, .int (Int32.ofInt 1), .int v4, .ref 32], 0, 0) 77 6 (fun _ => rfl) h) ?_
            have q69 : (pj_fi G68 21 5).toInt = y66.toInt := by rw [show pj_fi G68 21 5 = y66 from by rw [hG68, pj_fi_wa]; exact hy66.symm]
            have q70 : (pj_fi G68 2 4).toInt = y67.toInt := by rw [show pj_fi G68 2 4 = y67 from by rw [hG68, pj_fi_wa]; exact hy67.symm]
            refine pj_X_ca (vs := [.ref 2, .int ((Int8.ofInt 49).toInt32), .int ((Int8.ofInt 57).toInt32)]) rfl (fun _ => rfl) ⟨Nat.le_of_ble_eq_true rfl, Nat.le_of_ble_eq_true rfl, pj_T_rcv iG68 rfl⟩ ⟨rfl, rfl⟩ (pj_Y_up (by decide) (ct_83 G68 iG68 ((Int8.ofInt 49).toInt32) ((Int8.ofInt 57).toInt32) ⟨by omega, by omega⟩ ⟨by omega, by omega⟩)) ?_
            rintro _ G72 ⟨y71, rfl, iG72, jG72, ry71, ey71⟩
            have kG72 : pj_kpt kc_92 G0 G72 := pj_kpt_t kG68 (pj_kpt_s jG72 rfl)
            have q73 : (pj_fi G72 21 5).toInt = (pj_fi G68 21 5).toInt := by rw [jG72.1 (21, 5) (by decide)]
            obtain ⟨y74, hy74⟩ : ∃ z : Int32, z = pj_fi G72 21 5 := ⟨_, rfl⟩
            have ey74 : (pj_fi G72 21 5).toInt = y74.toInt := by rw [hy74]
            have ry74 : (0 : Int) ≤ y74.toInt ∧ y74.toInt ≤ 6 := by rw [hy74]; exact iG72.2.1 21 5 (0, 6) rfl
            obtain ⟨y75, hy75⟩ : ∃ z : Int32, z = pj_fi G72 2 4 := ⟨_, rfl⟩
            have ey75 : (pj_fi G72 2 4).toInt = y75.toInt := by rw [hy75]
            have ry75 : (-1 : Int) ≤ y75.toInt ∧ y75.toInt ≤ 80 := by rw [hy75]; exact iG72.2.1 2 4 (-1, 80) rfl
            show pj_X _ _ G72 80 [(0, .ref 6), (1, .ref 2), (2, .int v2), (3, .int v3), (4, .int v4)] [.int y71, .int (Int32.ofInt 1), .int v4, .ref 32] _
            refine pj_X_of (fun r h => pj_R_to (G72, 81, [(0, .ref 6), (1, .ref 2), (2, .int v2), (3, .int v3), (4, .int v4)], [.int ((Int32.ofInt 1) + y71), .int v4, .ref 32], 0, 0) 81 2 (fun _ => rfl) h) ?_
            obtain ⟨z76, hz76⟩ : ∃ z : Int32, z = (Int32.ofInt 1) + y71 := ⟨_, rfl⟩
            rw [← hz76]
            have fz76_0 : z76.toInt = (Int32.ofInt 1).toInt + y71.toInt := by rw [hz76]; exact pj_addI (by have := pj_i32 (Int32.ofInt 1); have := pj_i32 y71; omega) (by have := pj_i32 (Int32.ofInt 1); have := pj_i32 y71; omega)
            refine pj_X_of (fun r h => pj_T_is iG72 rfl rfl (by omega) (by omega) h) ?_
            show pj_X _ _ (pj_wa G72 32 v4.toInt.toNat z76) 82 [(0, .ref 6), (1, .ref 2), (2, .int v2), (3, .int v3), (4, .int v4)] [] _
            obtain ⟨G77, hG77⟩ : ∃ H, H = pj_wa G72 32 v4.toInt.toNat z76 := ⟨_, rfl⟩
            have iG77 : pj_Inv G77 := by rw [hG77]; exact pj_Inv_wa iG72 rfl (fun q hq => by cases hq) (fun n hn => by cases hn)
            have kG77 : pj_kpt kc_92 G0 G77 := by rw [hG77]; exact pj_kpt_a kG72 rfl
            rw [← hG77]
            refine pj_X_of (fun r h => pj_R_to (G77, 92, [(2, .int (v2 + Int32.ofInt 1)), (0, .ref 6), (1, .ref 2), (3, .int v3), (4, .int v4)], [], 0, 0) 92 3 (fun _ => rfl) h) ?_
            obtain ⟨z78, hz78⟩ : ∃ z : Int32, z = v2 + Int32.ofInt 1 := ⟨_, rfl⟩
            rw [← hz78]
            have fz78_0 : z78.toInt = v2.toInt + (Int32.ofInt 1).toInt := by rw [hz78]; exact pj_addI (by have := pj_i32 v2; have := pj_i32 (Int32.ofInt 1); omega) (by have := pj_i32 v2; have := pj_i32 (Int32.ofInt 1); omega)
            refine pj_X_of (fun r h => pj_R_to (G77, 95, [(2, .int z78), (0, .ref 6), (1, .ref 2), (3, .int v3), (4, .int v4)], [.int ((Int8.ofInt 59).toInt32), .ref 2], 0, 0) 95 3 (fun _ => rfl) h) ?_
            have q79 : (pj_fi G77 21 5).toInt = y74.toInt := by rw [show pj_fi G77 21 5 = y74 from by rw [hG77, pj_fi_wa]; exact hy74.symm]
            have q80 : (pj_fi G77 2 4).toInt = y75.toInt := by rw [show pj_fi G77 2 4 = y75 from by rw [hG77, pj_fi_wa]; exact hy75.symm]
            refine pj_X_ca (vs := [.ref 2, .int ((Int8.ofInt 59).toInt32)]) rfl (fun _ => rfl) ⟨Nat.le_of_ble_eq_true rfl, Nat.le_of_ble_eq_true rfl, pj_T_rcv iG77 rfl⟩ ⟨rfl, rfl⟩ (pj_Y_up (by decide) (ct_82 G77 iG77 ((Int8.ofInt 59).toInt32) ⟨by omega, by omega⟩)) ?_
            rintro _ G82 ⟨y81, rfl, iG82, jG82, ry81⟩
            have kG82 : pj_kpt kc_92 G0 G82 := pj_kpt_t kG77 (pj_kpt_s jG82 rfl)
            have q83 : (pj_fi G82 21 5).toInt = (pj_fi G77 21 5).toInt := by rw [jG82.1 (21, 5) (by decide)]
            have q84 : (pj_fi G82 2 4).toInt = (pj_fi G77 2 4).toInt := by rw [jG82.1 (2, 4) (by decide)]
            obtain ⟨y85, hy85⟩ : ∃ z : Int32, z = pj_fi G82 21 5 := ⟨_, rfl⟩
            have ey85 : (pj_fi G82 21 5).toInt = y85.toInt := by rw [hy85]
            have ry85 : (0 : Int) ≤ y85.toInt ∧ y85.toInt ≤ 6 := by rw [hy85]; exact iG82.2.1 21 5 (0, 6) rfl
            obtain ⟨y86, hy86⟩ : ∃ z : Int32, z = pj_fi G82 2 4 := ⟨_, rfl⟩
            have ey86 : (pj_fi G82 2 4).toInt = y86.toInt := by rw [hy86]
            have ry86 : (-1 : Int) ≤ y86.toInt ∧ y86.toInt ≤ 80 := by rw [hy86]; exact iG82.2.1 2 4 (-1, 80) rfl
            show pj_X _ _ G82 98 [(2, .int z78), (0, .ref 6), (1, .ref 2), (3, .int v3), (4, .int v4)] [.int y81] _
            refine pj_X_of (fun r h => pj_R_to (G82, 102, [(4, .int (v4 + Int32.ofInt 1)), (3, .int y81), (2, .int z78), (0, .ref 6), (1, .ref 2)], [], 0, 0) 102 3 (fun _ => rfl) h) ?_
            obtain ⟨z87, hz87⟩ : ∃ z : Int32, z = v4 + Int32.ofInt 1 := ⟨_, rfl⟩
            rw [← hz87]
            have fz87_0 : z87.toInt = v4.toInt + (Int32.ofInt 1).toInt := by rw [hz87]; exact pj_addI (by have := pj_i32 v4; have := pj_i32 (Int32.ofInt 1); omega) (by have := pj_i32 v4; have := pj_i32 (Int32.ofInt 1); omega)
            refine pj_X_of (fun r h => pj_R_to (G82, 25, [(4, .int z87), (3, .int y81), (2, .int z78), (0, .ref 6), (1, .ref 2)], [], 0, 0) 25 2 (fun _ => rfl) h) ?_
            have q88 : (pj_fi G82 21 5).toInt = y85.toInt := by rw [show pj_fi G82 21 5 = y85 from hy85.symm]
            have q89 : (pj_fi G82 2 4).toInt = y86.toInt := by rw [show pj_fi G82 2 4 = y86 from hy86.symm]
            exact pj_X_sub [(0, .ref 6), (1, .ref 2), (2, .int z78), (3, .int y81), (4, .int z87)] (show List.Nodup [0, 1, 2, 3, 4] by decide) ⟨rfl, rfl, rfl, rfl, rfl, trivial⟩ (ih G82 iG82 kG82 z78 y81 z87 ⟨by omega, by omega⟩ ⟨by omega, by omega⟩ ⟨by omega, by omega⟩ (by omega) (by omega) (by omega))
theorem ct_92 (G0 : pj_G) (hI : pj_Inv G0) : pj_Y 4 92 [.ref 6, .ref 2] G0 (fun v G' => ∃ y : Int32, v = some (.int y) ∧ pj_Inv G' ∧ pj_kpt kc_92 G0 G' ∧ ((0 : Int) ≤ y.toInt ∧ y.toInt ≤ 7) ∧ ((pj_fi G' 2 4).toInt = -1 → (pj_fi G' 21 5).toInt + y.toInt ≤ 6)) := by
  have c0_ : ((Int8.ofInt 49).toInt32).toInt = 49 := by decide
  have c1_ : ((Int8.ofInt 57).toInt32).toInt = 57 := by decide
  have c2_ : ((Int8.ofInt 59).toInt32).toInt = 59 := by decide
  have c3_ : ((Int8.ofInt 6).toInt32).toInt = 6 := by decide
  have c4_ : (Int32.ofInt (-1)).toInt = -1 := by decide
  have c5_ : (Int32.ofInt 0).toInt = 0 := by decide
  have c6_ : (Int32.ofInt 1).toInt = 1 := by decide
  refine pj_Y_X (M := pj_m92) rfl rfl (Nat.le_of_ble_eq_true rfl) ?_
  have hK : pj_kpt kc_92 G0 G0 := pj_kpt_r _ _
  show pj_X _ _ G0 0 [(0, .ref 6), (1, .ref 2)] [] _
  obtain ⟨y90, hy90⟩ : ∃ z : Int32, z = pj_fi G0 21 5 := ⟨_, rfl⟩
  have ey90 : (pj_fi G0 21 5).toInt = y90.toInt := by rw [hy90]
  have ry90 : (0 : Int) ≤ y90.toInt ∧ y90.toInt ≤ 6 := by rw [hy90]; exact hI.2.1 21 5 (0, 6) rfl
  obtain ⟨y91, hy91⟩ : ∃ z : Int32, z = pj_fi G0 2 4 := ⟨_, rfl⟩
  have ey91 : (pj_fi G0 2 4).toInt = y91.toInt := by rw [hy91]
  have ry91 : (-1 : Int) ≤ y91.toInt ∧ y91.toInt ≤ 80 := by rw [hy91]; exact hI.2.1 2 4 (-1, 80) rfl
  refine pj_X_of (fun r h => pj_R_to (G0, 3, [(2, .int (Int32.ofInt 0)), (0, .ref 6), (1, .ref 2)], [.ref 2], 0, 0) 3 4 (fun _ => rfl) h) ?_
  have q92 : (pj_fi G0 21 5).toInt = y90.toInt := by rw [show pj_fi G0 21 5 = y90 from hy90.symm]
  have q93 : (pj_fi G0 2 4).toInt = y91.toInt := by rw [show pj_fi G0 2 4 = y91 from hy91.symm]
  refine pj_X_ca (vs := [.ref 2]) rfl (fun _ => rfl) ⟨Nat.le_of_ble_eq_true rfl, Nat.le_of_ble_eq_true rfl, pj_T_rcv hI rfl⟩ ⟨rfl, rfl⟩ (pj_Y_up (by decide) (ct_80 G0 hI)) ?_
  rintro _ _ ⟨y94, rfl, rfl, ry94, ey94⟩
  show pj_X _ _ G0 6 [(2, .int (Int32.ofInt 0)), (0, .ref 6), (1, .ref 2)] [.int y94] _
  refine pj_X_of (fun r h => pj_R_to (G0, 7, [(2, .int (Int32.ofInt 0)), (0, .ref 6), (1, .ref 2)], [.int (Int32.ofInt (-1)), .int y94], 0, 0) 7 2 (fun _ => rfl) h) ?_
  cases b95 : pj_c1 .eq y94 (Int32.ofInt (-1)) with
  | true =>
    have ub95 := pj_u_eqT b95
    refine pj_X_of (fun r h => pj_R_icT 14 rfl rfl b95 h) ?_
    refine pj_X_of (fun r h => pj_R_to (G0, 17, [(3, .int (Int32.ofInt 0)), (2, .int (Int32.ofInt 0)), (0, .ref 6), (1, .ref 2)], [.ref 6], 0, 0) 17 4 (fun _ => rfl) h) ?_
    refine pj_X_of (fun r h => pj_T_gr hI rfl rfl rfl h) ?_
    refine pj_X_of (fun r h => pj_T_gi hI rfl rfl h) ?_
    show pj_X _ _ G0 23 [(3, .int (Int32.ofInt 0)), (2, .int (Int32.ofInt 0)), (0, .ref 6), (1, .ref 2)] [.int (pj_fi G0 21 5)] _
    rw [show pj_fi G0 21 5 = y90 from hy90.symm]
    refine pj_X_of (fun r h => pj_R_to (G0, 25, [(4, .int y90), (3, .int (Int32.ofInt 0)), (2, .int (Int32.ofInt 0)), (0, .ref 6), (1, .ref 2)], [], 0, 0) 25 2 (fun _ => rfl) h) ?_
    have q96 : (pj_fi G0 21 5).toInt = y90.toInt := by rw [show pj_fi G0 21 5 = y90 from hy90.symm]
    have q97 : (pj_fi G0 2 4).toInt = y91.toInt := by rw [show pj_fi G0 2 4 = y91 from hy91.symm]
    exact pj_X_sub [(0, .ref 6), (1, .ref 2), (2, .int (Int32.ofInt 0)), (3, .int (Int32.ofInt 0)), (4, .int y90)] (show List.Nodup [0, 1, 2, 3, 4] by decide) ⟨rfl, rfl, rfl, rfl, rfl, trivial⟩ ((lp_ct_92 G0 hI   8) G0 hI hK (Int32.ofInt 0) (Int32.ofInt 0) y90 ⟨by omega, by omega⟩ ⟨by omega, by omega⟩ ⟨by omega, by omega⟩ (by omega) (by omega) (by omega))
  | false =>
    have ub95 := pj_u_eqF b95
    refine pj_X_of (fun r h => pj_R_icF rfl b95 h) ?_
    refine pj_X_of (fun r h => pj_R_to (G0, 17, [(3, .int (Int32.ofInt 1)), (2, .int (Int32.ofInt 0)), (0, .ref 6), (1, .ref 2)], [.ref 6], 0, 0) 17 5 (fun _ => rfl) h) ?_
    refine pj_X_of (fun r h => pj_T_gr hI rfl rfl rfl h) ?_
    refine pj_X_of (fun r h => pj_T_gi hI rfl rfl h) ?_
    show pj_X _ _ G0 23 [(3, .int (Int32.ofInt 1)), (2, .int (Int32.ofInt 0)), (0, .ref 6), (1, .ref 2)] [.int (pj_fi G0 21 5)] _
    rw [show pj_fi G0 21 5 = y90 from hy90.symm]
    refine pj_X_of (fun r h => pj_R_to (G0, 25, [(4, .int y90), (3, .int (Int32.ofInt 1)), (2, .int (Int32.ofInt 0)), (0, .ref 6), (1, .ref 2)], [], 0, 0) 25 2 (fun _ => rfl) h) ?_
    have q98 : (pj_fi G0 21 5).toInt = y90.toInt := by rw [show pj_fi G0 21 5 = y90 from hy90.symm]
    have q99 : (pj_fi G0 2 4).toInt = y91.toInt := by rw [show pj_fi G0 2 4 = y91 from hy91.symm]
    exact pj_X_sub [(0, .ref 6), (1, .ref 2), (2, .int (Int32.ofInt 0)), (3, .int (Int32.ofInt 1)), (4, .int y90)] (show List.Nodup [0, 1, 2, 3, 4] by decide) ⟨rfl, rfl, rfl, rfl, rfl, trivial⟩ ((lp_ct_92 G0 hI   8) G0 hI hK (Int32.ofInt 0) (Int32.ofInt 1) y90 ⟨by omega, by omega⟩ ⟨by omega, by omega⟩ ⟨by omega, by omega⟩ (by omega) (by omega) (by omega))
def kc_28 : pj_KT := ([(2, 3), (2, 4), (34, 2)], [2, 34, 35], [35])
theorem lp_ct_28 (G0 : pj_G) (hI0 : pj_Inv G0) : ∀ mn : Nat, (∀ (G : pj_G) (hI : pj_Inv G) (hK : pj_kpt kc_28 G0 G) (v2 : Int32) (v3 : Int32), ((0 : Int) ≤ v2.toInt ∧ v2.toInt ≤ 1) → ((0 : Int) ≤ v3.toInt ∧ v3.toInt ≤ 9) → 9 - v3.toInt < (mn : Int) → pj_X 3 pj_m28 G 9 [(0, .ref 34), (1, .ref 2), (2, .int v2), (3, .int v3)] [] (fun v G' => v = none ∧ pj_Inv G' ∧ pj_kpt kc_28 G0 G')) := by
  have c0_ : ((Int8.ofInt 44).toInt32).toInt = 44 := by decide
  have c1_ : ((Int8.ofInt 8).toInt32).toInt = 8 := by decide
  have c2_ : (Int32.ofInt (-1)).toInt = -1 := by decide
  have c3_ : (Int32.ofInt 0).toInt = 0 := by decide
  have c4_ : (Int32.ofInt 1).toInt = 1 := by decide
  intro mn
  induction mn with
  | zero =>
    intro G hI hK v2 v3 rv2 rv3 hm
    exfalso
    omega
  | succ mn ih =>
    intro G hI hK v2 v3 rv2 rv3 hm
    refine pj_X_of (fun r h => pj_R_to (G, 12, [(0, .ref 34), (1, .ref 2), (2, .int v2), (3, .int v3)], [.int ((Int8.ofInt 8).toInt32), .int v3], 0, 0) 12 3 (fun _ => rfl) h) ?_
    cases b1 : pj_c1 .gt v3 ((Int8.ofInt 8).toInt32) with
    | true =>
      have ub1 := pj_u_gtT b1
      refine pj_X_of (fun r h => pj_R_icT 98 rfl rfl b1 h) ?_
      exact pj_X_rt rfl rfl ⟨rfl, hI, hK⟩
    | false =>
      have ub1 := pj_u_gtF b1
      refine pj_X_of (fun r h => pj_R_icF rfl b1 h) ?_
      refine pj_X_of (fun r h => pj_R_to (G, 16, [(0, .ref 34), (1, .ref 2), (2, .int v2), (3, .int v3)], [.int v2], 0, 0) 16 2 (fun _ => rfl) h) ?_
      cases b2 : pj_c1 .eq v2 0 with
      | true =>
        have ub2 := pj_u0_eqT b2
        refine pj_X_of (fun r h => pj_R_ifT 98 rfl rfl b2 h) ?_
        exact pj_X_rt rfl rfl ⟨rfl, hI, hK⟩
      | false =>
        have ub2 := pj_u0_eqF b2
        refine pj_X_of (fun r h => pj_R_ifF rfl b2 h) ?_
        refine pj_X_of (fun r h => pj_R_to (G, 22, [(0, .ref 34), (1, .ref 2), (2, .int v2), (3, .int v3)], [.int ((Int8.ofInt 8).toInt32), .int v3], 0, 0) 22 3 (fun _ => rfl) h) ?_
        cases b3 : pj_c1 .ge v3 ((Int8.ofInt 8).toInt32) with
        | true =>
          have ub3 := pj_u_geT b3
          refine pj_X_of (fun r h => pj_R_icT 81 rfl rfl b3 h) ?_
          refine pj_X_of (fun r h => pj_R_to (G, 82, [(0, .ref 34), (1, .ref 2), (2, .int v2), (3, .int v3)], [.ref 2], 0, 0) 82 2 (fun _ => rfl) h) ?_
          refine pj_X_ca (vs := [.ref 2]) rfl (fun _ => rfl) ⟨Nat.le_of_ble_eq_true rfl, Nat.le_of_ble_eq_true rfl, pj_T_rcv hI rfl⟩ ⟨rfl, rfl⟩ (pj_Y_up (by decide) (ct_81 G hI)) ?_
          rintro _ G5 ⟨rfl, iG5, jG5, eG5⟩
          have kG5 : pj_kpt kc_28 G0 G5 := pj_kpt_t hK (pj_kpt_s jG5 rfl)
          show pj_X _ _ G5 85 [(0, .ref 34), (1, .ref 2), (2, .int v2), (3, .int v3)] [] _
          refine pj_X_of (fun r h => pj_R_to (G5, 88, [(0, .ref 34), (1, .ref 2), (2, .int v2), (3, .int v3)], [.int ((Int8.ofInt 44).toInt32), .ref 2], 0, 0) 88 3 (fun _ => rfl) h) ?_
          refine pj_X_ca (vs := [.ref 2, .int ((Int8.ofInt 44).toInt32)]) rfl (fun _ => rfl) ⟨Nat.le_of_ble_eq_true rfl, Nat.le_of_ble_eq_true rfl, pj_T_rcv iG5 rfl⟩ ⟨rfl, rfl⟩ (pj_Y_up (by decide) (ct_82 G5 iG5 ((Int8.ofInt 44).toInt32) ⟨by omega, by omega⟩)) ?_
          rintro _ G7 ⟨y6, rfl, iG7, jG7, ry6⟩
          have kG7 : pj_kpt kc_28 G0 G7 := pj_kpt_t kG5 (pj_kpt_s jG7 rfl)
          show pj_X _ _ G7 91 [(0, .ref 34), (1, .ref 2), (2, .int v2), (3, .int v3)] [.int y6] _
          refine pj_X_of (fun r h => pj_R_to (G7, 95, [(3, .int (v3 + Int32.ofInt 1)), (2, .int y6), (0, .ref 34), (1, .ref 2)], [], 0, 0) 95 3 (fun _ => rfl) h) ?_
          obtain ⟨z8, hz8⟩ : ∃ z : Int32, z = v3 + Int32.ofInt 1 := ⟨_, rfl⟩
          rw [← hz8]
          have fz8_0 : z8.toInt = v3.toInt + (Int32.ofInt 1).toInt := by rw [hz8]; exact pj_addI (by have := pj_i32 v3; have := pj_i32 (Int32.ofInt 1); omega) (by have := pj_i32 v3; have := pj_i32 (Int32.ofInt 1); omega)
          refine pj_X_of (fun r h => pj_R_to (G7, 9, [(3, .int z8), (2, .int y6), (0, .ref 34), (1, .ref 2)], [], 0, 0) 9 2 (fun _ => rfl) h) ?_
          exact pj_X_sub [(0, .ref 34), (1, .ref 2), (2, .int y6), (3, .int z8)] (show List.Nodup [0, 1, 2, 3] by decide) ⟨rfl, rfl, rfl, rfl, trivial⟩ (ih G7 iG7 kG7 y6 z8 ⟨by omega, by omega⟩ ⟨by omega, by omega⟩ (by omega))
        | false =>
          have ub3 := pj_u_geF b3
          refine pj_X_of (fun r h => pj_R_icF rfl b3 h) ?_
          refine pj_X_of (fun r h => pj_R_to (G, 28, [(0, .ref 34), (1, .ref 2), (2, .int v2), (3, .int v3)], [.ref 34, .int (Int32.ofInt (-1)), .ref 2], 0, 0) 28 4 (fun _ => rfl) h) ?_
          refine pj_X_of (fun r h => pj_T_gr hI rfl rfl rfl h) ?_
          refine pj_X_gm hI rfl rfl (fun q9 => ?_) (fun q9 => ?_)
          · refine pj_X_of (fun r h => pj_T_gi hI rfl rfl h) ?_
            show pj_X _ _ G 37 [(0, .ref 34), (1, .ref 2), (2, .int v2), (3, .int v3)] [.int (pj_fi G 7 0), .int (Int32.ofInt (-1)), .ref 2] _
            obtain ⟨y10, hy10⟩ : ∃ z : Int32, z = pj_fi G 7 0 := ⟨_, rfl⟩
            rw [← hy10]
            have ey10 : (pj_fi G 7 0).toInt = y10.toInt := by rw [hy10]
            have ry10 : (0 : Int) ≤ y10.toInt ∧ y10.toInt ≤ 8 := by rw [hy10]; exact hI.2.1 7 0 (0, 8) rfl
            refine pj_X_ca (vs := [.ref 2, .int (Int32.ofInt (-1)), .int y10]) rfl (fun _ => rfl) ⟨Nat.le_of_ble_eq_true rfl, Nat.le_of_ble_eq_true rfl, pj_T_rcv hI rfl⟩ ⟨rfl, rfl⟩ (pj_Y_up (by decide) (ct_87 G hI (Int32.ofInt (-1)) y10 ⟨by omega, by omega⟩ ⟨by omega, by omega⟩)) ?_
            rintro _ G12 ⟨y11, rfl, iG12, jG12, ry11, ey11⟩
            have kG12 : pj_kpt kc_28 G0 G12 := pj_kpt_t hK (pj_kpt_s jG12 rfl)
            show pj_X _ _ G12 40 [(0, .ref 34), (1, .ref 2), (2, .int v2), (3, .int v3)] [.int y11] _
            refine pj_X_of (fun r h => pj_R_to (G12, 43, [(4, .int y11), (0, .ref 34), (1, .ref 2), (2, .int v2), (3, .int v3)], [.ref 34], 0, 0) 43 3 (fun _ => rfl) h) ?_
            refine pj_X_of (fun r h => pj_T_gr iG12 rfl rfl rfl h) ?_
            refine pj_X_of (fun r h => pj_R_to (G12, 51, [(4, .int y11), (0, .ref 34), (1, .ref 2), (2, .int v2), (3, .int v3)], [.int ((Int32.ofInt 1) <<< (y11 &&& 31)), .int v3, .ref 35], 0, 0) 51 5 (fun _ => rfl) h) ?_
            obtain ⟨z13, hz13⟩ : ∃ z : Int32, z = (Int32.ofInt 1) <<< (y11 &&& 31) := ⟨_, rfl⟩
            rw [← hz13]
            have fz13_0 : 1 ≤ z13.toInt ∧ z13.toInt ≤ 128 := by rw [hz13]; exact pj_shlI7 (by omega) (by omega)
            refine pj_X_of (fun r h => pj_R_to (G12, 56, [(4, .int y11), (0, .ref 34), (1, .ref 2), (2, .int v2), (3, .int v3)], [.ref 34, .int y11, .ref 2, .int (Int32.ofInt 1), .int z13, .int v3, .ref 35], 0, 0) 56 5 (fun _ => rfl) h) ?_
            refine pj_X_of (fun r h => pj_T_gr iG12 rfl rfl rfl h) ?_
            refine pj_X_gm iG12 rfl rfl (fun q14 => ?_) (fun q14 => ?_)
            · refine pj_X_of (fun r h => pj_T_gi iG12 rfl rfl h) ?_
              show pj_X _ _ G12 65 [(4, .int y11), (0, .ref 34), (1, .ref 2), (2, .int v2), (3, .int v3)] [.int (pj_fi G12 7 0), .int y11, .ref 2, .int (Int32.ofInt 1), .int z13, .int v3, .ref 35] _
              obtain ⟨y15, hy15⟩ : ∃ z : Int32, z = pj_fi G12 7 0 := ⟨_, rfl⟩
              rw [← hy15]
              have ey15 : (pj_fi G12 7 0).toInt = y15.toInt := by rw [hy15]
              have ry15 : (0 : Int) ≤ y15.toInt ∧ y15.toInt ≤ 8 := by rw [hy15]; exact iG12.2.1 7 0 (0, 8) rfl
              refine pj_X_ca (vs := [.ref 2, .int y11, .int y15]) rfl (fun _ => rfl) ⟨Nat.le_of_ble_eq_true rfl, Nat.le_of_ble_eq_true rfl, pj_T_rcv iG12 rfl⟩ ⟨rfl, rfl⟩ (pj_Y_up (by decide) (ct_87 G12 iG12 y11 y15 ⟨by omega, by omega⟩ ⟨by omega, by omega⟩)) ?_
              rintro _ G17 ⟨y16, rfl, iG17, jG17, ry16, ey16⟩
              have kG17 : pj_kpt kc_28 G0 G17 := pj_kpt_t kG12 (pj_kpt_s jG17 rfl)
              show pj_X _ _ G17 68 [(4, .int y11), (0, .ref 34), (1, .ref 2), (2, .int v2), (3, .int v3)] [.int y16, .int (Int32.ofInt 1), .int z13, .int v3, .ref 35] _
              refine pj_X_of (fun r h => pj_R_to (G17, 69, [(4, .int y11), (0, .ref 34), (1, .ref 2), (2, .int v2), (3, .int v3)], [.int ((Int32.ofInt 1) <<< (y16 &&& 31)), .int z13, .int v3, .ref 35], 0, 0) 69 2 (fun _ => rfl) h) ?_
              obtain ⟨z18, hz18⟩ : ∃ z : Int32, z = (Int32.ofInt 1) <<< (y16 &&& 31) := ⟨_, rfl⟩
              rw [← hz18]
              have fz18_0 : 1 ≤ z18.toInt ∧ z18.toInt ≤ 128 := by rw [hz18]; exact pj_shlI7 (by omega) (by omega)
              refine pj_X_of (fun r h => pj_R_to (G17, 70, [(4, .int y11), (0, .ref 34), (1, .ref 2), (2, .int v2), (3, .int v3)], [.int (z13 ||| z18), .int v3, .ref 35], 0, 0) 70 2 (fun _ => rfl) h) ?_
              obtain ⟨z19, hz19⟩ : ∃ z : Int32, z = z13 ||| z18 := ⟨_, rfl⟩
              rw [← hz19]
              have fz19_0 : 0 ≤ z19.toInt ∧ z19.toInt ≤ 255 := by rw [hz19]; exact pj_orI256 (by omega) (by omega) (by omega) (by omega)
              refine pj_X_of (fun r h => pj_T_is iG17 rfl rfl (by omega) (by omega) h) ?_
              show pj_X _ _ (pj_wa G17 35 v3.toInt.toNat z19) 71 [(4, .int y11), (0, .ref 34), (1, .ref 2), (2, .int v2), (3, .int v3)] [] _
              obtain ⟨G20, hG20⟩ : ∃ H, H = pj_wa G17 35 v3.toInt.toNat z19 := ⟨_, rfl⟩
              have iG20 : pj_Inv G20 := by rw [hG20]; exact pj_Inv_wa iG17 rfl (fun q hq => by cases hq) (fun n hn => by cases hn)
              have kG20 : pj_kpt kc_28 G0 G20 := by rw [hG20]; exact pj_kpt_a kG17 rfl
              rw [← hG20]
              refine pj_X_of (fun r h => pj_R_to (G20, 75, [(4, .int y11), (0, .ref 34), (1, .ref 2), (2, .int v2), (3, .int v3)], [.int (v3 + (Int32.ofInt 1)), .ref 34], 0, 0) 75 5 (fun _ => rfl) h) ?_
              obtain ⟨z21, hz21⟩ : ∃ z : Int32, z = v3 + (Int32.ofInt 1) := ⟨_, rfl⟩
              rw [← hz21]
              have fz21_0 : z21.toInt = v3.toInt + (Int32.ofInt 1).toInt := by rw [hz21]; exact pj_addI (by have := pj_i32 v3; have := pj_i32 (Int32.ofInt 1); omega) (by have := pj_i32 v3; have := pj_i32 (Int32.ofInt 1); omega)
              refine pj_X_of (fun r h => pj_T_pf iG20 rfl rfl rfl h) ?_
              show pj_X _ _ (pj_wv G20 34 2 (.int z21)) 78 [(4, .int y11), (0, .ref 34), (1, .ref 2), (2, .int v2), (3, .int v3)] [] _
              obtain ⟨G22, hG22⟩ : ∃ H, H = pj_wv G20 34 2 (.int z21) := ⟨_, rfl⟩
              have iG22 : pj_Inv G22 := by rw [hG22]; exact pj_Inv_wi iG20 (ci := 3) rfl (fun q hq => by cases hq; exact ⟨by show (0 : Int) ≤ _; omega, by show _ ≤ (8 : Int); omega⟩)
              have kG22 : pj_kpt kc_28 G0 G22 := by rw [hG22]; exact pj_kpt_v kG20 rfl
              rw [← hG22]
              refine pj_X_of (fun r h => pj_R_to (G22, 88, [(4, .int y11), (0, .ref 34), (1, .ref 2), (2, .int v2), (3, .int v3)], [.int ((Int8.ofInt 44).toInt32), .ref 2], 0, 0) 88 4 (fun _ => rfl) h) ?_
              refine pj_X_ca (vs := [.ref 2, .int ((Int8.ofInt 44).toInt32)]) rfl (fun _ => rfl) ⟨Nat.le_of_ble_eq_true rfl, Nat.le_of_ble_eq_true rfl, pj_T_rcv iG22 rfl⟩ ⟨rfl, rfl⟩ (pj_Y_up (by decide) (ct_82 G22 iG22 ((Int8.ofInt 44).toInt32) ⟨by omega, by omega⟩)) ?_
              rintro _ G24 ⟨y23, rfl, iG24, jG24, ry23⟩
              have kG24 : pj_kpt kc_28 G0 G24 := pj_kpt_t kG22 (pj_kpt_s jG24 rfl)
              show pj_X _ _ G24 91 [(4, .int y11), (0, .ref 34), (1, .ref 2), (2, .int v2), (3, .int v3)] [.int y23] _
              refine pj_X_of (fun r h => pj_R_to (G24, 95, [(3, .int (v3 + Int32.ofInt 1)), (2, .int y23), (4, .int y11), (0, .ref 34), (1, .ref 2)], [], 0, 0) 95 3 (fun _ => rfl) h) ?_
              obtain ⟨z25, hz25⟩ : ∃ z : Int32, z = v3 + Int32.ofInt 1 := ⟨_, rfl⟩
              rw [← hz25]
              have fz25_0 : z25.toInt = v3.toInt + (Int32.ofInt 1).toInt := by rw [hz25]; exact pj_addI (by have := pj_i32 v3; have := pj_i32 (Int32.ofInt 1); omega) (by have := pj_i32 v3; have := pj_i32 (Int32.ofInt 1); omega)
              refine pj_X_of (fun r h => pj_R_to (G24, 9, [(3, .int z25), (2, .int y23), (4, .int y11), (0, .ref 34), (1, .ref 2)], [], 0, 0) 9 2 (fun _ => rfl) h) ?_
              exact pj_X_sub [(0, .ref 34), (1, .ref 2), (2, .int y23), (3, .int z25)] (show List.Nodup [0, 1, 2, 3] by decide) ⟨rfl, rfl, rfl, rfl, trivial⟩ (ih G24 iG24 kG24 y23 z25 ⟨by omega, by omega⟩ ⟨by omega, by omega⟩ (by omega))
            · refine pj_X_of (fun r h => pj_T_gi iG12 rfl rfl h) ?_
              show pj_X _ _ G12 65 [(4, .int y11), (0, .ref 34), (1, .ref 2), (2, .int v2), (3, .int v3)] [.int (pj_fi G12 14 0), .int y11, .ref 2, .int (Int32.ofInt 1), .int z13, .int v3, .ref 35] _
              obtain ⟨y26, hy26⟩ : ∃ z : Int32, z = pj_fi G12 14 0 := ⟨_, rfl⟩
              rw [← hy26]
              have ey26 : (pj_fi G12 14 0).toInt = y26.toInt := by rw [hy26]
              have ry26 : (0 : Int) ≤ y26.toInt ∧ y26.toInt ≤ 8 := by rw [hy26]; exact iG12.2.1 14 0 (0, 8) rfl
              refine pj_X_ca (vs := [.ref 2, .int y11, .int y26]) rfl (fun _ => rfl) ⟨Nat.le_of_ble_eq_true rfl, Nat.le_of_ble_eq_true rfl, pj_T_rcv iG12 rfl⟩ ⟨rfl, rfl⟩ (pj_Y_up (by decide) (ct_87 G12 iG12 y11 y26 ⟨by omega, by omega⟩ ⟨by omega, by omega⟩)) ?_
              rintro _ G28 ⟨y27, rfl, iG28, jG28, ry27, ey27⟩
              have kG28 : pj_kpt kc_28 G0 G28 := pj_kpt_t kG12 (pj_kpt_s jG28 rfl)
              show pj_X _ _ G28 68 [(4, .int y11), (0, .ref 34), (1, .ref 2), (2, .int v2), (3, .int v3)] [.int y27, .int (Int32.ofInt 1), .int z13, .int v3, .ref 35] _
              refine pj_X_of (fun r h => pj_R_to (G28, 69, [(4, .int y11), (0, .ref 34), (1, .ref 2), (2, .int v2), (3, .int v3)], [.int ((Int32.ofInt 1) <<< (y27 &&& 31)), .int z13, .int v3, .ref 35], 0, 0) 69 2 (fun _ => rfl) h) ?_
              obtain ⟨z29, hz29⟩ : ∃ z : Int32, z = (Int32.ofInt 1) <<< (y27 &&& 31) := ⟨_, rfl⟩
              rw [← hz29]
              have fz29_0 : 1 ≤ z29.toInt ∧ z29.toInt ≤ 128 := by rw [hz29]; exact pj_shlI7 (by omega) (by omega)
              refine pj_X_of (fun r h => pj_R_to (G28, 70, [(4, .int y11), (0, .ref 34), (1, .ref 2), (2, .int v2), (3, .int v3)], [.int (z13 ||| z29), .int v3, .ref 35], 0, 0) 70 2 (fun _ => rfl) h) ?_
              obtain ⟨z30, hz30⟩ : ∃ z : Int32, z = z13 ||| z29 := ⟨_, rfl⟩
              rw [← hz30]
              have fz30_0 : 0 ≤ z30.toInt ∧ z30.toInt ≤ 255 := by rw [hz30]; exact pj_orI256 (by omega) (by omega) (by omega) (by omega)
              refine pj_X_of (fun r h => pj_T_is iG28 rfl rfl (by omega) (by omega) h) ?_
              show pj_X _ _ (pj_wa G28 35 v3.toInt.toNat z30) 71 [(4, .int y11), (0, .ref 34), (1, .ref 2), (2, .int v2), (3, .int v3)] [] _
              obtain ⟨G31, hG31⟩ : ∃ H, H = pj_wa G28 35 v3.toInt.toNat z30 := ⟨_, rfl⟩
              have iG31 : pj_Inv G31 := by rw [hG31]; exact pj_Inv_wa iG28 rfl (fun q hq => by cases hq) (fun n hn => by cases hn)
              have kG31 : pj_kpt kc_28 G0 G31 := by rw [hG31]; exact pj_kpt_a kG28 rfl
              rw [← hG31]
              refine pj_X_of (fun r h => pj_R_to (G31, 75, [(4, .int y11), (0, .ref 34), (1, .ref 2), (2, .int v2), (3, .int v3)], [.int (v3 + (Int32.ofInt 1)), .ref 34], 0, 0) 75 5 (fun _ => rfl) h) ?_
              obtain ⟨z32, hz32⟩ : ∃ z : Int32, z = v3 + (Int32.ofInt 1) := ⟨_, rfl⟩
              rw [← hz32]
              have fz32_0 : z32.toInt = v3.toInt + (Int32.ofInt 1).toInt := by rw [hz32]; exact pj_addI (by have := pj_i32 v3; have := pj_i32 (Int32.ofInt 1); omega) (by have := pj_i32 v3; have := pj_i32 (Int32.ofInt 1); omega)
              refine pj_X_of (fun r h => pj_T_pf iG31 rfl rfl rfl h) ?_
              show pj_X _ _ (pj_wv G31 34 2 (.int z32)) 78 [(4, .int y11), (0, .ref 34), (1, .ref 2), (2, .int v2), (3, .int v3)] [] _
              obtain ⟨G33, hG33⟩ : ∃ H, H = pj_wv G31 34 2 (.int z32) := ⟨_, rfl⟩
              have iG33 : pj_Inv G33 := by rw [hG33]; exact pj_Inv_wi iG31 (ci := 3) rfl (fun q hq => by cases hq; exact ⟨by show (0 : Int) ≤ _; omega, by show _ ≤ (8 : Int); omega⟩)
              have kG33 : pj_kpt kc_28 G0 G33 := by rw [hG33]; exact pj_kpt_v kG31 rfl
              rw [← hG33]
              refine pj_X_of (fun r h => pj_R_to (G33, 88, [(4, .int y11), (0, .ref 34), (1, .ref 2), (2, .int v2), (3, .int v3)], [.int ((Int8.ofInt 44).toInt32), .ref 2], 0, 0) 88 4 (fun _ => rfl) h) ?_
              refine pj_X_ca (vs := [.ref 2, .int ((Int8.ofInt 44).toInt32)]) rfl (fun _ => rfl) ⟨Nat.le_of_ble_eq_true rfl, Nat.le_of_ble_eq_true rfl, pj_T_rcv iG33 rfl⟩ ⟨rfl, rfl⟩ (pj_Y_up (by decide) (ct_82 G33 iG33 ((Int8.ofInt 44).toInt32) ⟨by omega, by omega⟩)) ?_
              rintro _ G35 ⟨y34, rfl, iG35, jG35, ry34⟩
              have kG35 : pj_kpt kc_28 G0 G35 := pj_kpt_t kG33 (pj_kpt_s jG35 rfl)
              show pj_X _ _ G35 91 [(4, .int y11), (0, .ref 34), (1, .ref 2), (2, .int v2), (3, .int v3)] [.int y34] _
              refine pj_X_of (fun r h => pj_R_to (G35, 95, [(3, .int (v3 + Int32.ofInt 1)), (2, .int y34), (4, .int y11), (0, .ref 34), (1, .ref 2)], [], 0, 0) 95 3 (fun _ => rfl) h) ?_
              obtain ⟨z36, hz36⟩ : ∃ z : Int32, z = v3 + Int32.ofInt 1 := ⟨_, rfl⟩
              rw [← hz36]
              have fz36_0 : z36.toInt = v3.toInt + (Int32.ofInt 1).toInt := by rw [hz36]; exact pj_addI (by have := pj_i32 v3; have := pj_i32 (Int32.ofInt 1); omega) (by have := pj_i32 v3; have := pj_i32 (Int32.ofInt 1); omega)
              refine pj_X_of (fun r h => pj_R_to (G35, 9, [(3, .int z36), (2, .int y34), (4, .int y11), (0, .ref 34), (1, .ref 2)], [], 0, 0) 9 2 (fun _ => rfl) h) ?_
              exact pj_X_sub [(0, .ref 34), (1, .ref 2), (2, .int y34), (3, .int z36)] (show List.Nodup [0, 1, 2, 3] by decide) ⟨rfl, rfl, rfl, rfl, trivial⟩ (ih G35 iG35 kG35 y34 z36 ⟨by omega, by omega⟩ ⟨by omega, by omega⟩ (by omega))
          · refine pj_X_of (fun r h => pj_T_gi hI rfl rfl h) ?_
            show pj_X _ _ G 37 [(0, .ref 34), (1, .ref 2), (2, .int v2), (3, .int v3)] [.int (pj_fi G 14 0), .int (Int32.ofInt (-1)), .ref 2] _
            obtain ⟨y37, hy37⟩ : ∃ z : Int32, z = pj_fi G 14 0 := ⟨_, rfl⟩
            rw [← hy37]
            have ey37 : (pj_fi G 14 0).toInt = y37.toInt := by rw [hy37]
            have ry37 : (0 : Int) ≤ y37.toInt ∧ y37.toInt ≤ 8 := by rw [hy37]; exact hI.2.1 14 0 (0, 8) rfl
            refine pj_X_ca (vs := [.ref 2, .int (Int32.ofInt (-1)), .int y37]) rfl (fun _ => rfl) ⟨Nat.le_of_ble_eq_true rfl, Nat.le_of_ble_eq_true rfl, pj_T_rcv hI rfl⟩ ⟨rfl, rfl⟩ (pj_Y_up (by decide) (ct_87 G hI (Int32.ofInt (-1)) y37 ⟨by omega, by omega⟩ ⟨by omega, by omega⟩)) ?_
            rintro _ G39 ⟨y38, rfl, iG39, jG39, ry38, ey38⟩
            have kG39 : pj_kpt kc_28 G0 G39 := pj_kpt_t hK (pj_kpt_s jG39 rfl)
            show pj_X _ _ G39 40 [(0, .ref 34), (1, .ref 2), (2, .int v2), (3, .int v3)] [.int y38] _
            refine pj_X_of (fun r h => pj_R_to (G39, 43, [(4, .int y38), (0, .ref 34), (1, .ref 2), (2, .int v2), (3, .int v3)], [.ref 34], 0, 0) 43 3 (fun _ => rfl) h) ?_
            refine pj_X_of (fun r h => pj_T_gr iG39 rfl rfl rfl h) ?_
            refine pj_X_of (fun r h => pj_R_to (G39, 51, [(4, .int y38), (0, .ref 34), (1, .ref 2), (2, .int v2), (3, .int v3)], [.int ((Int32.ofInt 1) <<< (y38 &&& 31)), .int v3, .ref 35], 0, 0) 51 5 (fun _ => rfl) h) ?_
            obtain ⟨z40, hz40⟩ : ∃ z : Int32, z = (Int32.ofInt 1) <<< (y38 &&& 31) := ⟨_, rfl⟩
            rw [← hz40]
            have fz40_0 : 1 ≤ z40.toInt ∧ z40.toInt ≤ 128 := by rw [hz40]; exact pj_shlI7 (by omega) (by omega)
            refine pj_X_of (fun r h => pj_R_to (G39, 56, [(4, .int y38), (0, .ref 34), (1, .ref 2), (2, .int v2), (3, .int v3)], [.ref 34, .int y38, .ref 2, .int (Int32.ofInt 1), .int z40, .int v3, .ref 35], 0, 0) 56 5 (fun _ => rfl) h) ?_
            refine pj_X_of (fun r h => pj_T_gr iG39 rfl rfl rfl h) ?_
            refine pj_X_gm iG39 rfl rfl (fun q41 => ?_) (fun q41 => ?_)
            · refine pj_X_of (fun r h => pj_T_gi iG39 rfl rfl h) ?_
              show pj_X _ _ G39 65 [(4, .int y38), (0, .ref 34), (1, .ref 2), (2, .int v2), (3, .int v3)] [.int (pj_fi G39 7 0), .int y38, .ref 2, .int (Int32.ofInt 1), .int z40, .int v3, .ref 35] _
              obtain ⟨y42, hy42⟩ : ∃ z : Int32, z = pj_fi G39 7 0 := ⟨_, rfl⟩
              rw [← hy42]
              have ey42 : (pj_fi G39 7 0).toInt = y42.toInt := by rw [hy42]
              have ry42 : (0 : Int) ≤ y42.toInt ∧ y42.toInt ≤ 8 := by rw [hy42]; exact iG39.2.1 7 0 (0, 8) rfl
              refine pj_X_ca (vs := [.ref 2, .int y38, .int y42]) rfl (fun _ => rfl) ⟨Nat.le_of_ble_eq_true rfl, Nat.le_of_ble_eq_true rfl, pj_T_rcv iG39 rfl⟩ ⟨rfl, rfl⟩ (pj_Y_up (by decide) (ct_87 G39 iG39 y38 y42 ⟨by omega, by omega⟩ ⟨by omega, by omega⟩)) ?_
              rintro _ G44 ⟨y43, rfl, iG44, jG44, ry43, ey43⟩
              have kG44 : pj_kpt kc_28 G0 G44 := pj_kpt_t kG39 (pj_kpt_s jG44 rfl)
              show pj_X _ _ G44 68 [(4, .int y38), (0, .ref 34), (1, .ref 2), (2, .int v2), (3, .int v3)] [.int y43, .int (Int32.ofInt 1), .int z40, .int v3, .ref 35] _
              refine pj_X_of (fun r h => pj_R_to (G44, 69, [(4, .int y38), (0, .ref 34), (1, .ref 2), (2, .int v2), (3, .int v3)], [.int ((Int32.ofInt 1) <<< (y43 &&& 31)), .int z40, .int v3, .ref 35], 0, 0) 69 2 (fun _ => rfl) h) ?_
              obtain ⟨z45, hz45⟩ : ∃ z : Int32, z = (Int32.ofInt 1) <<< (y43 &&& 31) := ⟨_, rfl⟩
              rw [← hz45]
              have fz45_0 : 1 ≤ z45.toInt ∧ z45.toInt ≤ 128 := by rw [hz45]; exact pj_shlI7 (by omega) (by omega)
              refine pj_X_of (fun r h => pj_R_to (G44, 70, [(4, .int y38), (0, .ref 34), (1, .ref 2), (2, .int v2), (3, .int v3)], [.int (z40 ||| z45), .int v3, .ref 35], 0, 0) 70 2 (fun _ => rfl) h) ?_
              obtain ⟨z46, hz46⟩ : ∃ z : Int32, z = z40 ||| z45 := ⟨_, rfl⟩
              rw [← hz46]
              have fz46_0 : 0 ≤ z46.toInt ∧ z46.toInt ≤ 255 := by rw [hz46]; exact pj_orI256 (by omega) (by omega) (by omega) (by omega)
              refine pj_X_of (fun r h => pj_T_is iG44 rfl rfl (by omega) (by omega) h) ?_
              show pj_X _ _ (pj_wa G44 35 v3.toInt.toNat z46) 71 [(4, .int y38), (0, .ref 34), (1, .ref 2), (2, .int v2), (3, .int v3)] [] _
              obtain ⟨G47, hG47⟩ : ∃ H, H = pj_wa G44 35 v3.toInt.toNat z46 := ⟨_, rfl⟩
              have iG47 : pj_Inv G47 := by rw [hG47]; exact pj_Inv_wa iG44 rfl (fun q hq => by cases hq) (fun n hn => by cases hn)
              have kG47 : pj_kpt kc_28 G0 G47 := by rw [hG47]; exact pj_kpt_a kG44 rfl
              rw [← hG47]
              refine pj_X_of (fun r h => pj_R_to (G47, 75, [(4, .int y38), (0, .ref 34), (1, .ref 2), (2, .int v2), (3, .int v3)], [.int (v3 + (Int32.ofInt 1)), .ref 34], 0, 0) 75 5 (fun _ => rfl) h) ?_
              obtain ⟨z48, hz48⟩ : ∃ z : Int32, z = v3 + (Int32.ofInt 1) := ⟨_, rfl⟩
              rw [← hz48]
              have fz48_0 : z48.toInt = v3.toInt + (Int32.ofInt 1).toInt := by rw [hz48]; exact pj_addI (by have := pj_i32 v3; have := pj_i32 (Int32.ofInt 1); omega) (by have := pj_i32 v3; have := pj_i32 (Int32.ofInt 1); omega)
              refine pj_X_of (fun r h => pj_T_pf iG47 rfl rfl rfl h) ?_
              show pj_X _ _ (pj_wv G47 34 2 (.int z48)) 78 [(4, .int y38), (0, .ref 34), (1, .ref 2), (2, .int v2), (3, .int v3)] [] _
              obtain ⟨G49, hG49⟩ : ∃ H, H = pj_wv G47 34 2 (.int z48) := ⟨_, rfl⟩
              have iG49 : pj_Inv G49 := by rw [hG49]; exact pj_Inv_wi iG47 (ci := 3) rfl (fun q hq => by cases hq; exact ⟨by show (0 : Int) ≤ _; omega, by show _ ≤ (8 : Int); omega⟩)
              have kG49 : pj_kpt kc_28 G0 G49 := by rw [hG49]; exact pj_kpt_v kG47 rfl
              rw [← hG49]
              refine pj_X_of (fun r h => pj_R_to (G49, 88, [(4, .int y38), (0, .ref 34), (1, .ref 2), (2, .int v2), (3, .int v3)], [.int ((Int8.ofInt 44).toInt32), .ref 2], 0, 0) 88 4 (fun _ => rfl) h) ?_
              refine pj_X_ca (vs := [.ref 2, .int ((Int8.ofInt 44).toInt32)]) rfl (fun _ => rfl) ⟨Nat.le_of_ble_eq_true rfl, Nat.le_of_ble_eq_true rfl, pj_T_rcv iG49 rfl⟩ ⟨rfl, rfl⟩ (pj_Y_up (by decide) (ct_82 G49 iG49 ((Int8.ofInt 44).toInt32) ⟨by omega, by omega⟩)) ?_
              rintro _ G51 ⟨y50, rfl, iG51, jG51, ry50⟩
              have kG51 : pj_kpt kc_28 G0 G51 := pj_kpt_t kG49 (pj_kpt_s jG51 rfl)
              show pj_X _ _ G51 91 [(4, .int y38), (0, .ref 34), (1, .ref 2), (2, .int v2), (3, .int v3)] [.int y50] _
              refine pj_X_of (fun r h => pj_R_to (G51, 95, [(3, .int (v3 + Int32.ofInt 1)), (2, .int y50), (4, .int y38), (0, .ref 34), (1, .ref 2)], [], 0, 0) 95 3 (fun _ => rfl) h) ?_
              obtain ⟨z52, hz52⟩ : ∃ z : Int32, z = v3 + Int32.ofInt 1 := ⟨_, rfl⟩
              rw [← hz52]
              have fz52_0 : z52.toInt = v3.toInt + (Int32.ofInt 1).toInt := by rw [hz52]; exact pj_addI (by have := pj_i32 v3; have := pj_i32 (Int32.ofInt 1); omega) (by have := pj_i32 v3; have := pj_i32 (Int32.ofInt 1); omega)
              refine pj_X_of (fun r h => pj_R_to (G51, 9, [(3, .int z52), (2, .int y50), (4, .int y38), (0, .ref 34), (1, .ref 2)], [], 0, 0) 9 2 (fun _ => rfl) h) ?_
              exact pj_X_sub [(0, .ref 34), (1, .ref 2), (2, .int y50), (3, .int z52)] (show List.Nodup [0, 1, 2, 3] by decide) ⟨rfl, rfl, rfl, rfl, trivial⟩ (ih G51 iG51 kG51 y50 z52 ⟨by omega, by omega⟩ ⟨by omega, by omega⟩ (by omega))
            · refine pj_X_of (fun r h => pj_T_gi iG39 rfl rfl h) ?_
              show pj_X _ _ G39 65 [(4, .int y38), (0, .ref 34), (1, .ref 2), (2, .int v2), (3, .int v3)] [.int (pj_fi G39 14 0), .int y38, .ref 2, .int (Int32.ofInt 1), .int z40, .int v3, .ref 35] _
              obtain ⟨y53, hy53⟩ : ∃ z : Int32, z = pj_fi G39 14 0 := ⟨_, rfl⟩
              rw [← hy53]
              have ey53 : (pj_fi G39 14 0).toInt = y53.toInt := by rw [hy53]
              have ry53 : (0 : Int) ≤ y53.toInt ∧ y53.toInt ≤ 8 := by rw [hy53]; exact iG39.2.1 14 0 (0, 8) rfl
              refine pj_X_ca (vs := [.ref 2, .int y38, .int y53]) rfl (fun _ => rfl) ⟨Nat.le_of_ble_eq_true rfl, Nat.le_of_ble_eq_true rfl, pj_T_rcv iG39 rfl⟩ ⟨rfl, rfl⟩ (pj_Y_up (by decide) (ct_87 G39 iG39 y38 y53 ⟨by omega, by omega⟩ ⟨by omega, by omega⟩)) ?_
              rintro _ G55 ⟨y54, rfl, iG55, jG55, ry54, ey54⟩
              have kG55 : pj_kpt kc_28 G0 G55 := pj_kpt_t kG39 (pj_kpt_s jG55 rfl)
              show pj_X _ _ G55 68 [(4, .int y38), (0, .ref 34), (1, .ref 2), (2, .int v2), (3, .int v3)] [.int y54, .int (Int32.ofInt 1), .int z40, .int v3, .ref 35] _
              refine pj_X_of (fun r h => pj_R_to (G55, 69, [(4, .int y38), (0, .ref 34), (1, .ref 2), (2, .int v2), (3, .int v3)], [.int ((Int32.ofInt 1) <<< (y54 &&& 31)), .int z40, .int v3, .ref 35], 0, 0) 69 2 (fun _ => rfl) h) ?_
              obtain ⟨z56, hz56⟩ : ∃ z : Int32, z = (Int32.ofInt 1) <<< (y54 &&& 31) := ⟨_, rfl⟩
              rw [← hz56]
              have fz56_0 : 1 ≤ z56.toInt ∧ z56.toInt ≤ 128 := by rw [hz56]; exact pj_shlI7 (by omega) (by omega)
              refine pj_X_of (fun r h => pj_R_to (G55, 70, [(4, .int y38), (0, .ref 34), (1, .ref 2), (2, .int v2), (3, .int v3)], [.int (z40 ||| z56), .int v3, .ref 35], 0, 0) 70 2 (fun _ => rfl) h) ?_
              obtain ⟨z57, hz57⟩ : ∃ z : Int32, z = z40 ||| z56 := ⟨_, rfl⟩
              rw [← hz57]
              have fz57_0 : 0 ≤ z57.toInt ∧ z57.toInt ≤ 255 := by rw [hz57]; exact pj_orI256 (by omega) (by omega) (by omega) (by omega)
              refine pj_X_of (fun r h => pj_T_is iG55 rfl rfl (by omega) (by omega) h) ?_
              show pj_X _ _ (pj_wa G55 35 v3.toInt.toNat z57) 71 [(4, .int y38), (0, .ref 34), (1, .ref 2), (2, .int v2), (3, .int v3)] [] _
              obtain ⟨G58, hG58⟩ : ∃ H, H = pj_wa G55 35 v3.toInt.toNat z57 := ⟨_, rfl⟩
              have iG58 : pj_Inv G58 := by rw [hG58]; exact pj_Inv_wa iG55 rfl (fun q hq => by cases hq) (fun n hn => by cases hn)
              have kG58 : pj_kpt kc_28 G0 G58 := by rw [hG58]; exact pj_kpt_a kG55 rfl
              rw [← hG58]
              refine pj_X_of (fun r h => pj_R_to (G58, 75, [(4, .int y38), (0, .ref 34), (1, .ref 2), (2, .int v2), (3, .int v3)], [.int (v3 + (Int32.ofInt 1)), .ref 34], 0, 0) 75 5 (fun _ => rfl) h) ?_
              obtain ⟨z59, hz59⟩ : ∃ z : Int32, z = v3 + (Int32.ofInt 1) := ⟨_, rfl⟩
              rw [← hz59]
              have fz59_0 : z59.toInt = v3.toInt + (Int32.ofInt 1).toInt := by rw [hz59]; exact pj_addI (by have := pj_i32 v3; have := pj_i32 (Int32.ofInt 1); omega) (by have := pj_i32 v3; have := pj_i32 (Int32.ofInt 1); omega)
              refine pj_X_of (fun r h => pj_T_pf iG58 rfl rfl rfl h) ?_
              show pj_X _ _ (pj_wv G58 34 2 (.int z59)) 78 [(4, .int y38), (0, .ref 34), (1, .ref 2), (2, .int v2), (3, .int v3)] [] _
              obtain ⟨G60, hG60⟩ : ∃ H, H = pj_wv G58 34 2 (.int z59) := ⟨_, rfl⟩
              have iG60 : pj_Inv G60 := by rw [hG60]; exact pj_Inv_wi iG58 (ci := 3) rfl (fun q hq => by cases hq; exact ⟨by show (0 : Int) ≤ _; omega, by show _ ≤ (8 : Int); omega⟩)
              have kG60 : pj_kpt kc_28 G0 G60 := by rw [hG60]; exact pj_kpt_v kG58 rfl
              rw [← hG60]
              refine pj_X_of (fun r h => pj_R_to (G60, 88, [(4, .int y38), (0, .ref 34), (1, .ref 2), (2, .int v2), (3, .int v3)], [.int ((Int8.ofInt 44).toInt32), .ref 2], 0, 0) 88 4 (fun _ => rfl) h) ?_
              refine pj_X_ca (vs := [.ref 2, .int ((Int8.ofInt 44).toInt32)]) rfl (fun _ => rfl) ⟨Nat.le_of_ble_eq_true rfl, Nat.le_of_ble_eq_true rfl, pj_T_rcv iG60 rfl⟩ ⟨rfl, rfl⟩ (pj_Y_up (by decide) (ct_82 G60 iG60 ((Int8.ofInt 44).toInt32) ⟨by omega, by omega⟩)) ?_
              rintro _ G62 ⟨y61, rfl, iG62, jG62, ry61⟩
              have kG62 : pj_kpt kc_28 G0 G62 := pj_kpt_t kG60 (pj_kpt_s jG62 rfl)
              show pj_X _ _ G62 91 [(4, .int y38), (0, .ref 34), (1, .ref 2), (2, .int v2), (3, .int v3)] [.int y61] _
              refine pj_X_of (fun r h => pj_R_to (G62, 95, [(3, .int (v3 + Int32.ofInt 1)), (2, .int y61), (4, .int y38), (0, .ref 34), (1, .ref 2)], [], 0, 0) 95 3 (fun _ => rfl) h) ?_
              obtain ⟨z63, hz63⟩ : ∃ z : Int32, z = v3 + Int32.ofInt 1 := ⟨_, rfl⟩
              rw [← hz63]
              have fz63_0 : z63.toInt = v3.toInt + (Int32.ofInt 1).toInt := by rw [hz63]; exact pj_addI (by have := pj_i32 v3; have := pj_i32 (Int32.ofInt 1); omega) (by have := pj_i32 v3; have := pj_i32 (Int32.ofInt 1); omega)
              refine pj_X_of (fun r h => pj_R_to (G62, 9, [(3, .int z63), (2, .int y61), (4, .int y38), (0, .ref 34), (1, .ref 2)], [], 0, 0) 9 2 (fun _ => rfl) h) ?_
              exact pj_X_sub [(0, .ref 34), (1, .ref 2), (2, .int y61), (3, .int z63)] (show List.Nodup [0, 1, 2, 3] by decide) ⟨rfl, rfl, rfl, rfl, trivial⟩ (ih G62 iG62 kG62 y61 z63 ⟨by omega, by omega⟩ ⟨by omega, by omega⟩ (by omega))
theorem ct_28 (G0 : pj_G) (hI : pj_Inv G0) : pj_Y 4 28 [.ref 34, .ref 2] G0 (fun v G' => v = none ∧ pj_Inv G' ∧ pj_kpt kc_28 G0 G') := by
  have c0_ : ((Int8.ofInt 44).toInt32).toInt = 44 := by decide
  have c1_ : ((Int8.ofInt 8).toInt32).toInt = 8 := by decide
  have c2_ : (Int32.ofInt (-1)).toInt = -1 := by decide
  have c3_ : (Int32.ofInt 0).toInt = 0 := by decide
  have c4_ : (Int32.ofInt 1).toInt = 1 := by decide
  refine pj_Y_X (M := pj_m28) rfl rfl (Nat.le_of_ble_eq_true rfl) ?_
  have hK : pj_kpt kc_28 G0 G0 := pj_kpt_r _ _
  show pj_X _ _ G0 0 [(0, .ref 34), (1, .ref 2)] [] _
  refine pj_X_of (fun r h => pj_R_to (G0, 2, [(0, .ref 34), (1, .ref 2)], [.int (Int32.ofInt 0), .ref 34], 0, 0) 2 3 (fun _ => rfl) h) ?_
  refine pj_X_of (fun r h => pj_T_pf hI rfl rfl rfl h) ?_
  show pj_X _ _ (pj_wv G0 34 2 (.int (Int32.ofInt 0))) 5 [(0, .ref 34), (1, .ref 2)] [] _
  obtain ⟨G64, hG64⟩ : ∃ H, H = pj_wv G0 34 2 (.int (Int32.ofInt 0)) := ⟨_, rfl⟩
  have iG64 : pj_Inv G64 := by rw [hG64]; exact pj_Inv_wi hI (ci := 3) rfl (fun q hq => by cases hq; exact ⟨by show (0 : Int) ≤ _; omega, by show _ ≤ (8 : Int); omega⟩)
  have kG64 : pj_kpt kc_28 G0 G64 := by rw [hG64]; exact pj_kpt_v hK rfl
  rw [← hG64]
  refine pj_X_of (fun r h => pj_R_to (G64, 9, [(3, .int (Int32.ofInt 0)), (2, .int (Int32.ofInt 1)), (0, .ref 34), (1, .ref 2)], [], 0, 0) 9 5 (fun _ => rfl) h) ?_
  exact pj_X_sub [(0, .ref 34), (1, .ref 2), (2, .int (Int32.ofInt 1)), (3, .int (Int32.ofInt 0))] (show List.Nodup [0, 1, 2, 3] by decide) ⟨rfl, rfl, rfl, rfl, trivial⟩ ((lp_ct_28 G0 hI   10) G64 iG64 kG64 (Int32.ofInt 1) (Int32.ofInt 0) ⟨by omega, by omega⟩ ⟨by omega, by omega⟩ (by omega))
def kc_154 : pj_KT := ([(4, 1)], [4, 5], [])
theorem lp_ct_154 (G0 : pj_G) (hI0 : pj_Inv G0) (c : Int32) : ∀ mn : Nat, (∀ (G : pj_G) (hI : pj_Inv G) (hK : pj_kpt kc_154 G0 G) (v2 : Int32) (v3 : Int32), ((-2147483648 : Int) ≤ v2.toInt ∧ v2.toInt ≤ 2147483647) → ((1 : Int) ≤ v3.toInt ∧ v3.toInt ≤ 10) → 30 * (10 - v3.toInt) < (mn : Int) → pj_X 2 pj_m154 G 23 [(0, .ref 1), (1, .int c), (2, .int v2), (3, .int v3)] [] (fun v G' => ∃ y : Int32, v = some (.int y) ∧ pj_Inv G' ∧ pj_kpt kc_154 G0 G' ∧ ((-2147483648 : Int) ≤ y.toInt ∧ y.toInt ≤ 2147483647))) ∧ (∀ (G : pj_G) (hI : pj_Inv G) (hK : pj_kpt kc_154 G0 G) (v2 : Int32) (v3 : Int32) (v4 : Int32), ((-2147483648 : Int) ≤ v2.toInt ∧ v2.toInt ≤ 2147483647) → ((1 : Int) ≤ v3.toInt ∧ v3.toInt ≤ 9) → ((1 : Int) ≤ v4.toInt ∧ v4.toInt ≤ 10) → 30 * (10 - v3.toInt) - 1 - v4.toInt < (mn : Int) → pj_X 2 pj_m154 G 32 [(0, .ref 1), (1, .int c), (2, .int v2), (3, .int v3), (4, .int v4)] [] (fun v G' => ∃ y : Int32, v = some (.int y) ∧ pj_Inv G' ∧ pj_kpt kc_154 G0 G' ∧ ((-2147483648 : Int) ≤ y.toInt ∧ y.toInt ≤ 2147483647))) := by
  have c0_ : ((Int8.ofInt 9).toInt32).toInt = 9 := by decide
  have c1_ : (Int32.ofInt (-1)).toInt = -1 := by decide
  have c2_ : (Int32.ofInt 0).toInt = 0 := by decide
  have c3_ : (Int32.ofInt 1).toInt = 1 := by decide
  intro mn
  induction mn with
  | zero =>
    refine ⟨?_, ?_⟩
    · intro G hI hK v2 v3 rv2 rv3 hm
      exfalso
      omega
    · intro G hI hK v2 v3 v4 rv2 rv3 rv4 hm
      exfalso
      omega
  | succ mn ih =>
    refine ⟨?_, ?_⟩
    · intro G hI hK v2 v3 rv2 rv3 hm
      refine pj_X_of (fun r h => pj_R_to (G, 26, [(0, .ref 1), (1, .int c), (2, .int v2), (3, .int v3)], [.int ((Int8.ofInt 9).toInt32), .int v3], 0, 0) 26 3 (fun _ => rfl) h) ?_
      cases b1 : pj_c1 .gt v3 ((Int8.ofInt 9).toInt32) with
      | true =>
        have ub1 := pj_u_gtT b1
        refine pj_X_of (fun r h => pj_R_icT 90 rfl rfl b1 h) ?_
        refine pj_X_of (fun r h => pj_R_to (G, 91, [(0, .ref 1), (1, .int c), (2, .int v2), (3, .int v3)], [.int v2], 0, 0) 91 2 (fun _ => rfl) h) ?_
        exact pj_X_rt rfl rfl ⟨_, rfl, hI, hK, pj_i32 _⟩
      | false =>
        have ub1 := pj_u_gtF b1
        refine pj_X_of (fun r h => pj_R_icF rfl b1 h) ?_
        refine pj_X_of (fun r h => pj_R_to (G, 32, [(4, .int (Int32.ofInt 1)), (0, .ref 1), (1, .int c), (2, .int v2), (3, .int v3)], [], 0, 0) 32 3 (fun _ => rfl) h) ?_
        exact pj_X_sub [(0, .ref 1), (1, .int c), (2, .int v2), (3, .int v3), (4, .int (Int32.ofInt 1))] (show List.Nodup [0, 1, 2, 3, 4] by decide) ⟨rfl, rfl, rfl, rfl, rfl, trivial⟩ (ih.2 G hI hK v2 v3 (Int32.ofInt 1) (pj_i32 _) ⟨by omega, by omega⟩ ⟨by omega, by omega⟩ (by omega))
    · intro G hI hK v2 v3 v4 rv2 rv3 rv4 hm
      refine pj_X_of (fun r h => pj_R_to (G, 36, [(0, .ref 1), (1, .int c), (2, .int v2), (3, .int v3), (4, .int v4)], [.int ((Int8.ofInt 9).toInt32), .int v4], 0, 0) 36 3 (fun _ => rfl) h) ?_
      cases b2 : pj_c1 .gt v4 ((Int8.ofInt 9).toInt32) with
      | true =>
        have ub2 := pj_u_gtT b2
        refine pj_X_of (fun r h => pj_R_icT 84 rfl rfl b2 h) ?_
        refine pj_X_of (fun r h => pj_R_to (G, 87, [(3, .int (v3 + Int32.ofInt 1)), (0, .ref 1), (1, .int c), (2, .int v2), (4, .int v4)], [], 0, 0) 87 2 (fun _ => rfl) h) ?_
        obtain ⟨z3, hz3⟩ : ∃ z : Int32, z = v3 + Int32.ofInt 1 := ⟨_, rfl⟩
        rw [← hz3]
        have fz3_0 : z3.toInt = v3.toInt + (Int32.ofInt 1).toInt := by rw [hz3]; exact pj_addI (by have := pj_i32 v3; have := pj_i32 (Int32.ofInt 1); omega) (by have := pj_i32 v3; have := pj_i32 (Int32.ofInt 1); omega)
        refine pj_X_of (fun r h => pj_R_to (G, 23, [(3, .int z3), (0, .ref 1), (1, .int c), (2, .int v2), (4, .int v4)], [], 0, 0) 23 2 (fun _ => rfl) h) ?_
        exact pj_X_sub [(0, .ref 1), (1, .int c), (2, .int v2), (3, .int z3)] (show List.Nodup [0, 1, 2, 3] by decide) ⟨rfl, rfl, rfl, rfl, trivial⟩ (ih.1 G hI hK v2 z3 (pj_i32 _) ⟨by omega, by omega⟩ (by omega))
      | false =>
        have ub2 := pj_u_gtF b2
        refine pj_X_of (fun r h => pj_R_icF rfl b2 h) ?_
        refine pj_X_of (fun r h => pj_R_to (G, 43, [(0, .ref 1), (1, .int c), (2, .int v2), (3, .int v3), (4, .int v4)], [.int c, .int v4, .int v3], 0, 0) 43 4 (fun _ => rfl) h) ?_
        refine pj_X_ca (vs := [.int v3, .int v4, .int c]) rfl (fun _ => rfl) ⟨Nat.le_of_ble_eq_true rfl, Nat.le_of_ble_eq_true rfl, rfl⟩ ⟨rfl, rfl⟩ (pj_Y_up (by decide) (ct_167 G hI v3 v4 c)) ?_
        rintro _ _ ⟨y4, rfl, rfl, ry4⟩
        show pj_X _ _ G 46 [(0, .ref 1), (1, .int c), (2, .int v2), (3, .int v3), (4, .int v4)] [.int y4] _
        cases b5 : pj_c1 .eq y4 0 with
        | true =>
          have ub5 := pj_u0_eqT b5
          refine pj_X_of (fun r h => pj_R_ifT 78 rfl rfl b5 h) ?_
          refine pj_X_of (fun r h => pj_R_to (G, 81, [(4, .int (v4 + Int32.ofInt 1)), (0, .ref 1), (1, .int c), (2, .int v2), (3, .int v3)], [], 0, 0) 81 2 (fun _ => rfl) h) ?_
          obtain ⟨z6, hz6⟩ : ∃ z : Int32, z = v4 + Int32.ofInt 1 := ⟨_, rfl⟩
          rw [← hz6]
          have fz6_0 : z6.toInt = v4.toInt + (Int32.ofInt 1).toInt := by rw [hz6]; exact pj_addI (by have := pj_i32 v4; have := pj_i32 (Int32.ofInt 1); omega) (by have := pj_i32 v4; have := pj_i32 (Int32.ofInt 1); omega)
          refine pj_X_of (fun r h => pj_R_to (G, 32, [(4, .int z6), (0, .ref 1), (1, .int c), (2, .int v2), (3, .int v3)], [], 0, 0) 32 2 (fun _ => rfl) h) ?_
          exact pj_X_sub [(0, .ref 1), (1, .int c), (2, .int v2), (3, .int v3), (4, .int z6)] (show List.Nodup [0, 1, 2, 3, 4] by decide) ⟨rfl, rfl, rfl, rfl, rfl, trivial⟩ (ih.2 G hI hK v2 v3 z6 (pj_i32 _) ⟨by omega, by omega⟩ ⟨by omega, by omega⟩ (by omega))
        | false =>
          have ub5 := pj_u0_eqF b5
          refine pj_X_of (fun r h => pj_R_ifF rfl b5 h) ?_
          refine pj_X_of (fun r h => pj_R_to (G, 53, [(0, .ref 1), (1, .int c), (2, .int v2), (3, .int v3), (4, .int v4)], [.int c, .int v3, .int v4], 0, 0) 53 4 (fun _ => rfl) h) ?_
          refine pj_X_ca (vs := [.int v4, .int v3, .int c]) rfl (fun _ => rfl) ⟨Nat.le_of_ble_eq_true rfl, Nat.le_of_ble_eq_true rfl, rfl⟩ ⟨rfl, rfl⟩ (pj_Y_up (by decide) (ct_167 G hI v4 v3 c)) ?_
          rintro _ _ ⟨y7, rfl, rfl, ry7⟩
          show pj_X _ _ G 56 [(0, .ref 1), (1, .int c), (2, .int v2), (3, .int v3), (4, .int v4)] [.int y7] _
          cases b8 : pj_c1 .eq y7 0 with
          | true =>
            have ub8 := pj_u0_eqT b8
            refine pj_X_of (fun r h => pj_R_ifT 78 rfl rfl b8 h) ?_
            refine pj_X_of (fun r h => pj_R_to (G, 81, [(4, .int (v4 + Int32.ofInt 1)), (0, .ref 1), (1, .int c), (2, .int v2), (3, .int v3)], [], 0, 0) 81 2 (fun _ => rfl) h) ?_
            obtain ⟨z9, hz9⟩ : ∃ z : Int32, z = v4 + Int32.ofInt 1 := ⟨_, rfl⟩
            rw [← hz9]
            have fz9_0 : z9.toInt = v4.toInt + (Int32.ofInt 1).toInt := by rw [hz9]; exact pj_addI (by have := pj_i32 v4; have := pj_i32 (Int32.ofInt 1); omega) (by have := pj_i32 v4; have := pj_i32 (Int32.ofInt 1); omega)
            refine pj_X_of (fun r h => pj_R_to (G, 32, [(4, .int z9), (0, .ref 1), (1, .int c), (2, .int v2), (3, .int v3)], [], 0, 0) 32 2 (fun _ => rfl) h) ?_
            exact pj_X_sub [(0, .ref 1), (1, .int c), (2, .int v2), (3, .int v3), (4, .int z9)] (show List.Nodup [0, 1, 2, 3, 4] by decide) ⟨rfl, rfl, rfl, rfl, rfl, trivial⟩ (ih.2 G hI hK v2 v3 z9 (pj_i32 _) ⟨by omega, by omega⟩ ⟨by omega, by omega⟩ (by omega))
          | false =>
            have ub8 := pj_u0_eqF b8
            refine pj_X_of (fun r h => pj_R_ifF rfl b8 h) ?_
            refine pj_X_of (fun r h => pj_R_to (G, 60, [(0, .ref 1), (1, .int c), (2, .int v2), (3, .int v3), (4, .int v4)], [.int v2], 0, 0) 60 2 (fun _ => rfl) h) ?_
            cases b10 : pj_c1 .ne v2 0 with
            | true =>
              have ub10 := pj_u0_neT b10
              refine pj_X_of (fun r h => pj_R_ifT 75 rfl rfl b10 h) ?_
              refine pj_X_of (fun r h => pj_R_to (G, 78, [(2, .int (v2 + Int32.ofInt 1)), (0, .ref 1), (1, .int c), (3, .int v3), (4, .int v4)], [], 0, 0) 78 2 (fun _ => rfl) h) ?_
              obtain ⟨z11, hz11⟩ : ∃ z : Int32, z = v2 + Int32.ofInt 1 := ⟨_, rfl⟩
              rw [← hz11]
              refine pj_X_of (fun r h => pj_R_to (G, 81, [(4, .int (v4 + Int32.ofInt 1)), (2, .int z11), (0, .ref 1), (1, .int c), (3, .int v3)], [], 0, 0) 81 2 (fun _ => rfl) h) ?_
              obtain ⟨z12, hz12⟩ : ∃ z : Int32, z = v4 + Int32.ofInt 1 := ⟨_, rfl⟩
              rw [← hz12]
              have fz12_0 : z12.toInt = v4.toInt + (Int32.ofInt 1).toInt := by rw [hz12]; exact pj_addI (by have := pj_i32 v4; have := pj_i32 (Int32.ofInt 1); omega) (by have := pj_i32 v4; have := pj_i32 (Int32.ofInt 1); omega)
              refine pj_X_of (fun r h => pj_R_to (G, 32, [(4, .int z12), (2, .int z11), (0, .ref 1), (1, .int c), (3, .int v3)], [], 0, 0) 32 2 (fun _ => rfl) h) ?_
              exact pj_X_sub [(0, .ref 1), (1, .int c), (2, .int z11), (3, .int v3), (4, .int z12)] (show List.Nodup [0, 1, 2, 3, 4] by decide) ⟨rfl, rfl, rfl, rfl, rfl, trivial⟩ (ih.2 G hI hK z11 v3 z12 (pj_i32 _) ⟨by omega, by omega⟩ ⟨by omega, by omega⟩ (by omega))
            | false =>
              have ub10 := pj_u0_neF b10
              refine pj_X_of (fun r h => pj_R_ifF rfl b10 h) ?_
              refine pj_X_of (fun r h => pj_R_to (G, 64, [(0, .ref 1), (1, .int c), (2, .int v2), (3, .int v3), (4, .int v4)], [.ref 1], 0, 0) 64 2 (fun _ => rfl) h) ?_
              refine pj_X_of (fun r h => pj_T_gr hI rfl rfl rfl h) ?_
              refine pj_X_of (fun r h => pj_R_to (G, 72, [(0, .ref 1), (1, .int c), (2, .int v2), (3, .int v3), (4, .int v4)], [.long v4.toInt64, .long v3.toInt64, .ref 4], 0, 0) 72 5 (fun _ => rfl) h) ?_
              have lc13 : (v3.toInt64).toInt = v3.toInt := Int32.toInt_toInt64 _
              have lc14 : (v4.toInt64).toInt = v4.toInt := Int32.toInt_toInt64 _
              refine pj_X_ca (vs := [.ref 4, .long v3.toInt64, .long v4.toInt64]) rfl (fun _ => rfl) ⟨Nat.le_of_ble_eq_true rfl, Nat.le_of_ble_eq_true rfl, pj_T_rcv hI rfl⟩ ⟨rfl, rfl⟩ (pj_Y_up (by decide) (ct_56x G hI v3.toInt64 v4.toInt64)) ?_
              rintro _ G16 ⟨rfl, iG16, jG16, fy15⟩
              have kG16 : pj_kpt kc_154 G0 G16 := pj_kpt_t hK (pj_kpt_s jG16 rfl)
              show pj_X _ _ G16 75 [(0, .ref 1), (1, .int c), (2, .int v2), (3, .int v3), (4, .int v4)] [] _
              refine pj_X_of (fun r h => pj_R_to (G16, 78, [(2, .int (v2 + Int32.ofInt 1)), (0, .ref 1), (1, .int c), (3, .int v3), (4, .int v4)], [], 0, 0) 78 2 (fun _ => rfl) h) ?_
              obtain ⟨z17, hz17⟩ : ∃ z : Int32, z = v2 + Int32.ofInt 1 := ⟨_, rfl⟩
              rw [← hz17]
              have fz17_0 : z17.toInt = v2.toInt + (Int32.ofInt 1).toInt := by rw [hz17]; exact pj_addI (by have := pj_i32 v2; have := pj_i32 (Int32.ofInt 1); omega) (by have := pj_i32 v2; have := pj_i32 (Int32.ofInt 1); omega)
              refine pj_X_of (fun r h => pj_R_to (G16, 81, [(4, .int (v4 + Int32.ofInt 1)), (2, .int z17), (0, .ref 1), (1, .int c), (3, .int v3)], [], 0, 0) 81 2 (fun _ => rfl) h) ?_
              obtain ⟨z18, hz18⟩ : ∃ z : Int32, z = v4 + Int32.ofInt 1 := ⟨_, rfl⟩
              rw [← hz18]
              have fz18_0 : z18.toInt = v4.toInt + (Int32.ofInt 1).toInt := by rw [hz18]; exact pj_addI (by have := pj_i32 v4; have := pj_i32 (Int32.ofInt 1); omega) (by have := pj_i32 v4; have := pj_i32 (Int32.ofInt 1); omega)
              refine pj_X_of (fun r h => pj_R_to (G16, 32, [(4, .int z18), (2, .int z17), (0, .ref 1), (1, .int c), (3, .int v3)], [], 0, 0) 32 2 (fun _ => rfl) h) ?_
              exact pj_X_sub [(0, .ref 1), (1, .int c), (2, .int z17), (3, .int v3), (4, .int z18)] (show List.Nodup [0, 1, 2, 3, 4] by decide) ⟨rfl, rfl, rfl, rfl, rfl, trivial⟩ (ih.2 G16 iG16 kG16 z17 v3 z18 (pj_i32 _) ⟨by omega, by omega⟩ ⟨by omega, by omega⟩ (by omega))
theorem ct_154 (G0 : pj_G) (hI : pj_Inv G0) (c : Int32) : pj_Y 3 154 [.ref 1, .int c] G0 (fun v G' => ∃ y : Int32, v = some (.int y) ∧ pj_Inv G' ∧ pj_kpt kc_154 G0 G' ∧ ((-2147483648 : Int) ≤ y.toInt ∧ y.toInt ≤ 2147483647)) := by
  have c0_ : ((Int8.ofInt 9).toInt32).toInt = 9 := by decide
  have c1_ : (Int32.ofInt (-1)).toInt = -1 := by decide
  have c2_ : (Int32.ofInt 0).toInt = 0 := by decide
  have c3_ : (Int32.ofInt 1).toInt = 1 := by decide
  refine pj_Y_X (M := pj_m154) rfl rfl (Nat.le_of_ble_eq_true rfl) ?_
  have hK : pj_kpt kc_154 G0 G0 := pj_kpt_r _ _
  show pj_X _ _ G0 0 [(0, .ref 1), (1, .int c)] [] _
  refine pj_X_of (fun r h => pj_R_to (G0, 1, [(0, .ref 1), (1, .int c)], [.int c], 0, 0) 1 2 (fun _ => rfl) h) ?_
  cases b19 : pj_c1 .lt c 0 with
  | true =>
    have ub19 := pj_u0_ltT b19
    refine pj_X_of (fun r h => pj_R_ifT 10 rfl rfl b19 h) ?_
    refine pj_X_of (fun r h => pj_R_to (G0, 11, [(0, .ref 1), (1, .int c)], [.int (Int32.ofInt (-1))], 0, 0) 11 2 (fun _ => rfl) h) ?_
    exact pj_X_rt rfl rfl ⟨_, rfl, hI, hK, pj_i32 _⟩
  | false =>
    have ub19 := pj_u0_ltF b19
    refine pj_X_of (fun r h => pj_R_ifF rfl b19 h) ?_
    refine pj_X_of (fun r h => pj_R_to (G0, 7, [(0, .ref 1), (1, .int c)], [.int ((Int8.ofInt 9).toInt32), .int c], 0, 0) 7 3 (fun _ => rfl) h) ?_
    cases b20 : pj_c1 .le c ((Int8.ofInt 9).toInt32) with
    | true =>
      have ub20 := pj_u_leT b20
      refine pj_X_of (fun r h => pj_R_icT 12 rfl rfl b20 h) ?_
      refine pj_X_of (fun r h => pj_R_to (G0, 13, [(0, .ref 1), (1, .int c)], [.ref 1], 0, 0) 13 2 (fun _ => rfl) h) ?_
      refine pj_X_of (fun r h => pj_T_gr hI rfl rfl rfl h) ?_
      refine pj_X_ca (vs := [.ref 4]) rfl (fun _ => rfl) ⟨Nat.le_of_ble_eq_true rfl, Nat.le_of_ble_eq_true rfl, pj_T_rcv hI rfl⟩ ⟨rfl, rfl⟩ (pj_Y_up (by decide) (ct_53x G0 hI)) ?_
      rintro _ G22 ⟨rfl, iG22, jG22, fy21⟩
      have kG22 : pj_kpt kc_154 G0 G22 := pj_kpt_t hK (pj_kpt_s jG22 rfl)
      show pj_X _ _ G22 19 [(0, .ref 1), (1, .int c)] [] _
      refine pj_X_of (fun r h => pj_R_to (G22, 23, [(3, .int (Int32.ofInt 1)), (2, .int (Int32.ofInt 0)), (0, .ref 1), (1, .int c)], [], 0, 0) 23 5 (fun _ => rfl) h) ?_
      exact pj_X_sub [(0, .ref 1), (1, .int c), (2, .int (Int32.ofInt 0)), (3, .int (Int32.ofInt 1))] (show List.Nodup [0, 1, 2, 3] by decide) ⟨rfl, rfl, rfl, rfl, trivial⟩ ((lp_ct_154 G0 hI c  301).1 G22 iG22 kG22 (Int32.ofInt 0) (Int32.ofInt 1) (pj_i32 _) ⟨by omega, by omega⟩ (by omega))
    | false =>
      have ub20 := pj_u_leF b20
      refine pj_X_of (fun r h => pj_R_icF rfl b20 h) ?_
      refine pj_X_of (fun r h => pj_R_to (G0, 11, [(0, .ref 1), (1, .int c)], [.int (Int32.ofInt (-1))], 0, 0) 11 2 (fun _ => rfl) h) ?_
      exact pj_X_rt rfl rfl ⟨_, rfl, hI, hK, pj_i32 _⟩
