def kc_77t : pj_KT := ([(2, 1)], [2, 3], [3])
theorem lp_ct_77t (G0 : pj_G) (hI0 : pj_Inv G0) (w : Int32) : ∀ mn : Nat, (∀ (G : pj_G) (hI : pj_Inv G) (hK : pj_kpt kc_77t G0 G) (v2 : Int32), ((-8 : Int) ≤ v2.toInt ∧ v2.toInt ≤ 24) → (v2.toInt % 8 = 0) → (8 * (pj_fi G 2 1).toInt + v2.toInt = 8 * (pj_fi G0 2 1).toInt + 24) → ((pj_fi G0 2 1).toInt ≤ 76 ∧ 0 ≤ (pj_fi G0 2 1).toInt) → v2.toInt + 8 < (mn : Int) → pj_X 0 pj_m77 G 14 [(0, .ref 2), (1, .int w), (2, .int v2)] [] (fun v G' => ∃ y : Int32, v = some (.int y) ∧ pj_Inv G' ∧ pj_kpt kc_77t G0 G' ∧ ((-1 : Int) ≤ y.toInt ∧ y.toInt ≤ 80) ∧ (((pj_fi G0 2 1).toInt ≤ 76 → y.toInt = (pj_fi G0 2 1).toInt + 4 ∧ (pj_fi G' 2 1).toInt = (pj_fi G0 2 1).toInt + 4) ∧ (76 < (pj_fi G0 2 1).toInt → y.toInt = -1 ∧ (pj_fi G' 2 1).toInt = (pj_fi G0 2 1).toInt)))) := by
  have c0_ : ((Int16.ofInt 255).toInt32).toInt = 255 := by decide
  have c1_ : ((Int8.ofInt 24).toInt32).toInt = 24 := by decide
  have c2_ : ((Int8.ofInt 76).toInt32).toInt = 76 := by decide
  have c3_ : (Int32.ofInt (-1)).toInt = -1 := by decide
  have c4_ : (Int32.ofInt (-8)).toInt = -8 := by decide
  have c5_ : (Int32.ofInt 1).toInt = 1 := by decide
  intro mn
  induction mn with
  | zero =>
    intro G hI hK v2 rv2 x0_ x1_ x2_ hm
    exfalso
    omega
  | succ mn ih =>
    intro G hI hK v2 rv2 x0_ x1_ x2_ hm
    obtain ⟨y1, hy1⟩ : ∃ z : Int32, z = pj_fi G 2 1 := ⟨_, rfl⟩
    have ey1 : (pj_fi G 2 1).toInt = y1.toInt := by rw [hy1]
    have ry1 : (0 : Int) ≤ y1.toInt ∧ y1.toInt ≤ 80 := by rw [hy1]; exact hI.2.1 2 1 (0, 80) rfl
    refine pj_X_of (fun r h => pj_R_to (G, 15, [(0, .ref 2), (1, .int w), (2, .int v2)], [.int v2], 0, 0) 15 2 (fun _ => rfl) h) ?_
    cases b2 : pj_c1 .lt v2 0 with
    | true =>
      have ub2 := pj_u0_ltT b2
      refine pj_X_of (fun r h => pj_R_ifT 50 rfl rfl b2 h) ?_
      refine pj_X_of (fun r h => pj_R_to (G, 51, [(0, .ref 2), (1, .int w), (2, .int v2)], [.ref 2], 0, 0) 51 2 (fun _ => rfl) h) ?_
      refine pj_X_of (fun r h => pj_T_gi hI rfl rfl h) ?_
      show pj_X _ _ G 54 [(0, .ref 2), (1, .int w), (2, .int v2)] [.int (pj_fi G 2 1)] _
      refine pj_X_eqi (show pj_fi G 2 1 = y1 from hy1.symm) ?_
      have q3 : (pj_fi G 2 1).toInt = y1.toInt := by rw [show pj_fi G 2 1 = y1 from hy1.symm]
      exact pj_X_rt rfl rfl ⟨_, rfl, hI, hK, ⟨by omega, by omega⟩, by omega⟩
    | false =>
      have ub2 := pj_u0_ltF b2
      refine pj_X_of (fun r h => pj_R_ifF rfl b2 h) ?_
      refine pj_X_of (fun r h => pj_R_to (G, 19, [(0, .ref 2), (1, .int w), (2, .int v2)], [.ref 2], 0, 0) 19 2 (fun _ => rfl) h) ?_
      refine pj_X_of (fun r h => pj_T_gr hI rfl rfl rfl h) ?_
      refine pj_X_of (fun r h => pj_R_to (G, 23, [(0, .ref 2), (1, .int w), (2, .int v2)], [.ref 2, .ref 3], 0, 0) 23 2 (fun _ => rfl) h) ?_
      refine pj_X_of (fun r h => pj_T_gi hI rfl rfl h) ?_
      show pj_X _ _ G 26 [(0, .ref 2), (1, .int w), (2, .int v2)] [.int (pj_fi G 2 1), .ref 3] _
      refine pj_X_eqi (show pj_fi G 2 1 = y1 from hy1.symm) ?_
      refine pj_X_of (fun r h => pj_R_to (G, 29, [(0, .ref 2), (1, .int w), (2, .int v2)], [.int ((w.toUInt32 >>> (v2.toUInt32 &&& Int32.toUInt32 31)).toInt32), .int y1, .ref 3], 0, 0) 29 4 (fun _ => rfl) h) ?_
      obtain ⟨z4, hz4⟩ : ∃ z : Int32, z = (w.toUInt32 >>> (v2.toUInt32 &&& Int32.toUInt32 31)).toInt32 := ⟨_, rfl⟩
      refine pj_X_eqi hz4.symm ?_
      refine pj_X_of (fun r h => pj_R_to (G, 33, [(0, .ref 2), (1, .int w), (2, .int v2)], [.int (z4 &&& ((Int16.ofInt 255).toInt32)), .int y1, .ref 3], 0, 0) 33 3 (fun _ => rfl) h) ?_
      obtain ⟨z5, hz5⟩ : ∃ z : Int32, z = z4 &&& ((Int16.ofInt 255).toInt32) := ⟨_, rfl⟩
      refine pj_X_eqi hz5.symm ?_
      have fz5_0 : 0 ≤ z5.toInt ∧ z5.toInt ≤ ((Int16.ofInt 255).toInt32).toInt := by rw [hz5]; exact pj_andI (by omega)
      refine pj_X_of (fun r h => pj_T_is hI rfl rfl (by omega) (by omega) h) ?_
      show pj_X _ _ (pj_wa G 3 y1.toInt.toNat z5) 34 [(0, .ref 2), (1, .int w), (2, .int v2)] [] _
      obtain ⟨G6, hG6⟩ : ∃ H, H = pj_wa G 3 y1.toInt.toNat z5 := ⟨_, rfl⟩
      have iG6 : pj_Inv G6 := by rw [hG6]; exact pj_Inv_wa hI rfl (fun q hq => by cases hq; exact ⟨by show (0 : Int) ≤ _; omega, by show _ ≤ (255 : Int); omega, by show _ ≤ (0 : Int) ∨ (0 : Int) ≤ _; omega⟩) (fun n hn => by cases hn)
      have kG6 : pj_kpt kc_77t G0 G6 := by rw [hG6]; exact pj_kpt_a hK rfl
      rw [← hG6]
      refine pj_X_of (fun r h => pj_R_to (G6, 36, [(0, .ref 2), (1, .int w), (2, .int v2)], [.ref 2, .ref 2], 0, 0) 36 3 (fun _ => rfl) h) ?_
      refine pj_X_of (fun r h => pj_T_gi iG6 rfl rfl h) ?_
      show pj_X _ _ G6 39 [(0, .ref 2), (1, .int w), (2, .int v2)] [.int (pj_fi G6 2 1), .ref 2] _
      refine pj_X_eqi (show pj_fi G6 2 1 = y1 from by rw [hG6, pj_fi_wa]; exact hy1.symm) ?_
      refine pj_X_of (fun r h => pj_R_to (G6, 41, [(0, .ref 2), (1, .int w), (2, .int v2)], [.int (y1 + (Int32.ofInt 1)), .ref 2], 0, 0) 41 3 (fun _ => rfl) h) ?_
      obtain ⟨z7, hz7⟩ : ∃ z : Int32, z = y1 + (Int32.ofInt 1) := ⟨_, rfl⟩
      refine pj_X_eqi hz7.symm ?_
      have fz7_0 : z7.toInt = y1.toInt + (Int32.ofInt 1).toInt := by rw [hz7]; exact pj_addI (by have := pj_i32 y1; have := pj_i32 (Int32.ofInt 1); omega) (by have := pj_i32 y1; have := pj_i32 (Int32.ofInt 1); omega)
      refine pj_X_of (fun r h => pj_T_pf iG6 rfl rfl rfl h) ?_
      show pj_X _ _ (pj_wv G6 2 1 (.int z7)) 44 [(0, .ref 2), (1, .int w), (2, .int v2)] [] _
      obtain ⟨G8, hG8⟩ : ∃ H, H = pj_wv G6 2 1 (.int z7) := ⟨_, rfl⟩
      have iG8 : pj_Inv G8 := by rw [hG8]; exact pj_Inv_wi iG6 (ci := 9) rfl (fun q hq => by cases hq; exact ⟨by show (0 : Int) ≤ _; omega, by show _ ≤ (80 : Int); omega⟩)
      have kG8 : pj_kpt kc_77t G0 G8 := by rw [hG8]; exact pj_kpt_v kG6 rfl
      rw [← hG8]
      refine pj_X_of (fun r h => pj_R_to (G8, 47, [(2, .int (v2 + Int32.ofInt (-8))), (0, .ref 2), (1, .int w)], [], 0, 0) 47 2 (fun _ => rfl) h) ?_
      obtain ⟨z9, hz9⟩ : ∃ z : Int32, z = v2 + Int32.ofInt (-8) := ⟨_, rfl⟩
      rw [← hz9]
      have fz9_0 : z9.toInt = v2.toInt + (Int32.ofInt (-8)).toInt := by rw [hz9]; exact pj_addI (by have := pj_i32 v2; have := pj_i32 (Int32.ofInt (-8)); omega) (by have := pj_i32 v2; have := pj_i32 (Int32.ofInt (-8)); omega)
      refine pj_X_of (fun r h => pj_R_to (G8, 14, [(2, .int z9), (0, .ref 2), (1, .int w)], [], 0, 0) 14 2 (fun _ => rfl) h) ?_
      have q10 : (pj_fi G8 2 1).toInt = z7.toInt := by rw [show pj_fi G8 2 1 = z7 from by rw [hG8]; exact pj_fi_wi iG6.1 (ci := 9) rfl _]
      exact pj_X_sub [(0, .ref 2), (1, .int w), (2, .int z9)] (show List.Nodup [0, 1, 2] by decide) ⟨rfl, rfl, rfl, trivial⟩ (ih G8 iG8 kG8 z9 ⟨by omega, by omega⟩ (by omega) (by omega) (by omega) (by omega))
theorem ct_77t (G0 : pj_G) (hI : pj_Inv G0) (w : Int32) : pj_Y 1 77 [.ref 2, .int w] G0 (fun v G' => ∃ y : Int32, v = some (.int y) ∧ pj_Inv G' ∧ pj_kpt kc_77t G0 G' ∧ ((-1 : Int) ≤ y.toInt ∧ y.toInt ≤ 80) ∧ (((pj_fi G0 2 1).toInt ≤ 76 → y.toInt = (pj_fi G0 2 1).toInt + 4 ∧ (pj_fi G' 2 1).toInt = (pj_fi G0 2 1).toInt + 4) ∧ (76 < (pj_fi G0 2 1).toInt → y.toInt = -1 ∧ (pj_fi G' 2 1).toInt = (pj_fi G0 2 1).toInt))) := by
  have c0_ : ((Int16.ofInt 255).toInt32).toInt = 255 := by decide
  have c1_ : ((Int8.ofInt 24).toInt32).toInt = 24 := by decide
  have c2_ : ((Int8.ofInt 76).toInt32).toInt = 76 := by decide
  have c3_ : (Int32.ofInt (-1)).toInt = -1 := by decide
  have c4_ : (Int32.ofInt (-8)).toInt = -8 := by decide
  have c5_ : (Int32.ofInt 1).toInt = 1 := by decide
  refine pj_Y_X (M := pj_m77) rfl rfl (Nat.le_of_ble_eq_true rfl) ?_
  have hK : pj_kpt kc_77t G0 G0 := pj_kpt_r _ _
  show pj_X _ _ G0 0 [(0, .ref 2), (1, .int w)] [] _
  obtain ⟨y11, hy11⟩ : ∃ z : Int32, z = pj_fi G0 2 1 := ⟨_, rfl⟩
  have ey11 : (pj_fi G0 2 1).toInt = y11.toInt := by rw [hy11]
  have ry11 : (0 : Int) ≤ y11.toInt ∧ y11.toInt ≤ 80 := by rw [hy11]; exact hI.2.1 2 1 (0, 80) rfl
  refine pj_X_of (fun r h => pj_R_to (G0, 1, [(0, .ref 2), (1, .int w)], [.ref 2], 0, 0) 1 2 (fun _ => rfl) h) ?_
  refine pj_X_of (fun r h => pj_T_gi hI rfl rfl h) ?_
  show pj_X _ _ G0 4 [(0, .ref 2), (1, .int w)] [.int (pj_fi G0 2 1)] _
  refine pj_X_eqi (show pj_fi G0 2 1 = y11 from hy11.symm) ?_
  refine pj_X_of (fun r h => pj_R_to (G0, 6, [(0, .ref 2), (1, .int w)], [.int ((Int8.ofInt 76).toInt32), .int y11], 0, 0) 6 2 (fun _ => rfl) h) ?_
  cases b12 : pj_c1 .le y11 ((Int8.ofInt 76).toInt32) with
  | true =>
    have ub12 := pj_u_leT b12
    refine pj_X_of (fun r h => pj_R_icT 11 rfl rfl b12 h) ?_
    refine pj_X_of (fun r h => pj_R_to (G0, 14, [(2, .int ((Int8.ofInt 24).toInt32)), (0, .ref 2), (1, .int w)], [], 0, 0) 14 3 (fun _ => rfl) h) ?_
    have q13 : (pj_fi G0 2 1).toInt = y11.toInt := by rw [show pj_fi G0 2 1 = y11 from hy11.symm]
    exact pj_X_sub [(0, .ref 2), (1, .int w), (2, .int ((Int8.ofInt 24).toInt32))] (show List.Nodup [0, 1, 2] by decide) ⟨rfl, rfl, rfl, trivial⟩ ((lp_ct_77t G0 hI w  41) G0 hI hK ((Int8.ofInt 24).toInt32) ⟨by omega, by omega⟩ (by omega) (by omega) (by omega) (by omega))
  | false =>
    have ub12 := pj_u_leF b12
    refine pj_X_of (fun r h => pj_R_icF rfl b12 h) ?_
    refine pj_X_of (fun r h => pj_R_to (G0, 10, [(0, .ref 2), (1, .int w)], [.int (Int32.ofInt (-1))], 0, 0) 10 2 (fun _ => rfl) h) ?_
    have q14 : (pj_fi G0 2 1).toInt = y11.toInt := by rw [show pj_fi G0 2 1 = y11 from hy11.symm]
    exact pj_X_rt rfl rfl ⟨_, rfl, hI, hK, ⟨by omega, by omega⟩, by omega⟩
def kc_117t : pj_KT := ([(2, 1)], [2, 3], [3])
theorem ct_117t (G0 : pj_G) (hI : pj_Inv G0) (w : Int32) : pj_Y 2 117 [.ref 1, .int w] G0 (fun v G' => ∃ y : Int32, v = some (.int y) ∧ pj_Inv G' ∧ pj_kpt kc_117t G0 G' ∧ ((-2147483648 : Int) ≤ y.toInt ∧ y.toInt ≤ 2147483647) ∧ (((pj_fi G0 2 1).toInt ≤ 76 → y.toInt = (pj_fi G0 2 1).toInt + 4 ∧ (pj_fi G' 2 1).toInt = (pj_fi G0 2 1).toInt + 4) ∧ (76 < (pj_fi G0 2 1).toInt → y.toInt = -1 ∧ (pj_fi G' 2 1).toInt = (pj_fi G0 2 1).toInt))) := by
  refine pj_Y_X (M := pj_m117) rfl rfl (Nat.le_of_ble_eq_true rfl) ?_
  have hK : pj_kpt kc_117t G0 G0 := pj_kpt_r _ _
  show pj_X _ _ G0 0 [(0, .ref 1), (1, .int w)] [] _
  obtain ⟨y1, hy1⟩ : ∃ z : Int32, z = pj_fi G0 2 1 := ⟨_, rfl⟩
  have ey1 : (pj_fi G0 2 1).toInt = y1.toInt := by rw [hy1]
  have ry1 : (0 : Int) ≤ y1.toInt ∧ y1.toInt ≤ 80 := by rw [hy1]; exact hI.2.1 2 1 (0, 80) rfl
  refine pj_X_of (fun r h => pj_R_to (G0, 1, [(0, .ref 1), (1, .int w)], [.ref 1], 0, 0) 1 2 (fun _ => rfl) h) ?_
  refine pj_X_of (fun r h => pj_T_gr hI rfl rfl rfl h) ?_
  refine pj_X_of (fun r h => pj_R_to (G0, 5, [(0, .ref 1), (1, .int w)], [.int w, .ref 2], 0, 0) 5 2 (fun _ => rfl) h) ?_
  have q2 : (pj_fi G0 2 1).toInt = y1.toInt := by rw [show pj_fi G0 2 1 = y1 from hy1.symm]
  refine pj_X_ca (vs := [.ref 2, .int w]) rfl (fun _ => rfl) ⟨Nat.le_of_ble_eq_true rfl, Nat.le_of_ble_eq_true rfl, pj_T_rcv hI rfl⟩ ⟨rfl, rfl⟩ (pj_Y_up (by decide) (ct_77t G0 hI w)) ?_
  rintro _ G4 ⟨y3, rfl, iG4, jG4, ry3, ey3⟩
  have kG4 : pj_kpt kc_117t G0 G4 := pj_kpt_t hK (pj_kpt_s jG4 rfl)
  obtain ⟨y5, hy5⟩ : ∃ z : Int32, z = pj_fi G4 2 1 := ⟨_, rfl⟩
  have ey5 : (pj_fi G4 2 1).toInt = y5.toInt := by rw [hy5]
  have ry5 : (0 : Int) ≤ y5.toInt ∧ y5.toInt ≤ 80 := by rw [hy5]; exact iG4.2.1 2 1 (0, 80) rfl
  show pj_X _ _ G4 8 [(0, .ref 1), (1, .int w)] [.int y3] _
  have q6 : (pj_fi G4 2 1).toInt = y5.toInt := by rw [show pj_fi G4 2 1 = y5 from hy5.symm]
  exact pj_X_rt rfl rfl ⟨_, rfl, iG4, kG4, pj_i32 _, by omega⟩
def kc_78t : pj_KT := ([(2, 1)], [2], [])
theorem ct_78t (G0 : pj_G) (hI : pj_Inv G0) (n : Int32) : pj_Y 1 78 [.ref 2, .int n] G0 (fun v G' => ∃ y : Int32, v = some (.int y) ∧ pj_Inv G' ∧ pj_kpt kc_78t G0 G' ∧ ((0 : Int) ≤ y.toInt ∧ y.toInt ≤ 1) ∧ ((0 ≤ n.toInt ∧ n.toInt ≤ (pj_fi G0 2 1).toInt → y.toInt = 1 ∧ (pj_fi G' 2 1).toInt = n.toInt) ∧ (¬ (0 ≤ n.toInt ∧ n.toInt ≤ (pj_fi G0 2 1).toInt) → y.toInt = 0 ∧ (pj_fi G' 2 1).toInt = (pj_fi G0 2 1).toInt))) := by
  have c0_ : (Int32.ofInt 0).toInt = 0 := by decide
  have c1_ : (Int32.ofInt 1).toInt = 1 := by decide
  refine pj_Y_X (M := pj_m78) rfl rfl (Nat.le_of_ble_eq_true rfl) ?_
  have hK : pj_kpt kc_78t G0 G0 := pj_kpt_r _ _
  show pj_X _ _ G0 0 [(0, .ref 2), (1, .int n)] [] _
  obtain ⟨y1, hy1⟩ : ∃ z : Int32, z = pj_fi G0 2 1 := ⟨_, rfl⟩
  have ey1 : (pj_fi G0 2 1).toInt = y1.toInt := by rw [hy1]
  have ry1 : (0 : Int) ≤ y1.toInt ∧ y1.toInt ≤ 80 := by rw [hy1]; exact hI.2.1 2 1 (0, 80) rfl
  refine pj_X_of (fun r h => pj_R_to (G0, 1, [(0, .ref 2), (1, .int n)], [.int n], 0, 0) 1 2 (fun _ => rfl) h) ?_
  cases b2 : pj_c1 .lt n 0 with
  | true =>
    have ub2 := pj_u0_ltT b2
    refine pj_X_of (fun r h => pj_R_ifT 12 rfl rfl b2 h) ?_
    refine pj_X_of (fun r h => pj_R_to (G0, 13, [(0, .ref 2), (1, .int n)], [.int (Int32.ofInt 0)], 0, 0) 13 2 (fun _ => rfl) h) ?_
    have q3 : (pj_fi G0 2 1).toInt = y1.toInt := by rw [show pj_fi G0 2 1 = y1 from hy1.symm]
    exact pj_X_rt rfl rfl ⟨_, rfl, hI, hK, ⟨by omega, by omega⟩, by omega⟩
  | false =>
    have ub2 := pj_u0_ltF b2
    refine pj_X_of (fun r h => pj_R_ifF rfl b2 h) ?_
    refine pj_X_of (fun r h => pj_R_to (G0, 6, [(0, .ref 2), (1, .int n)], [.ref 2, .int n], 0, 0) 6 3 (fun _ => rfl) h) ?_
    refine pj_X_of (fun r h => pj_T_gi hI rfl rfl h) ?_
    show pj_X _ _ G0 9 [(0, .ref 2), (1, .int n)] [.int (pj_fi G0 2 1), .int n] _
    refine pj_X_eqi (show pj_fi G0 2 1 = y1 from hy1.symm) ?_
    cases b4 : pj_c1 .le n y1 with
    | true =>
      have ub4 := pj_u_leT b4
      refine pj_X_of (fun r h => pj_R_icT 14 rfl rfl b4 h) ?_
      refine pj_X_of (fun r h => pj_R_to (G0, 16, [(0, .ref 2), (1, .int n)], [.int n, .ref 2], 0, 0) 16 3 (fun _ => rfl) h) ?_
      refine pj_X_of (fun r h => pj_T_pf hI rfl rfl rfl h) ?_
      show pj_X _ _ (pj_wv G0 2 1 (.int n)) 19 [(0, .ref 2), (1, .int n)] [] _
      obtain ⟨G5, hG5⟩ : ∃ H, H = pj_wv G0 2 1 (.int n) := ⟨_, rfl⟩
      have iG5 : pj_Inv G5 := by rw [hG5]; exact pj_Inv_wi hI (ci := 9) rfl (fun q hq => by cases hq; exact ⟨by show (0 : Int) ≤ _; omega, by show _ ≤ (80 : Int); omega⟩)
      have kG5 : pj_kpt kc_78t G0 G5 := by rw [hG5]; exact pj_kpt_v hK rfl
      rw [← hG5]
      refine pj_X_of (fun r h => pj_R_to (G5, 20, [(0, .ref 2), (1, .int n)], [.int (Int32.ofInt 1)], 0, 0) 20 2 (fun _ => rfl) h) ?_
      have q6 : (pj_fi G5 2 1).toInt = n.toInt := by rw [show pj_fi G5 2 1 = n from by rw [hG5]; exact pj_fi_wi hI.1 (ci := 9) rfl _]
      exact pj_X_rt rfl rfl ⟨_, rfl, iG5, kG5, ⟨by omega, by omega⟩, by omega⟩
    | false =>
      have ub4 := pj_u_leF b4
      refine pj_X_of (fun r h => pj_R_icF rfl b4 h) ?_
      refine pj_X_of (fun r h => pj_R_to (G0, 13, [(0, .ref 2), (1, .int n)], [.int (Int32.ofInt 0)], 0, 0) 13 2 (fun _ => rfl) h) ?_
      have q7 : (pj_fi G0 2 1).toInt = y1.toInt := by rw [show pj_fi G0 2 1 = y1 from hy1.symm]
      exact pj_X_rt rfl rfl ⟨_, rfl, hI, hK, ⟨by omega, by omega⟩, by omega⟩
def kc_118t : pj_KT := ([(2, 1)], [2], [])
theorem ct_118t (G0 : pj_G) (hI : pj_Inv G0) (n : Int32) : pj_Y 2 118 [.ref 1, .int n] G0 (fun v G' => ∃ y : Int32, v = some (.int y) ∧ pj_Inv G' ∧ pj_kpt kc_118t G0 G' ∧ ((0 : Int) ≤ y.toInt ∧ y.toInt ≤ 1) ∧ ((0 ≤ n.toInt ∧ n.toInt ≤ (pj_fi G0 2 1).toInt → y.toInt = 1 ∧ (pj_fi G' 2 1).toInt = n.toInt) ∧ (¬ (0 ≤ n.toInt ∧ n.toInt ≤ (pj_fi G0 2 1).toInt) → y.toInt = 0 ∧ (pj_fi G' 2 1).toInt = (pj_fi G0 2 1).toInt))) := by
  refine pj_Y_X (M := pj_m118) rfl rfl (Nat.le_of_ble_eq_true rfl) ?_
  have hK : pj_kpt kc_118t G0 G0 := pj_kpt_r _ _
  show pj_X _ _ G0 0 [(0, .ref 1), (1, .int n)] [] _
  obtain ⟨y1, hy1⟩ : ∃ z : Int32, z = pj_fi G0 2 1 := ⟨_, rfl⟩
  have ey1 : (pj_fi G0 2 1).toInt = y1.toInt := by rw [hy1]
  have ry1 : (0 : Int) ≤ y1.toInt ∧ y1.toInt ≤ 80 := by rw [hy1]; exact hI.2.1 2 1 (0, 80) rfl
  refine pj_X_of (fun r h => pj_R_to (G0, 1, [(0, .ref 1), (1, .int n)], [.ref 1], 0, 0) 1 2 (fun _ => rfl) h) ?_
  refine pj_X_of (fun r h => pj_T_gr hI rfl rfl rfl h) ?_
  refine pj_X_of (fun r h => pj_R_to (G0, 5, [(0, .ref 1), (1, .int n)], [.int n, .ref 2], 0, 0) 5 2 (fun _ => rfl) h) ?_
  have q2 : (pj_fi G0 2 1).toInt = y1.toInt := by rw [show pj_fi G0 2 1 = y1 from hy1.symm]
  refine pj_X_ca (vs := [.ref 2, .int n]) rfl (fun _ => rfl) ⟨Nat.le_of_ble_eq_true rfl, Nat.le_of_ble_eq_true rfl, pj_T_rcv hI rfl⟩ ⟨rfl, rfl⟩ (pj_Y_up (by decide) (ct_78t G0 hI n)) ?_
  rintro _ G4 ⟨y3, rfl, iG4, jG4, ry3, ey3⟩
  have kG4 : pj_kpt kc_118t G0 G4 := pj_kpt_t hK (pj_kpt_s jG4 rfl)
  obtain ⟨y5, hy5⟩ : ∃ z : Int32, z = pj_fi G4 2 1 := ⟨_, rfl⟩
  have ey5 : (pj_fi G4 2 1).toInt = y5.toInt := by rw [hy5]
  have ry5 : (0 : Int) ≤ y5.toInt ∧ y5.toInt ≤ 80 := by rw [hy5]; exact iG4.2.1 2 1 (0, 80) rfl
  show pj_X _ _ G4 8 [(0, .ref 1), (1, .int n)] [.int y3] _
  have q6 : (pj_fi G4 2 1).toInt = y5.toInt := by rw [show pj_fi G4 2 1 = y5 from hy5.symm]
  exact pj_X_rt (v := some (.int y3)) rfl (pj_rtb ⟨by omega, by omega⟩) ⟨_, rfl, iG4, kG4, ⟨by omega, by omega⟩, by omega⟩
def kc_179t : pj_KT := ([(171, 0), (171, 16)], [171, 180], [180])
theorem lp_ct_179t (G0 : pj_G) (hI0 : pj_Inv G0) (va : Int32) : ∀ mn : Nat, (∀ (G : pj_G) (hI : pj_Inv G) (hK : pj_kpt kc_179t G0 G) (v2 : Int32), ((0 : Int) ≤ v2.toInt ∧ v2.toInt ≤ 4) → ((pj_fi G 171 16).toInt ≤ 76) → ((pj_fi G 171 16).toInt = (pj_fi G0 171 16).toInt) → 4 - v2.toInt < (mn : Int) → pj_X 0 pj_m179 G 18 [(0, .ref 171), (1, .int va), (2, .int v2)] [] (fun v G' => ∃ y : Int32, v = some (.int y) ∧ pj_Inv G' ∧ pj_kpt kc_179t G0 G' ∧ ((-1 : Int) ≤ y.toInt ∧ y.toInt ≤ 80) ∧ (((pj_fi G0 171 16).toInt ≤ 76 → y.toInt = (pj_fi G0 171 16).toInt + 4 ∧ (pj_fi G' 171 16).toInt = (pj_fi G0 171 16).toInt + 4) ∧ (76 < (pj_fi G0 171 16).toInt → y.toInt = -1 ∧ (pj_fi G' 171 16).toInt = (pj_fi G0 171 16).toInt)))) := by
  have c0_ : ((Int16.ofInt 255).toInt32).toInt = 255 := by decide
  have c1_ : ((Int8.ofInt 24).toInt32).toInt = 24 := by decide
  have c2_ : ((Int8.ofInt 76).toInt32).toInt = 76 := by decide
  have c3_ : ((Int8.ofInt 8).toInt32).toInt = 8 := by decide
  have c4_ : (Int32.ofInt (-1)).toInt = -1 := by decide
  have c5_ : (Int32.ofInt 0).toInt = 0 := by decide
  have c6_ : (Int32.ofInt 1).toInt = 1 := by decide
  have c7_ : (Int32.ofInt 4).toInt = 4 := by decide
  intro mn
  induction mn with
  | zero =>
    intro G hI hK v2 rv2 x0_ x1_ hm
    exfalso
    omega
  | succ mn ih =>
    intro G hI hK v2 rv2 x0_ x1_ hm
    obtain ⟨y1, hy1⟩ : ∃ z : Int32, z = pj_fi G 171 16 := ⟨_, rfl⟩
    have ey1 : (pj_fi G 171 16).toInt = y1.toInt := by rw [hy1]
    have ry1 : (0 : Int) ≤ y1.toInt ∧ y1.toInt ≤ 80 := by rw [hy1]; exact hI.2.1 171 16 (0, 80) rfl
    refine pj_X_of (fun r h => pj_R_to (G, 20, [(0, .ref 171), (1, .int va), (2, .int v2)], [.int (Int32.ofInt 4), .int v2], 0, 0) 20 3 (fun _ => rfl) h) ?_
    cases b2 : pj_c1 .ge v2 (Int32.ofInt 4) with
    | true =>
      have ub2 := pj_u_geT b2
      refine pj_X_of (fun r h => pj_R_icT 53 rfl rfl b2 h) ?_
      refine pj_X_of (fun r h => pj_R_to (G, 55, [(0, .ref 171), (1, .int va), (2, .int v2)], [.ref 171, .ref 171], 0, 0) 55 3 (fun _ => rfl) h) ?_
      refine pj_X_of (fun r h => pj_T_gi hI rfl rfl h) ?_
      show pj_X _ _ G 58 [(0, .ref 171), (1, .int va), (2, .int v2)] [.int (pj_fi G 171 16), .ref 171] _
      refine pj_X_eqi (show pj_fi G 171 16 = y1 from hy1.symm) ?_
      refine pj_X_of (fun r h => pj_R_to (G, 60, [(0, .ref 171), (1, .int va), (2, .int v2)], [.int (y1 + (Int32.ofInt 4)), .ref 171], 0, 0) 60 3 (fun _ => rfl) h) ?_
      obtain ⟨z3, hz3⟩ : ∃ z : Int32, z = y1 + (Int32.ofInt 4) := ⟨_, rfl⟩
      refine pj_X_eqi hz3.symm ?_
      have fz3_0 : z3.toInt = y1.toInt + (Int32.ofInt 4).toInt := by rw [hz3]; exact pj_addI (by have := pj_i32 y1; have := pj_i32 (Int32.ofInt 4); omega) (by have := pj_i32 y1; have := pj_i32 (Int32.ofInt 4); omega)
      refine pj_X_of (fun r h => pj_T_pf hI rfl rfl rfl h) ?_
      show pj_X _ _ (pj_wv G 171 16 (.int z3)) 63 [(0, .ref 171), (1, .int va), (2, .int v2)] [] _
      obtain ⟨G4, hG4⟩ : ∃ H, H = pj_wv G 171 16 (.int z3) := ⟨_, rfl⟩
      have iG4 : pj_Inv G4 := by rw [hG4]; exact pj_Inv_wi hI (ci := 12) rfl (fun q hq => by cases hq; exact ⟨by show (0 : Int) ≤ _; omega, by show _ ≤ (80 : Int); omega⟩)
      have kG4 : pj_kpt kc_179t G0 G4 := by rw [hG4]; exact pj_kpt_v hK rfl
      rw [← hG4]
      refine pj_X_of (fun r h => pj_R_to (G4, 64, [(0, .ref 171), (1, .int va), (2, .int v2)], [.ref 171], 0, 0) 64 2 (fun _ => rfl) h) ?_
      refine pj_X_of (fun r h => pj_T_gi iG4 rfl rfl h) ?_
      show pj_X _ _ G4 67 [(0, .ref 171), (1, .int va), (2, .int v2)] [.int (pj_fi G4 171 16)] _
      refine pj_X_eqi (show pj_fi G4 171 16 = z3 from by rw [hG4]; exact pj_fi_wi hI.1 (ci := 12) rfl _) ?_
      have q5 : (pj_fi G4 171 16).toInt = z3.toInt := by rw [show pj_fi G4 171 16 = z3 from by rw [hG4]; exact pj_fi_wi hI.1 (ci := 12) rfl _]
      exact pj_X_rt rfl rfl ⟨_, rfl, iG4, kG4, ⟨by omega, by omega⟩, by omega⟩
    | false =>
      have ub2 := pj_u_geF b2
      refine pj_X_of (fun r h => pj_R_icF rfl b2 h) ?_
      refine pj_X_of (fun r h => pj_R_to (G, 24, [(0, .ref 171), (1, .int va), (2, .int v2)], [.ref 171], 0, 0) 24 2 (fun _ => rfl) h) ?_
      refine pj_X_of (fun r h => pj_T_gr hI rfl rfl rfl h) ?_
      refine pj_X_of (fun r h => pj_R_to (G, 28, [(0, .ref 171), (1, .int va), (2, .int v2)], [.ref 171, .ref 180], 0, 0) 28 2 (fun _ => rfl) h) ?_
      refine pj_X_of (fun r h => pj_T_gi hI rfl rfl h) ?_
      show pj_X _ _ G 31 [(0, .ref 171), (1, .int va), (2, .int v2)] [.int (pj_fi G 171 16), .ref 180] _
      refine pj_X_eqi (show pj_fi G 171 16 = y1 from hy1.symm) ?_
      refine pj_X_of (fun r h => pj_R_to (G, 33, [(0, .ref 171), (1, .int va), (2, .int v2)], [.int (y1 + v2), .ref 180], 0, 0) 33 3 (fun _ => rfl) h) ?_
      obtain ⟨z6, hz6⟩ : ∃ z : Int32, z = y1 + v2 := ⟨_, rfl⟩
      refine pj_X_eqi hz6.symm ?_
      have fz6_0 : z6.toInt = y1.toInt + v2.toInt := by rw [hz6]; exact pj_addI (by have := pj_i32 y1; have := pj_i32 v2; omega) (by have := pj_i32 y1; have := pj_i32 v2; omega)
      refine pj_X_of (fun r h => pj_R_to (G, 40, [(0, .ref 171), (1, .int va), (2, .int v2)], [.int (((Int8.ofInt 8).toInt32) * v2), .int ((Int8.ofInt 24).toInt32), .int va, .int z6, .ref 180], 0, 0) 40 6 (fun _ => rfl) h) ?_
      obtain ⟨z7, hz7⟩ : ∃ z : Int32, z = ((Int8.ofInt 8).toInt32) * v2 := ⟨_, rfl⟩
      refine pj_X_eqi hz7.symm ?_
      have fz7_0 : z7.toInt = 8 * v2.toInt := by rw [hz7]; exact pj_mulL (by decide) (by omega) (by omega)
      refine pj_X_of (fun r h => pj_R_to (G, 41, [(0, .ref 171), (1, .int va), (2, .int v2)], [.int (((Int8.ofInt 24).toInt32) - z7), .int va, .int z6, .ref 180], 0, 0) 41 2 (fun _ => rfl) h) ?_
      obtain ⟨z8, hz8⟩ : ∃ z : Int32, z = ((Int8.ofInt 24).toInt32) - z7 := ⟨_, rfl⟩
      refine pj_X_eqi hz8.symm ?_
      have fz8_0 : z8.toInt = ((Int8.ofInt 24).toInt32).toInt - z7.toInt := by rw [hz8]; exact pj_subI (by have := pj_i32 ((Int8.ofInt 24).toInt32); have := pj_i32 z7; omega) (by have := pj_i32 ((Int8.ofInt 24).toInt32); have := pj_i32 z7; omega)
      refine pj_X_of (fun r h => pj_R_to (G, 42, [(0, .ref 171), (1, .int va), (2, .int v2)], [.int (va >>> (z8 &&& 31)), .int z6, .ref 180], 0, 0) 42 2 (fun _ => rfl) h) ?_
      obtain ⟨z9, hz9⟩ : ∃ z : Int32, z = va >>> (z8 &&& 31) := ⟨_, rfl⟩
      refine pj_X_eqi hz9.symm ?_
      refine pj_X_of (fun r h => pj_R_to (G, 46, [(0, .ref 171), (1, .int va), (2, .int v2)], [.int (z9 &&& ((Int16.ofInt 255).toInt32)), .int z6, .ref 180], 0, 0) 46 3 (fun _ => rfl) h) ?_
      obtain ⟨z10, hz10⟩ : ∃ z : Int32, z = z9 &&& ((Int16.ofInt 255).toInt32) := ⟨_, rfl⟩
      refine pj_X_eqi hz10.symm ?_
      have fz10_0 : 0 ≤ z10.toInt ∧ z10.toInt ≤ ((Int16.ofInt 255).toInt32).toInt := by rw [hz10]; exact pj_andI (by omega)
      refine pj_X_of (fun r h => pj_T_is hI rfl rfl (by omega) (by omega) h) ?_
      show pj_X _ _ (pj_wa G 180 z6.toInt.toNat z10) 47 [(0, .ref 171), (1, .int va), (2, .int v2)] [] _
      obtain ⟨G11, hG11⟩ : ∃ H, H = pj_wa G 180 z6.toInt.toNat z10 := ⟨_, rfl⟩
      have iG11 : pj_Inv G11 := by rw [hG11]; exact pj_Inv_wa hI rfl (fun q hq => by cases hq; exact ⟨by show (0 : Int) ≤ _; omega, by show _ ≤ (255 : Int); omega, by show _ ≤ (0 : Int) ∨ (0 : Int) ≤ _; omega⟩) (fun n hn => by cases hn)
      have kG11 : pj_kpt kc_179t G0 G11 := by rw [hG11]; exact pj_kpt_a hK rfl
      rw [← hG11]
      refine pj_X_of (fun r h => pj_R_to (G11, 50, [(2, .int (v2 + Int32.ofInt 1)), (0, .ref 171), (1, .int va)], [], 0, 0) 50 2 (fun _ => rfl) h) ?_
      obtain ⟨z12, hz12⟩ : ∃ z : Int32, z = v2 + Int32.ofInt 1 := ⟨_, rfl⟩
      rw [← hz12]
      have fz12_0 : z12.toInt = v2.toInt + (Int32.ofInt 1).toInt := by rw [hz12]; exact pj_addI (by have := pj_i32 v2; have := pj_i32 (Int32.ofInt 1); omega) (by have := pj_i32 v2; have := pj_i32 (Int32.ofInt 1); omega)
      refine pj_X_of (fun r h => pj_R_to (G11, 18, [(2, .int z12), (0, .ref 171), (1, .int va)], [], 0, 0) 18 2 (fun _ => rfl) h) ?_
      have q13 : (pj_fi G11 171 16).toInt = y1.toInt := by rw [show pj_fi G11 171 16 = y1 from by rw [hG11, pj_fi_wa]; exact hy1.symm]
      exact pj_X_sub [(0, .ref 171), (1, .int va), (2, .int z12)] (show List.Nodup [0, 1, 2] by decide) ⟨rfl, rfl, rfl, trivial⟩ (ih G11 iG11 kG11 z12 ⟨by omega, by omega⟩ (by omega) (by omega) (by omega))
theorem ct_179t (G0 : pj_G) (hI : pj_Inv G0) (va : Int32) : pj_Y 1 179 [.ref 171, .int va] G0 (fun v G' => ∃ y : Int32, v = some (.int y) ∧ pj_Inv G' ∧ pj_kpt kc_179t G0 G' ∧ ((-1 : Int) ≤ y.toInt ∧ y.toInt ≤ 80) ∧ (((pj_fi G0 171 16).toInt ≤ 76 → y.toInt = (pj_fi G0 171 16).toInt + 4 ∧ (pj_fi G' 171 16).toInt = (pj_fi G0 171 16).toInt + 4) ∧ (76 < (pj_fi G0 171 16).toInt → y.toInt = -1 ∧ (pj_fi G' 171 16).toInt = (pj_fi G0 171 16).toInt))) := by
  have c0_ : ((Int16.ofInt 255).toInt32).toInt = 255 := by decide
  have c1_ : ((Int8.ofInt 24).toInt32).toInt = 24 := by decide
  have c2_ : ((Int8.ofInt 76).toInt32).toInt = 76 := by decide
  have c3_ : ((Int8.ofInt 8).toInt32).toInt = 8 := by decide
  have c4_ : (Int32.ofInt (-1)).toInt = -1 := by decide
  have c5_ : (Int32.ofInt 0).toInt = 0 := by decide
  have c6_ : (Int32.ofInt 1).toInt = 1 := by decide
  have c7_ : (Int32.ofInt 4).toInt = 4 := by decide
  refine pj_Y_X (M := pj_m179) rfl rfl (Nat.le_of_ble_eq_true rfl) ?_
  have hK : pj_kpt kc_179t G0 G0 := pj_kpt_r _ _
  show pj_X _ _ G0 0 [(0, .ref 171), (1, .int va)] [] _
  obtain ⟨y14, hy14⟩ : ∃ z : Int32, z = pj_fi G0 171 16 := ⟨_, rfl⟩
  have ey14 : (pj_fi G0 171 16).toInt = y14.toInt := by rw [hy14]
  have ry14 : (0 : Int) ≤ y14.toInt ∧ y14.toInt ≤ 80 := by rw [hy14]; exact hI.2.1 171 16 (0, 80) rfl
  refine pj_X_of (fun r h => pj_R_to (G0, 2, [(0, .ref 171), (1, .int va)], [.int (Int32.ofInt 0), .ref 171], 0, 0) 2 3 (fun _ => rfl) h) ?_
  refine pj_X_of (fun r h => pj_T_pf hI rfl rfl rfl h) ?_
  show pj_X _ _ (pj_wv G0 171 0 (.int (Int32.ofInt 0))) 5 [(0, .ref 171), (1, .int va)] [] _
  obtain ⟨G15, hG15⟩ : ∃ H, H = pj_wv G0 171 0 (.int (Int32.ofInt 0)) := ⟨_, rfl⟩
  have iG15 : pj_Inv G15 := by rw [hG15]; exact pj_Inv_wi hI (ci := 12) rfl (fun q hq => by cases hq)
  have kG15 : pj_kpt kc_179t G0 G15 := by rw [hG15]; exact pj_kpt_v hK rfl
  rw [← hG15]
  refine pj_X_of (fun r h => pj_R_to (G15, 6, [(0, .ref 171), (1, .int va)], [.ref 171], 0, 0) 6 2 (fun _ => rfl) h) ?_
  refine pj_X_of (fun r h => pj_T_gi iG15 rfl rfl h) ?_
  show pj_X _ _ G15 9 [(0, .ref 171), (1, .int va)] [.int (pj_fi G15 171 16)] _
  refine pj_X_eqi (show pj_fi G15 171 16 = y14 from by rw [hG15, pj_fi_wv_ne _ _ _ _ _ _ (by decide)]; exact hy14.symm) ?_
  refine pj_X_of (fun r h => pj_R_to (G15, 11, [(0, .ref 171), (1, .int va)], [.int ((Int8.ofInt 76).toInt32), .int y14], 0, 0) 11 2 (fun _ => rfl) h) ?_
  cases b16 : pj_c1 .le y14 ((Int8.ofInt 76).toInt32) with
  | true =>
    have ub16 := pj_u_leT b16
    refine pj_X_of (fun r h => pj_R_icT 16 rfl rfl b16 h) ?_
    refine pj_X_of (fun r h => pj_R_to (G15, 18, [(2, .int (Int32.ofInt 0)), (0, .ref 171), (1, .int va)], [], 0, 0) 18 3 (fun _ => rfl) h) ?_
    have q17 : (pj_fi G15 171 16).toInt = y14.toInt := by rw [show pj_fi G15 171 16 = y14 from by rw [hG15, pj_fi_wv_ne _ _ _ _ _ _ (by decide)]; exact hy14.symm]
    exact pj_X_sub [(0, .ref 171), (1, .int va), (2, .int (Int32.ofInt 0))] (show List.Nodup [0, 1, 2] by decide) ⟨rfl, rfl, rfl, trivial⟩ ((lp_ct_179t G0 hI va  5) G15 iG15 kG15 (Int32.ofInt 0) ⟨by omega, by omega⟩ (by omega) (by omega) (by omega))
  | false =>
    have ub16 := pj_u_leF b16
    refine pj_X_of (fun r h => pj_R_icF rfl b16 h) ?_
    refine pj_X_of (fun r h => pj_R_to (G15, 15, [(0, .ref 171), (1, .int va)], [.int (Int32.ofInt (-1))], 0, 0) 15 2 (fun _ => rfl) h) ?_
    have q18 : (pj_fi G15 171 16).toInt = y14.toInt := by rw [show pj_fi G15 171 16 = y14 from by rw [hG15, pj_fi_wv_ne _ _ _ _ _ _ (by decide)]; exact hy14.symm]
    exact pj_X_rt rfl rfl ⟨_, rfl, iG15, kG15, ⟨by omega, by omega⟩, by omega⟩
def kc_180t : pj_KT := ([(171, 0), (171, 16)], [171], [])
theorem ct_180t (G0 : pj_G) (hI : pj_Inv G0) (n : Int32) : pj_Y 2 180 [.ref 171, .int n] G0 (fun v G' => ∃ y : Int32, v = some (.int y) ∧ pj_Inv G' ∧ pj_kpt kc_180t G0 G' ∧ ((0 : Int) ≤ y.toInt ∧ y.toInt ≤ 1) ∧ ((0 ≤ n.toInt ∧ n.toInt ≤ (pj_fi G0 171 16).toInt → y.toInt = 1 ∧ (pj_fi G' 171 16).toInt = n.toInt) ∧ (¬ (0 ≤ n.toInt ∧ n.toInt ≤ (pj_fi G0 171 16).toInt) → y.toInt = 0 ∧ (pj_fi G' 171 16).toInt = (pj_fi G0 171 16).toInt))) := by
  have c0_ : (Int32.ofInt 0).toInt = 0 := by decide
  have c1_ : (Int32.ofInt 1).toInt = 1 := by decide
  refine pj_Y_X (M := pj_m180) rfl rfl (Nat.le_of_ble_eq_true rfl) ?_
  have hK : pj_kpt kc_180t G0 G0 := pj_kpt_r _ _
  show pj_X _ _ G0 0 [(0, .ref 171), (1, .int n)] [] _
  obtain ⟨y1, hy1⟩ : ∃ z : Int32, z = pj_fi G0 171 16 := ⟨_, rfl⟩
  have ey1 : (pj_fi G0 171 16).toInt = y1.toInt := by rw [hy1]
  have ry1 : (0 : Int) ≤ y1.toInt ∧ y1.toInt ≤ 80 := by rw [hy1]; exact hI.2.1 171 16 (0, 80) rfl
  refine pj_X_of (fun r h => pj_R_to (G0, 2, [(0, .ref 171), (1, .int n)], [.int (Int32.ofInt 0), .ref 171], 0, 0) 2 3 (fun _ => rfl) h) ?_
  refine pj_X_of (fun r h => pj_T_pf hI rfl rfl rfl h) ?_
  show pj_X _ _ (pj_wv G0 171 0 (.int (Int32.ofInt 0))) 5 [(0, .ref 171), (1, .int n)] [] _
  obtain ⟨G2, hG2⟩ : ∃ H, H = pj_wv G0 171 0 (.int (Int32.ofInt 0)) := ⟨_, rfl⟩
  have iG2 : pj_Inv G2 := by rw [hG2]; exact pj_Inv_wi hI (ci := 12) rfl (fun q hq => by cases hq)
  have kG2 : pj_kpt kc_180t G0 G2 := by rw [hG2]; exact pj_kpt_v hK rfl
  rw [← hG2]
  refine pj_X_of (fun r h => pj_R_to (G2, 9, [(0, .ref 171), (1, .int n)], [.ref 171, .long (Int64.ofNat 0), .long n.toInt64], 0, 0) 9 5 (fun _ => rfl) h) ?_
  refine pj_X_of (fun r h => pj_T_gi iG2 rfl rfl h) ?_
  show pj_X _ _ G2 12 [(0, .ref 171), (1, .int n)] [.int (pj_fi G2 171 16), .long (Int64.ofNat 0), .long n.toInt64] _
  refine pj_X_eqi (show pj_fi G2 171 16 = y1 from by rw [hG2, pj_fi_wv_ne _ _ _ _ _ _ (by decide)]; exact hy1.symm) ?_
  refine pj_X_of (fun r h => pj_R_to (G2, 13, [(0, .ref 171), (1, .int n)], [.long y1.toInt64, .long (Int64.ofNat 0), .long n.toInt64], 0, 0) 13 2 (fun _ => rfl) h) ?_
  have q3 : (pj_fi G2 171 16).toInt = y1.toInt := by rw [show pj_fi G2 171 16 = y1 from by rw [hG2, pj_fi_wv_ne _ _ _ _ _ _ (by decide)]; exact hy1.symm]
  have lc4 : (n.toInt64).toInt = n.toInt := Int32.toInt_toInt64 _
  have lc5 : (Int64.ofNat 0).toInt = 0 := by decide
  have lc6 : (y1.toInt64).toInt = y1.toInt := Int32.toInt_toInt64 _
  refine pj_X_ca (vs := [.long n.toInt64, .long (Int64.ofNat 0), .long y1.toInt64]) rfl (fun _ => rfl) ⟨Nat.le_of_ble_eq_true rfl, Nat.le_of_ble_eq_true rfl, rfl⟩ ⟨rfl, rfl⟩ (pj_Y_up (by decide) (ct_170x G2 iG2 n.toInt64 (Int64.ofNat 0) y1.toInt64)) ?_
  rintro _ _ ⟨y7, rfl, rfl, ry7, ey7, fy7⟩
  show pj_X _ _ G2 16 [(0, .ref 171), (1, .int n)] [.int y7] _
  cases b8 : pj_c1 .ne y7 0 with
  | true =>
    have ub8 := pj_u0_neT b8
    refine pj_X_of (fun r h => pj_R_ifT 21 rfl rfl b8 h) ?_
    refine pj_X_of (fun r h => pj_R_to (G2, 23, [(0, .ref 171), (1, .int n)], [.int n, .ref 171], 0, 0) 23 3 (fun _ => rfl) h) ?_
    refine pj_X_of (fun r h => pj_T_pf iG2 rfl rfl rfl h) ?_
    show pj_X _ _ (pj_wv G2 171 16 (.int n)) 26 [(0, .ref 171), (1, .int n)] [] _
    obtain ⟨G9, hG9⟩ : ∃ H, H = pj_wv G2 171 16 (.int n) := ⟨_, rfl⟩
    have iG9 : pj_Inv G9 := by rw [hG9]; exact pj_Inv_wi iG2 (ci := 12) rfl (fun q hq => by cases hq; exact ⟨by show (0 : Int) ≤ _; omega, by show _ ≤ (80 : Int); omega⟩)
    have kG9 : pj_kpt kc_180t G0 G9 := by rw [hG9]; exact pj_kpt_v kG2 rfl
    rw [← hG9]
    refine pj_X_of (fun r h => pj_R_to (G9, 27, [(0, .ref 171), (1, .int n)], [.int (Int32.ofInt 1)], 0, 0) 27 2 (fun _ => rfl) h) ?_
    have q10 : (pj_fi G9 171 16).toInt = n.toInt := by rw [show pj_fi G9 171 16 = n from by rw [hG9]; exact pj_fi_wi iG2.1 (ci := 12) rfl _]
    exact pj_X_rt rfl rfl ⟨_, rfl, iG9, kG9, ⟨by omega, by omega⟩, by omega⟩
  | false =>
    have ub8 := pj_u0_neF b8
    refine pj_X_of (fun r h => pj_R_ifF rfl b8 h) ?_
    refine pj_X_of (fun r h => pj_R_to (G2, 20, [(0, .ref 171), (1, .int n)], [.int (Int32.ofInt 0)], 0, 0) 20 2 (fun _ => rfl) h) ?_
    have q11 : (pj_fi G2 171 16).toInt = y1.toInt := by rw [show pj_fi G2 171 16 = y1 from by rw [hG2, pj_fi_wv_ne _ _ _ _ _ _ (by decide)]; exact hy1.symm]
    exact pj_X_rt rfl rfl ⟨_, rfl, iG2, kG2, ⟨by omega, by omega⟩, by omega⟩
def kc_88t : pj_KT := ([(2, 1), (2, 4)], [2], [])
theorem ct_88t (G0 : pj_G) (hI : pj_Inv G0) : pj_Y 2 88 [.ref 2] G0 (fun v G' => ∃ y : Int32, v = some (.int y) ∧ pj_Inv G' ∧ pj_kpt kc_88t G0 G' ∧ ((-1 : Int) ≤ y.toInt ∧ y.toInt ≤ 80) ∧ ((y.toInt = -1 → (pj_fi G0 2 4).toInt = -1) ∧ (pj_fi G' 2 1).toInt = 0)) := by
  have c0_ : (Int32.ofInt 0).toInt = 0 := by decide
  refine pj_Y_X (M := pj_m88) rfl rfl (Nat.le_of_ble_eq_true rfl) ?_
  have hK : pj_kpt kc_88t G0 G0 := pj_kpt_r _ _
  show pj_X _ _ G0 0 [(0, .ref 2)] [] _
  obtain ⟨y1, hy1⟩ : ∃ z : Int32, z = pj_fi G0 2 4 := ⟨_, rfl⟩
  have ey1 : (pj_fi G0 2 4).toInt = y1.toInt := by rw [hy1]
  have ry1 : (-1 : Int) ≤ y1.toInt ∧ y1.toInt ≤ 80 := by rw [hy1]; exact hI.2.1 2 4 (-1, 80) rfl
  obtain ⟨y2, hy2⟩ : ∃ z : Int32, z = pj_fi G0 2 1 := ⟨_, rfl⟩
  have ey2 : (pj_fi G0 2 1).toInt = y2.toInt := by rw [hy2]
  have ry2 : (0 : Int) ≤ y2.toInt ∧ y2.toInt ≤ 80 := by rw [hy2]; exact hI.2.1 2 1 (0, 80) rfl
  refine pj_X_of (fun r h => pj_R_to (G0, 1, [(0, .ref 2)], [.ref 2], 0, 0) 1 2 (fun _ => rfl) h) ?_
  refine pj_X_of (fun r h => pj_T_gi hI rfl rfl h) ?_
  show pj_X _ _ G0 4 [(0, .ref 2)] [.int (pj_fi G0 2 3)] _
  obtain ⟨y3, hy3⟩ : ∃ z : Int32, z = pj_fi G0 2 3 := ⟨_, rfl⟩
  refine pj_X_eqi hy3.symm ?_
  have ey3 : (pj_fi G0 2 3).toInt = y3.toInt := by rw [hy3]
  have ry3 : (0 : Int) ≤ y3.toInt ∧ y3.toInt ≤ 80 := by rw [hy3]; exact hI.2.1 2 3 (0, 80) rfl
  refine pj_X_of (fun r h => pj_R_to (G0, 5, [(0, .ref 2)], [.ref 2, .int y3], 0, 0) 5 2 (fun _ => rfl) h) ?_
  refine pj_X_of (fun r h => pj_T_gi hI rfl rfl h) ?_
  show pj_X _ _ G0 8 [(0, .ref 2)] [.int (pj_fi G0 2 1), .int y3] _
  refine pj_X_eqi (show pj_fi G0 2 1 = y2 from hy2.symm) ?_
  cases b4 : pj_c1 .ge y3 y2 with
  | true =>
    have ub4 := pj_u_geT b4
    refine pj_X_of (fun r h => pj_R_icT 15 rfl rfl b4 h) ?_
    refine pj_X_of (fun r h => pj_R_to (G0, 17, [(0, .ref 2)], [.int (Int32.ofInt 0), .ref 2], 0, 0) 17 3 (fun _ => rfl) h) ?_
    refine pj_X_of (fun r h => pj_T_pf hI rfl rfl rfl h) ?_
    show pj_X _ _ (pj_wv G0 2 1 (.int (Int32.ofInt 0))) 20 [(0, .ref 2)] [] _
    obtain ⟨G5, hG5⟩ : ∃ H, H = pj_wv G0 2 1 (.int (Int32.ofInt 0)) := ⟨_, rfl⟩
    have iG5 : pj_Inv G5 := by rw [hG5]; exact pj_Inv_wi hI (ci := 9) rfl (fun q hq => by cases hq; exact ⟨by show (0 : Int) ≤ _; omega, by show _ ≤ (80 : Int); omega⟩)
    have kG5 : pj_kpt kc_88t G0 G5 := by rw [hG5]; exact pj_kpt_v hK rfl
    rw [← hG5]
    refine pj_X_of (fun r h => pj_R_to (G5, 21, [(0, .ref 2)], [.ref 2], 0, 0) 21 2 (fun _ => rfl) h) ?_
    refine pj_X_of (fun r h => pj_T_gi iG5 rfl rfl h) ?_
    show pj_X _ _ G5 24 [(0, .ref 2)] [.int (pj_fi G5 2 4)] _
    refine pj_X_eqi (show pj_fi G5 2 4 = y1 from by rw [hG5, pj_fi_wv_ne _ _ _ _ _ _ (by decide)]; exact hy1.symm) ?_
    have q6 : (pj_fi G5 2 4).toInt = y1.toInt := by rw [show pj_fi G5 2 4 = y1 from by rw [hG5, pj_fi_wv_ne _ _ _ _ _ _ (by decide)]; exact hy1.symm]
    have q7 : (pj_fi G5 2 1).toInt = (Int32.ofInt 0).toInt := by rw [show pj_fi G5 2 1 = Int32.ofInt 0 from by rw [hG5]; exact pj_fi_wi hI.1 (ci := 9) rfl _]
    exact pj_X_rt rfl rfl ⟨_, rfl, iG5, kG5, ⟨by omega, by omega⟩, by omega⟩
  | false =>
    have ub4 := pj_u_geF b4
    refine pj_X_of (fun r h => pj_R_icF rfl b4 h) ?_
    refine pj_X_of (fun r h => pj_R_to (G0, 12, [(0, .ref 2)], [.ref 2], 0, 0) 12 2 (fun _ => rfl) h) ?_
    have q8 : (pj_fi G0 2 4).toInt = y1.toInt := by rw [show pj_fi G0 2 4 = y1 from hy1.symm]
    have q9 : (pj_fi G0 2 1).toInt = y2.toInt := by rw [show pj_fi G0 2 1 = y2 from hy2.symm]
    refine pj_X_ca (vs := [.ref 2]) rfl (fun _ => rfl) ⟨Nat.le_of_ble_eq_true rfl, Nat.le_of_ble_eq_true rfl, pj_T_rcv hI rfl⟩ ⟨rfl, rfl⟩ (pj_Y_up (by decide) (ct_81 G0 hI)) ?_
    rintro _ G11 ⟨rfl, iG11, jG11, eG11⟩
    have kG11 : pj_kpt kc_88t G0 G11 := pj_kpt_t hK (pj_kpt_s jG11 rfl)
    have q12 : (pj_fi G11 2 1).toInt = (pj_fi G0 2 1).toInt := by rw [jG11.1 (2, 1) (by decide)]
    obtain ⟨y13, hy13⟩ : ∃ z : Int32, z = pj_fi G11 2 4 := ⟨_, rfl⟩
    have ey13 : (pj_fi G11 2 4).toInt = y13.toInt := by rw [hy13]
    have ry13 : (-1 : Int) ≤ y13.toInt ∧ y13.toInt ≤ 80 := by rw [hy13]; exact iG11.2.1 2 4 (-1, 80) rfl
    obtain ⟨y14, hy14⟩ : ∃ z : Int32, z = pj_fi G11 2 1 := ⟨_, rfl⟩
    have ey14 : (pj_fi G11 2 1).toInt = y14.toInt := by rw [hy14]
    have ry14 : (0 : Int) ≤ y14.toInt ∧ y14.toInt ≤ 80 := by rw [hy14]; exact iG11.2.1 2 1 (0, 80) rfl
    show pj_X _ _ G11 15 [(0, .ref 2)] [] _
    refine pj_X_of (fun r h => pj_R_to (G11, 17, [(0, .ref 2)], [.int (Int32.ofInt 0), .ref 2], 0, 0) 17 3 (fun _ => rfl) h) ?_
    refine pj_X_of (fun r h => pj_T_pf iG11 rfl rfl rfl h) ?_
    show pj_X _ _ (pj_wv G11 2 1 (.int (Int32.ofInt 0))) 20 [(0, .ref 2)] [] _
    obtain ⟨G15, hG15⟩ : ∃ H, H = pj_wv G11 2 1 (.int (Int32.ofInt 0)) := ⟨_, rfl⟩
    have iG15 : pj_Inv G15 := by rw [hG15]; exact pj_Inv_wi iG11 (ci := 9) rfl (fun q hq => by cases hq; exact ⟨by show (0 : Int) ≤ _; omega, by show _ ≤ (80 : Int); omega⟩)
    have kG15 : pj_kpt kc_88t G0 G15 := by rw [hG15]; exact pj_kpt_v kG11 rfl
    rw [← hG15]
    refine pj_X_of (fun r h => pj_R_to (G15, 21, [(0, .ref 2)], [.ref 2], 0, 0) 21 2 (fun _ => rfl) h) ?_
    refine pj_X_of (fun r h => pj_T_gi iG15 rfl rfl h) ?_
    show pj_X _ _ G15 24 [(0, .ref 2)] [.int (pj_fi G15 2 4)] _
    refine pj_X_eqi (show pj_fi G15 2 4 = y13 from by rw [hG15, pj_fi_wv_ne _ _ _ _ _ _ (by decide)]; exact hy13.symm) ?_
    have q16 : (pj_fi G15 2 4).toInt = y13.toInt := by rw [show pj_fi G15 2 4 = y13 from by rw [hG15, pj_fi_wv_ne _ _ _ _ _ _ (by decide)]; exact hy13.symm]
    have q17 : (pj_fi G15 2 1).toInt = (Int32.ofInt 0).toInt := by rw [show pj_fi G15 2 1 = Int32.ofInt 0 from by rw [hG15]; exact pj_fi_wi iG11.1 (ci := 9) rfl _]
    exact pj_X_rt rfl rfl ⟨_, rfl, iG15, kG15, ⟨by omega, by omega⟩, by omega⟩
def kc_119t : pj_KT := ([(2, 1), (2, 2), (2, 3), (2, 4), (6, 0), (6, 1), (7, 0), (7, 1), (14, 0), (14, 1), (21, 0), (21, 5), (21, 7), (53, 2)], [2, 6, 7, 8, 9, 10, 11, 12, 13, 14, 15, 16, 17, 18, 19, 20, 21, 53, 56], [8, 9, 10, 11, 12, 13, 15, 16, 17, 18, 19, 20, 56])
theorem ct_119t (G0 : pj_G) (hI : pj_Inv G0) : pj_Y 5 119 [.ref 1] G0 (fun v G' => ∃ y : Int32, v = some (.int y) ∧ pj_Inv G' ∧ pj_kpt kc_119t G0 G' ∧ ((-2147483648 : Int) ≤ y.toInt ∧ y.toInt ≤ 2147483647) ∧ ((pj_fi G' 2 1).toInt = 0)) := by
  have c0_ : ((Int8.ofInt 72).toInt32).toInt = 72 := by decide
  have c1_ : (Int32.ofInt (-1)).toInt = -1 := by decide
  refine pj_Y_X (M := pj_m119) rfl rfl (Nat.le_of_ble_eq_true rfl) ?_
  have hK : pj_kpt kc_119t G0 G0 := pj_kpt_r _ _
  show pj_X _ _ G0 0 [(0, .ref 1)] [] _
  obtain ⟨y1, hy1⟩ : ∃ z : Int32, z = pj_fi G0 2 1 := ⟨_, rfl⟩
  have ey1 : (pj_fi G0 2 1).toInt = y1.toInt := by rw [hy1]
  have ry1 : (0 : Int) ≤ y1.toInt ∧ y1.toInt ≤ 80 := by rw [hy1]; exact hI.2.1 2 1 (0, 80) rfl
  refine pj_X_of (fun r h => pj_R_to (G0, 1, [(0, .ref 1)], [.ref 1], 0, 0) 1 2 (fun _ => rfl) h) ?_
  refine pj_X_of (fun r h => pj_T_gr hI rfl rfl rfl h) ?_
  refine pj_X_of (fun r h => pj_R_to (G0, 6, [(0, .ref 1)], [.int ((Int8.ofInt 72).toInt32), .ref 2], 0, 0) 6 2 (fun _ => rfl) h) ?_
  have q2 : (pj_fi G0 2 1).toInt = y1.toInt := by rw [show pj_fi G0 2 1 = y1 from hy1.symm]
  refine pj_X_ca (vs := [.ref 2, .int ((Int8.ofInt 72).toInt32)]) rfl (fun _ => rfl) ⟨Nat.le_of_ble_eq_true rfl, Nat.le_of_ble_eq_true rfl, pj_T_rcv hI rfl⟩ ⟨rfl, rfl⟩ (pj_Y_up (by decide) (ct_79 G0 hI ((Int8.ofInt 72).toInt32) ⟨by omega, by omega⟩)) ?_
  rintro _ G4 ⟨rfl, iG4, jG4⟩
  have kG4 : pj_kpt kc_119t G0 G4 := pj_kpt_t hK (pj_kpt_s jG4 rfl)
  have q5 : (pj_fi G4 2 1).toInt = (pj_fi G0 2 1).toInt := by rw [jG4.1 (2, 1) (by decide)]
  obtain ⟨y6, hy6⟩ : ∃ z : Int32, z = pj_fi G4 2 1 := ⟨_, rfl⟩
  have ey6 : (pj_fi G4 2 1).toInt = y6.toInt := by rw [hy6]
  have ry6 : (0 : Int) ≤ y6.toInt ∧ y6.toInt ≤ 80 := by rw [hy6]; exact iG4.2.1 2 1 (0, 80) rfl
  show pj_X _ _ G4 9 [(0, .ref 1)] [] _
  refine pj_X_of (fun r h => pj_R_to (G4, 10, [(0, .ref 1)], [.ref 1], 0, 0) 10 2 (fun _ => rfl) h) ?_
  refine pj_X_of (fun r h => pj_T_gr iG4 rfl rfl rfl h) ?_
  refine pj_X_gm iG4 rfl rfl (fun q7 => ?_) (fun q7 => ?_)
  · refine pj_X_of (fun r h => pj_R_to (G4, 17, [(0, .ref 1)], [.ref 1, .ref 7], 0, 0) 17 2 (fun _ => rfl) h) ?_
    refine pj_X_of (fun r h => pj_T_gr iG4 rfl rfl rfl h) ?_
    have q8 : (pj_fi G4 2 1).toInt = y6.toInt := by rw [show pj_fi G4 2 1 = y6 from hy6.symm]
    refine pj_X_ca (vs := [.ref 7, .ref 2]) rfl (fun _ => rfl) ⟨Nat.le_of_ble_eq_true rfl, Nat.le_of_ble_eq_true rfl, pj_T_rcv iG4 rfl⟩ ⟨rfl, rfl⟩ (pj_Y_up (by decide) (ct_41_7 G4 iG4)) ?_
    rintro _ G10 ⟨rfl, iG10, jG10⟩
    have kG10 : pj_kpt kc_119t G0 G10 := pj_kpt_t kG4 (pj_kpt_s jG10 rfl)
    have q11 : (pj_fi G10 2 1).toInt = (pj_fi G4 2 1).toInt := by rw [jG10.1 (2, 1) (by decide)]
    obtain ⟨y12, hy12⟩ : ∃ z : Int32, z = pj_fi G10 2 1 := ⟨_, rfl⟩
    have ey12 : (pj_fi G10 2 1).toInt = y12.toInt := by rw [hy12]
    have ry12 : (0 : Int) ≤ y12.toInt ∧ y12.toInt ≤ 80 := by rw [hy12]; exact iG10.2.1 2 1 (0, 80) rfl
    show pj_X _ _ G10 23 [(0, .ref 1)] [] _
    refine pj_X_of (fun r h => pj_R_to (G10, 24, [(0, .ref 1)], [.ref 1], 0, 0) 24 2 (fun _ => rfl) h) ?_
    refine pj_X_of (fun r h => pj_T_gr iG10 rfl rfl rfl h) ?_
    have q13 : (pj_fi G10 2 1).toInt = y12.toInt := by rw [show pj_fi G10 2 1 = y12 from hy12.symm]
    refine pj_X_ca (vs := [.ref 2]) rfl (fun _ => rfl) ⟨Nat.le_of_ble_eq_true rfl, Nat.le_of_ble_eq_true rfl, pj_T_rcv iG10 rfl⟩ ⟨rfl, rfl⟩ (pj_Y_up (by decide) (ct_88t G10 iG10)) ?_
    rintro _ G15 ⟨y14, rfl, iG15, jG15, ry14, ey14⟩
    have kG15 : pj_kpt kc_119t G0 G15 := pj_kpt_t kG10 (pj_kpt_s jG15 rfl)
    obtain ⟨y16, hy16⟩ : ∃ z : Int32, z = pj_fi G15 2 1 := ⟨_, rfl⟩
    have ey16 : (pj_fi G15 2 1).toInt = y16.toInt := by rw [hy16]
    have ry16 : (0 : Int) ≤ y16.toInt ∧ y16.toInt ≤ 80 := by rw [hy16]; exact iG15.2.1 2 1 (0, 80) rfl
    show pj_X _ _ G15 30 [(0, .ref 1)] [.int y14] _
    refine pj_X_of (fun r h => pj_R_to (G15, 33, [(1, .int y14), (0, .ref 1)], [.int (Int32.ofInt (-1)), .int y14], 0, 0) 33 4 (fun _ => rfl) h) ?_
    cases b17 : pj_c1 .eq y14 (Int32.ofInt (-1)) with
    | true =>
      have ub17 := pj_u_eqT b17
      refine pj_X_of (fun r h => pj_R_icT 41 rfl rfl b17 h) ?_
      refine pj_X_of (fun r h => pj_R_to (G15, 42, [(1, .int y14), (0, .ref 1)], [.ref 1], 0, 0) 42 2 (fun _ => rfl) h) ?_
      refine pj_X_of (fun r h => pj_T_gr iG15 rfl rfl rfl h) ?_
      have q18 : (pj_fi G15 2 1).toInt = y16.toInt := by rw [show pj_fi G15 2 1 = y16 from hy16.symm]
      refine pj_X_ca (vs := [.ref 6]) rfl (fun _ => rfl) ⟨Nat.le_of_ble_eq_true rfl, Nat.le_of_ble_eq_true rfl, pj_T_rcv iG15 rfl⟩ ⟨rfl, rfl⟩ (pj_Y_up (by decide) (ct_90 G15 iG15)) ?_
      rintro _ G20 ⟨rfl, iG20, jG20⟩
      have kG20 : pj_kpt kc_119t G0 G20 := pj_kpt_t kG15 (pj_kpt_s jG20 rfl)
      have q21 : (pj_fi G20 2 1).toInt = (pj_fi G15 2 1).toInt := by rw [jG20.1 (2, 1) (by decide)]
      obtain ⟨y22, hy22⟩ : ∃ z : Int32, z = pj_fi G20 2 1 := ⟨_, rfl⟩
      have ey22 : (pj_fi G20 2 1).toInt = y22.toInt := by rw [hy22]
      have ry22 : (0 : Int) ≤ y22.toInt ∧ y22.toInt ≤ 80 := by rw [hy22]; exact iG20.2.1 2 1 (0, 80) rfl
      show pj_X _ _ G20 48 [(1, .int y14), (0, .ref 1)] [] _
      refine pj_X_of (fun r h => pj_R_to (G20, 49, [(1, .int y14), (0, .ref 1)], [.ref 1], 0, 0) 49 2 (fun _ => rfl) h) ?_
      refine pj_X_of (fun r h => pj_T_gr iG20 rfl rfl rfl h) ?_
      have q23 : (pj_fi G20 2 1).toInt = y22.toInt := by rw [show pj_fi G20 2 1 = y22 from hy22.symm]
      refine pj_X_ca (vs := [.ref 53]) rfl (fun _ => rfl) ⟨Nat.le_of_ble_eq_true rfl, Nat.le_of_ble_eq_true rfl, pj_T_rcv iG20 rfl⟩ ⟨rfl, rfl⟩ (pj_Y_up (by decide) (ct_37 G20 iG20)) ?_
      rintro _ G25 ⟨rfl, iG25, jG25⟩
      have kG25 : pj_kpt kc_119t G0 G25 := pj_kpt_t kG20 (pj_kpt_s jG25 rfl)
      have q26 : (pj_fi G25 2 1).toInt = (pj_fi G20 2 1).toInt := by rw [jG25.1 (2, 1) (by decide)]
      obtain ⟨y27, hy27⟩ : ∃ z : Int32, z = pj_fi G25 2 1 := ⟨_, rfl⟩
      have ey27 : (pj_fi G25 2 1).toInt = y27.toInt := by rw [hy27]
      have ry27 : (0 : Int) ≤ y27.toInt ∧ y27.toInt ≤ 80 := by rw [hy27]; exact iG25.2.1 2 1 (0, 80) rfl
      show pj_X _ _ G25 55 [(1, .int y14), (0, .ref 1)] [] _
      refine pj_X_of (fun r h => pj_R_to (G25, 56, [(1, .int y14), (0, .ref 1)], [.ref 1], 0, 0) 56 2 (fun _ => rfl) h) ?_
      refine pj_X_of (fun r h => pj_T_gr iG25 rfl rfl rfl h) ?_
      refine pj_X_gm iG25 rfl rfl (fun q28 => ?_) (fun q28 => ?_)
      · refine pj_X_of (fun r h => pj_T_gi iG25 rfl rfl h) ?_
        show pj_X _ _ G25 65 [(1, .int y14), (0, .ref 1)] [.int (pj_fi G25 7 1)] _
        obtain ⟨y29, hy29⟩ : ∃ z : Int32, z = pj_fi G25 7 1 := ⟨_, rfl⟩
        refine pj_X_eqi hy29.symm ?_
        have ey29 : (pj_fi G25 7 1).toInt = y29.toInt := by rw [hy29]
        have ry29 : (0 : Int) ≤ y29.toInt ∧ y29.toInt ≤ 10 := by rw [hy29]; exact iG25.2.1 7 1 (0, 10) rfl
        have q30 : (pj_fi G25 2 1).toInt = y27.toInt := by rw [show pj_fi G25 2 1 = y27 from hy27.symm]
        exact pj_X_rt rfl rfl ⟨_, rfl, iG25, kG25, pj_i32 _, by omega⟩
      · refine pj_X_of (fun r h => pj_T_gi iG25 rfl rfl h) ?_
        show pj_X _ _ G25 65 [(1, .int y14), (0, .ref 1)] [.int (pj_fi G25 14 1)] _
        obtain ⟨y31, hy31⟩ : ∃ z : Int32, z = pj_fi G25 14 1 := ⟨_, rfl⟩
        refine pj_X_eqi hy31.symm ?_
        have ey31 : (pj_fi G25 14 1).toInt = y31.toInt := by rw [hy31]
        have ry31 : (0 : Int) ≤ y31.toInt ∧ y31.toInt ≤ 10 := by rw [hy31]; exact iG25.2.1 14 1 (0, 10) rfl
        have q32 : (pj_fi G25 2 1).toInt = y27.toInt := by rw [show pj_fi G25 2 1 = y27 from hy27.symm]
        exact pj_X_rt rfl rfl ⟨_, rfl, iG25, kG25, pj_i32 _, by omega⟩
    | false =>
      have ub17 := pj_u_eqF b17
      refine pj_X_of (fun r h => pj_R_icF rfl b17 h) ?_
      refine pj_X_of (fun r h => pj_R_to (G15, 37, [(1, .int y14), (0, .ref 1)], [.int y14], 0, 0) 37 2 (fun _ => rfl) h) ?_
      have q33 : (pj_fi G15 2 1).toInt = y16.toInt := by rw [show pj_fi G15 2 1 = y16 from hy16.symm]
      refine pj_X_ca (vs := [.int y14]) rfl (fun _ => rfl) ⟨Nat.le_of_ble_eq_true rfl, Nat.le_of_ble_eq_true rfl, rfl⟩ ⟨rfl, rfl⟩ (pj_Y_up (by decide) (ct_162 G15 iG15 y14)) ?_
      rintro _ _ ⟨y34, rfl, rfl, ry34⟩
      show pj_X _ _ G15 40 [(1, .int y14), (0, .ref 1)] [.int y34] _
      have q35 : (pj_fi G15 2 1).toInt = y16.toInt := by rw [show pj_fi G15 2 1 = y16 from hy16.symm]
      exact pj_X_rt rfl rfl ⟨_, rfl, iG15, kG15, pj_i32 _, by omega⟩
  · refine pj_X_of (fun r h => pj_R_to (G4, 17, [(0, .ref 1)], [.ref 1, .ref 14], 0, 0) 17 2 (fun _ => rfl) h) ?_
    refine pj_X_of (fun r h => pj_T_gr iG4 rfl rfl rfl h) ?_
    have q36 : (pj_fi G4 2 1).toInt = y6.toInt := by rw [show pj_fi G4 2 1 = y6 from hy6.symm]
    refine pj_X_ca (vs := [.ref 14, .ref 2]) rfl (fun _ => rfl) ⟨Nat.le_of_ble_eq_true rfl, Nat.le_of_ble_eq_true rfl, pj_T_rcv iG4 rfl⟩ ⟨rfl, rfl⟩ (pj_Y_up (by decide) (ct_41_14 G4 iG4)) ?_
    rintro _ G38 ⟨rfl, iG38, jG38⟩
    have kG38 : pj_kpt kc_119t G0 G38 := pj_kpt_t kG4 (pj_kpt_s jG38 rfl)
    have q39 : (pj_fi G38 2 1).toInt = (pj_fi G4 2 1).toInt := by rw [jG38.1 (2, 1) (by decide)]
    obtain ⟨y40, hy40⟩ : ∃ z : Int32, z = pj_fi G38 2 1 := ⟨_, rfl⟩
    have ey40 : (pj_fi G38 2 1).toInt = y40.toInt := by rw [hy40]
    have ry40 : (0 : Int) ≤ y40.toInt ∧ y40.toInt ≤ 80 := by rw [hy40]; exact iG38.2.1 2 1 (0, 80) rfl
    show pj_X _ _ G38 23 [(0, .ref 1)] [] _
    refine pj_X_of (fun r h => pj_R_to (G38, 24, [(0, .ref 1)], [.ref 1], 0, 0) 24 2 (fun _ => rfl) h) ?_
    refine pj_X_of (fun r h => pj_T_gr iG38 rfl rfl rfl h) ?_
    have q41 : (pj_fi G38 2 1).toInt = y40.toInt := by rw [show pj_fi G38 2 1 = y40 from hy40.symm]
    refine pj_X_ca (vs := [.ref 2]) rfl (fun _ => rfl) ⟨Nat.le_of_ble_eq_true rfl, Nat.le_of_ble_eq_true rfl, pj_T_rcv iG38 rfl⟩ ⟨rfl, rfl⟩ (pj_Y_up (by decide) (ct_88t G38 iG38)) ?_
    rintro _ G43 ⟨y42, rfl, iG43, jG43, ry42, ey42⟩
    have kG43 : pj_kpt kc_119t G0 G43 := pj_kpt_t kG38 (pj_kpt_s jG43 rfl)
    obtain ⟨y44, hy44⟩ : ∃ z : Int32, z = pj_fi G43 2 1 := ⟨_, rfl⟩
    have ey44 : (pj_fi G43 2 1).toInt = y44.toInt := by rw [hy44]
    have ry44 : (0 : Int) ≤ y44.toInt ∧ y44.toInt ≤ 80 := by rw [hy44]; exact iG43.2.1 2 1 (0, 80) rfl
    show pj_X _ _ G43 30 [(0, .ref 1)] [.int y42] _
    refine pj_X_of (fun r h => pj_R_to (G43, 33, [(1, .int y42), (0, .ref 1)], [.int (Int32.ofInt (-1)), .int y42], 0, 0) 33 4 (fun _ => rfl) h) ?_
    cases b45 : pj_c1 .eq y42 (Int32.ofInt (-1)) with
    | true =>
      have ub45 := pj_u_eqT b45
      refine pj_X_of (fun r h => pj_R_icT 41 rfl rfl b45 h) ?_
      refine pj_X_of (fun r h => pj_R_to (G43, 42, [(1, .int y42), (0, .ref 1)], [.ref 1], 0, 0) 42 2 (fun _ => rfl) h) ?_
      refine pj_X_of (fun r h => pj_T_gr iG43 rfl rfl rfl h) ?_
      have q46 : (pj_fi G43 2 1).toInt = y44.toInt := by rw [show pj_fi G43 2 1 = y44 from hy44.symm]
      refine pj_X_ca (vs := [.ref 6]) rfl (fun _ => rfl) ⟨Nat.le_of_ble_eq_true rfl, Nat.le_of_ble_eq_true rfl, pj_T_rcv iG43 rfl⟩ ⟨rfl, rfl⟩ (pj_Y_up (by decide) (ct_90 G43 iG43)) ?_
      rintro _ G48 ⟨rfl, iG48, jG48⟩
      have kG48 : pj_kpt kc_119t G0 G48 := pj_kpt_t kG43 (pj_kpt_s jG48 rfl)
      have q49 : (pj_fi G48 2 1).toInt = (pj_fi G43 2 1).toInt := by rw [jG48.1 (2, 1) (by decide)]
      obtain ⟨y50, hy50⟩ : ∃ z : Int32, z = pj_fi G48 2 1 := ⟨_, rfl⟩
      have ey50 : (pj_fi G48 2 1).toInt = y50.toInt := by rw [hy50]
      have ry50 : (0 : Int) ≤ y50.toInt ∧ y50.toInt ≤ 80 := by rw [hy50]; exact iG48.2.1 2 1 (0, 80) rfl
      show pj_X _ _ G48 48 [(1, .int y42), (0, .ref 1)] [] _
      refine pj_X_of (fun r h => pj_R_to (G48, 49, [(1, .int y42), (0, .ref 1)], [.ref 1], 0, 0) 49 2 (fun _ => rfl) h) ?_
      refine pj_X_of (fun r h => pj_T_gr iG48 rfl rfl rfl h) ?_
      have q51 : (pj_fi G48 2 1).toInt = y50.toInt := by rw [show pj_fi G48 2 1 = y50 from hy50.symm]
      refine pj_X_ca (vs := [.ref 53]) rfl (fun _ => rfl) ⟨Nat.le_of_ble_eq_true rfl, Nat.le_of_ble_eq_true rfl, pj_T_rcv iG48 rfl⟩ ⟨rfl, rfl⟩ (pj_Y_up (by decide) (ct_37 G48 iG48)) ?_
      rintro _ G53 ⟨rfl, iG53, jG53⟩
      have kG53 : pj_kpt kc_119t G0 G53 := pj_kpt_t kG48 (pj_kpt_s jG53 rfl)
      have q54 : (pj_fi G53 2 1).toInt = (pj_fi G48 2 1).toInt := by rw [jG53.1 (2, 1) (by decide)]
      obtain ⟨y55, hy55⟩ : ∃ z : Int32, z = pj_fi G53 2 1 := ⟨_, rfl⟩
      have ey55 : (pj_fi G53 2 1).toInt = y55.toInt := by rw [hy55]
      have ry55 : (0 : Int) ≤ y55.toInt ∧ y55.toInt ≤ 80 := by rw [hy55]; exact iG53.2.1 2 1 (0, 80) rfl
      show pj_X _ _ G53 55 [(1, .int y42), (0, .ref 1)] [] _
      refine pj_X_of (fun r h => pj_R_to (G53, 56, [(1, .int y42), (0, .ref 1)], [.ref 1], 0, 0) 56 2 (fun _ => rfl) h) ?_
      refine pj_X_of (fun r h => pj_T_gr iG53 rfl rfl rfl h) ?_
      refine pj_X_gm iG53 rfl rfl (fun q56 => ?_) (fun q56 => ?_)
      · refine pj_X_of (fun r h => pj_T_gi iG53 rfl rfl h) ?_
        show pj_X _ _ G53 65 [(1, .int y42), (0, .ref 1)] [.int (pj_fi G53 7 1)] _
        obtain ⟨y57, hy57⟩ : ∃ z : Int32, z = pj_fi G53 7 1 := ⟨_, rfl⟩
        refine pj_X_eqi hy57.symm ?_
        have ey57 : (pj_fi G53 7 1).toInt = y57.toInt := by rw [hy57]
        have ry57 : (0 : Int) ≤ y57.toInt ∧ y57.toInt ≤ 10 := by rw [hy57]; exact iG53.2.1 7 1 (0, 10) rfl
        have q58 : (pj_fi G53 2 1).toInt = y55.toInt := by rw [show pj_fi G53 2 1 = y55 from hy55.symm]
        exact pj_X_rt rfl rfl ⟨_, rfl, iG53, kG53, pj_i32 _, by omega⟩
      · refine pj_X_of (fun r h => pj_T_gi iG53 rfl rfl h) ?_
        show pj_X _ _ G53 65 [(1, .int y42), (0, .ref 1)] [.int (pj_fi G53 14 1)] _
        obtain ⟨y59, hy59⟩ : ∃ z : Int32, z = pj_fi G53 14 1 := ⟨_, rfl⟩
        refine pj_X_eqi hy59.symm ?_
        have ey59 : (pj_fi G53 14 1).toInt = y59.toInt := by rw [hy59]
        have ry59 : (0 : Int) ≤ y59.toInt ∧ y59.toInt ≤ 10 := by rw [hy59]; exact iG53.2.1 14 1 (0, 10) rfl
        have q60 : (pj_fi G53 2 1).toInt = y55.toInt := by rw [show pj_fi G53 2 1 = y55 from hy55.symm]
        exact pj_X_rt rfl rfl ⟨_, rfl, iG53, kG53, pj_i32 _, by omega⟩
    | false =>
      have ub45 := pj_u_eqF b45
      refine pj_X_of (fun r h => pj_R_icF rfl b45 h) ?_
      refine pj_X_of (fun r h => pj_R_to (G43, 37, [(1, .int y42), (0, .ref 1)], [.int y42], 0, 0) 37 2 (fun _ => rfl) h) ?_
      have q61 : (pj_fi G43 2 1).toInt = y44.toInt := by rw [show pj_fi G43 2 1 = y44 from hy44.symm]
      refine pj_X_ca (vs := [.int y42]) rfl (fun _ => rfl) ⟨Nat.le_of_ble_eq_true rfl, Nat.le_of_ble_eq_true rfl, rfl⟩ ⟨rfl, rfl⟩ (pj_Y_up (by decide) (ct_162 G43 iG43 y42)) ?_
      rintro _ _ ⟨y62, rfl, rfl, ry62⟩
      show pj_X _ _ G43 40 [(1, .int y42), (0, .ref 1)] [.int y62] _
      have q63 : (pj_fi G43 2 1).toInt = y44.toInt := by rw [show pj_fi G43 2 1 = y44 from hy44.symm]
      exact pj_X_rt rfl rfl ⟨_, rfl, iG43, kG43, pj_i32 _, by omega⟩
def kc_120t : pj_KT := ([(2, 1), (2, 2), (2, 3), (2, 4), (21, 0), (53, 2)], [2, 21, 22, 23, 24, 25, 31, 53], [22, 23, 24, 25, 31])
theorem ct_120t (G0 : pj_G) (hI : pj_Inv G0) : pj_Y 5 120 [.ref 1] G0 (fun v G' => ∃ y : Int32, v = some (.int y) ∧ pj_Inv G' ∧ pj_kpt kc_120t G0 G' ∧ ((-2147483648 : Int) ≤ y.toInt ∧ y.toInt ≤ 2147483647) ∧ ((pj_fi G' 2 1).toInt = 0)) := by
  have c0_ : ((Int8.ofInt 17).toInt32).toInt = 17 := by decide
  have c1_ : (Int32.ofInt (-1)).toInt = -1 := by decide
  have c2_ : (Int32.ofInt 0).toInt = 0 := by decide
  have c3_ : (Int32.ofInt 1).toInt = 1 := by decide
  refine pj_Y_X (M := pj_m120) rfl rfl (Nat.le_of_ble_eq_true rfl) ?_
  have hK : pj_kpt kc_120t G0 G0 := pj_kpt_r _ _
  show pj_X _ _ G0 0 [(0, .ref 1)] [] _
  obtain ⟨y1, hy1⟩ : ∃ z : Int32, z = pj_fi G0 21 0 := ⟨_, rfl⟩
  have ey1 : (pj_fi G0 21 0).toInt = y1.toInt := by rw [hy1]
  have ry1 : (0 : Int) ≤ y1.toInt ∧ y1.toInt ≤ 6 := by rw [hy1]; exact hI.2.1 21 0 (0, 6) rfl
  obtain ⟨y2, hy2⟩ : ∃ z : Int32, z = pj_fi G0 2 4 := ⟨_, rfl⟩
  have ey2 : (pj_fi G0 2 4).toInt = y2.toInt := by rw [hy2]
  have ry2 : (-1 : Int) ≤ y2.toInt ∧ y2.toInt ≤ 80 := by rw [hy2]; exact hI.2.1 2 4 (-1, 80) rfl
  obtain ⟨y3, hy3⟩ : ∃ z : Int32, z = pj_fi G0 2 1 := ⟨_, rfl⟩
  have ey3 : (pj_fi G0 2 1).toInt = y3.toInt := by rw [hy3]
  have ry3 : (0 : Int) ≤ y3.toInt ∧ y3.toInt ≤ 80 := by rw [hy3]; exact hI.2.1 2 1 (0, 80) rfl
  refine pj_X_of (fun r h => pj_R_to (G0, 1, [(0, .ref 1)], [.ref 1], 0, 0) 1 2 (fun _ => rfl) h) ?_
  refine pj_X_of (fun r h => pj_T_gr hI rfl rfl rfl h) ?_
  refine pj_X_of (fun r h => pj_R_to (G0, 6, [(0, .ref 1)], [.int ((Int8.ofInt 17).toInt32), .ref 2], 0, 0) 6 2 (fun _ => rfl) h) ?_
  have q4 : (pj_fi G0 21 0).toInt = y1.toInt := by rw [show pj_fi G0 21 0 = y1 from hy1.symm]
  have q5 : (pj_fi G0 2 4).toInt = y2.toInt := by rw [show pj_fi G0 2 4 = y2 from hy2.symm]
  have q6 : (pj_fi G0 2 1).toInt = y3.toInt := by rw [show pj_fi G0 2 1 = y3 from hy3.symm]
  refine pj_X_ca (vs := [.ref 2, .int ((Int8.ofInt 17).toInt32)]) rfl (fun _ => rfl) ⟨Nat.le_of_ble_eq_true rfl, Nat.le_of_ble_eq_true rfl, pj_T_rcv hI rfl⟩ ⟨rfl, rfl⟩ (pj_Y_up (by decide) (ct_79 G0 hI ((Int8.ofInt 17).toInt32) ⟨by omega, by omega⟩)) ?_
  rintro _ G8 ⟨rfl, iG8, jG8⟩
  have kG8 : pj_kpt kc_120t G0 G8 := pj_kpt_t hK (pj_kpt_s jG8 rfl)
  have q9 : (pj_fi G8 21 0).toInt = (pj_fi G0 21 0).toInt := by rw [jG8.1 (21, 0) (by decide)]
  have q10 : (pj_fi G8 2 1).toInt = (pj_fi G0 2 1).toInt := by rw [jG8.1 (2, 1) (by decide)]
  obtain ⟨y11, hy11⟩ : ∃ z : Int32, z = pj_fi G8 21 0 := ⟨_, rfl⟩
  have ey11 : (pj_fi G8 21 0).toInt = y11.toInt := by rw [hy11]
  have ry11 : (0 : Int) ≤ y11.toInt ∧ y11.toInt ≤ 6 := by rw [hy11]; exact iG8.2.1 21 0 (0, 6) rfl
  obtain ⟨y12, hy12⟩ : ∃ z : Int32, z = pj_fi G8 2 4 := ⟨_, rfl⟩
  have ey12 : (pj_fi G8 2 4).toInt = y12.toInt := by rw [hy12]
  have ry12 : (-1 : Int) ≤ y12.toInt ∧ y12.toInt ≤ 80 := by rw [hy12]; exact iG8.2.1 2 4 (-1, 80) rfl
  obtain ⟨y13, hy13⟩ : ∃ z : Int32, z = pj_fi G8 2 1 := ⟨_, rfl⟩
  have ey13 : (pj_fi G8 2 1).toInt = y13.toInt := by rw [hy13]
  have ry13 : (0 : Int) ≤ y13.toInt ∧ y13.toInt ≤ 80 := by rw [hy13]; exact iG8.2.1 2 1 (0, 80) rfl
  show pj_X _ _ G8 9 [(0, .ref 1)] [] _
  refine pj_X_of (fun r h => pj_R_to (G8, 10, [(0, .ref 1)], [.ref 1], 0, 0) 10 2 (fun _ => rfl) h) ?_
  refine pj_X_of (fun r h => pj_T_gr iG8 rfl rfl rfl h) ?_
  refine pj_X_of (fun r h => pj_R_to (G8, 14, [(0, .ref 1)], [.ref 1, .ref 6], 0, 0) 14 2 (fun _ => rfl) h) ?_
  refine pj_X_of (fun r h => pj_T_gr iG8 rfl rfl rfl h) ?_
  have q14 : (pj_fi G8 21 0).toInt = y11.toInt := by rw [show pj_fi G8 21 0 = y11 from hy11.symm]
  have q15 : (pj_fi G8 2 4).toInt = y12.toInt := by rw [show pj_fi G8 2 4 = y12 from hy12.symm]
  have q16 : (pj_fi G8 2 1).toInt = y13.toInt := by rw [show pj_fi G8 2 1 = y13 from hy13.symm]
  refine pj_X_ca (vs := [.ref 6, .ref 2]) rfl (fun _ => rfl) ⟨Nat.le_of_ble_eq_true rfl, Nat.le_of_ble_eq_true rfl, pj_T_rcv iG8 rfl⟩ ⟨rfl, rfl⟩ (pj_Y_up (by decide) (ct_91 G8 iG8)) ?_
  rintro _ G18 ⟨y17, rfl, iG18, jG18, ry17, ey17⟩
  have kG18 : pj_kpt kc_120t G0 G18 := pj_kpt_t kG8 (pj_kpt_s jG18 rfl)
  have q19 : (pj_fi G18 21 0).toInt = (pj_fi G8 21 0).toInt := by rw [jG18.1 (21, 0) (by decide)]
  have q20 : (pj_fi G18 2 1).toInt = (pj_fi G8 2 1).toInt := by rw [jG18.1 (2, 1) (by decide)]
  obtain ⟨y21, hy21⟩ : ∃ z : Int32, z = pj_fi G18 21 0 := ⟨_, rfl⟩
  have ey21 : (pj_fi G18 21 0).toInt = y21.toInt := by rw [hy21]
  have ry21 : (0 : Int) ≤ y21.toInt ∧ y21.toInt ≤ 6 := by rw [hy21]; exact iG18.2.1 21 0 (0, 6) rfl
  obtain ⟨y22, hy22⟩ : ∃ z : Int32, z = pj_fi G18 2 4 := ⟨_, rfl⟩
  have ey22 : (pj_fi G18 2 4).toInt = y22.toInt := by rw [hy22]
  have ry22 : (-1 : Int) ≤ y22.toInt ∧ y22.toInt ≤ 80 := by rw [hy22]; exact iG18.2.1 2 4 (-1, 80) rfl
  obtain ⟨y23, hy23⟩ : ∃ z : Int32, z = pj_fi G18 2 1 := ⟨_, rfl⟩
  have ey23 : (pj_fi G18 2 1).toInt = y23.toInt := by rw [hy23]
  have ry23 : (0 : Int) ≤ y23.toInt ∧ y23.toInt ≤ 80 := by rw [hy23]; exact iG18.2.1 2 1 (0, 80) rfl
  show pj_X _ _ G18 20 [(0, .ref 1)] [.int y17] _
  refine pj_X_of (fun r h => pj_R_to (G18, 22, [(1, .int y17), (0, .ref 1)], [.ref 1], 0, 0) 22 3 (fun _ => rfl) h) ?_
  refine pj_X_of (fun r h => pj_T_gr iG18 rfl rfl rfl h) ?_
  have q24 : (pj_fi G18 21 0).toInt = y21.toInt := by rw [show pj_fi G18 21 0 = y21 from hy21.symm]
  have q25 : (pj_fi G18 2 4).toInt = y22.toInt := by rw [show pj_fi G18 2 4 = y22 from hy22.symm]
  have q26 : (pj_fi G18 2 1).toInt = y23.toInt := by rw [show pj_fi G18 2 1 = y23 from hy23.symm]
  refine pj_X_ca (vs := [.ref 2]) rfl (fun _ => rfl) ⟨Nat.le_of_ble_eq_true rfl, Nat.le_of_ble_eq_true rfl, pj_T_rcv iG18 rfl⟩ ⟨rfl, rfl⟩ (pj_Y_up (by decide) (ct_88t G18 iG18)) ?_
  rintro _ G28 ⟨y27, rfl, iG28, jG28, ry27, ey27⟩
  have kG28 : pj_kpt kc_120t G0 G28 := pj_kpt_t kG18 (pj_kpt_s jG28 rfl)
  have q29 : (pj_fi G28 21 0).toInt = (pj_fi G18 21 0).toInt := by rw [jG28.1 (21, 0) (by decide)]
  obtain ⟨y30, hy30⟩ : ∃ z : Int32, z = pj_fi G28 21 0 := ⟨_, rfl⟩
  have ey30 : (pj_fi G28 21 0).toInt = y30.toInt := by rw [hy30]
  have ry30 : (0 : Int) ≤ y30.toInt ∧ y30.toInt ≤ 6 := by rw [hy30]; exact iG28.2.1 21 0 (0, 6) rfl
  obtain ⟨y31, hy31⟩ : ∃ z : Int32, z = pj_fi G28 2 4 := ⟨_, rfl⟩
  have ey31 : (pj_fi G28 2 4).toInt = y31.toInt := by rw [hy31]
  have ry31 : (-1 : Int) ≤ y31.toInt ∧ y31.toInt ≤ 80 := by rw [hy31]; exact iG28.2.1 2 4 (-1, 80) rfl
  obtain ⟨y32, hy32⟩ : ∃ z : Int32, z = pj_fi G28 2 1 := ⟨_, rfl⟩
  have ey32 : (pj_fi G28 2 1).toInt = y32.toInt := by rw [hy32]
  have ry32 : (0 : Int) ≤ y32.toInt ∧ y32.toInt ≤ 80 := by rw [hy32]; exact iG28.2.1 2 1 (0, 80) rfl
  show pj_X _ _ G28 28 [(1, .int y17), (0, .ref 1)] [.int y27] _
  refine pj_X_of (fun r h => pj_R_to (G28, 31, [(2, .int y27), (1, .int y17), (0, .ref 1)], [.int (Int32.ofInt (-1)), .int y27], 0, 0) 31 4 (fun _ => rfl) h) ?_
  cases b33 : pj_c1 .eq y27 (Int32.ofInt (-1)) with
  | true =>
    have ub33 := pj_u_eqT b33
    refine pj_X_of (fun r h => pj_R_icT 39 rfl rfl b33 h) ?_
    refine pj_X_of (fun r h => pj_R_to (G28, 40, [(2, .int y27), (1, .int y17), (0, .ref 1)], [.ref 1], 0, 0) 40 2 (fun _ => rfl) h) ?_
    refine pj_X_of (fun r h => pj_T_gr iG28 rfl rfl rfl h) ?_
    refine pj_X_of (fun r h => pj_T_gr iG28 rfl rfl rfl h) ?_
    refine pj_X_of (fun r h => pj_R_to (G28, 47, [(2, .int y27), (1, .int y17), (0, .ref 1)], [.ref 21, .ref 21], 0, 0) 47 2 (fun _ => rfl) h) ?_
    refine pj_X_of (fun r h => pj_T_gi iG28 rfl rfl h) ?_
    show pj_X _ _ G28 50 [(2, .int y27), (1, .int y17), (0, .ref 1)] [.int (pj_fi G28 21 0), .ref 21] _
    refine pj_X_eqi (show pj_fi G28 21 0 = y30 from hy30.symm) ?_
    refine pj_X_of (fun r h => pj_R_to (G28, 52, [(2, .int y27), (1, .int y17), (0, .ref 1)], [.int (y30 + y17), .ref 21], 0, 0) 52 3 (fun _ => rfl) h) ?_
    obtain ⟨z34, hz34⟩ : ∃ z : Int32, z = y30 + y17 := ⟨_, rfl⟩
    refine pj_X_eqi hz34.symm ?_
    have fz34_0 : z34.toInt = y30.toInt + y17.toInt := by rw [hz34]; exact pj_addI (by have := pj_i32 y30; have := pj_i32 y17; omega) (by have := pj_i32 y30; have := pj_i32 y17; omega)
    refine pj_X_of (fun r h => pj_T_pf iG28 rfl rfl rfl h) ?_
    show pj_X _ _ (pj_wv G28 21 0 (.int z34)) 55 [(2, .int y27), (1, .int y17), (0, .ref 1)] [] _
    obtain ⟨G35, hG35⟩ : ∃ H, H = pj_wv G28 21 0 (.int z34) := ⟨_, rfl⟩
    have iG35 : pj_Inv G35 := by rw [hG35]; exact pj_Inv_wi iG28 (ci := 8) rfl (fun q hq => by cases hq; exact ⟨by show (0 : Int) ≤ _; omega, by show _ ≤ (6 : Int); omega⟩)
    have kG35 : pj_kpt kc_120t G0 G35 := by rw [hG35]; exact pj_kpt_v kG28 rfl
    rw [← hG35]
    refine pj_X_of (fun r h => pj_R_to (G35, 57, [(2, .int y27), (1, .int y17), (0, .ref 1)], [.int y17, .ref 1], 0, 0) 57 3 (fun _ => rfl) h) ?_
    cases b36 : pj_c1 .le y17 0 with
    | true =>
      have ub36 := pj_u0_leT b36
      refine pj_X_of (fun r h => pj_R_ifT 64 rfl rfl b36 h) ?_
      refine pj_X_of (fun r h => pj_R_to (G35, 65, [(2, .int y27), (1, .int y17), (0, .ref 1)], [.int (Int32.ofInt 0), .ref 1], 0, 0) 65 2 (fun _ => rfl) h) ?_
      have q37 : (pj_fi G35 21 0).toInt = z34.toInt := by rw [show pj_fi G35 21 0 = z34 from by rw [hG35]; exact pj_fi_wi iG28.1 (ci := 8) rfl _]
      have q38 : (pj_fi G35 2 4).toInt = y31.toInt := by rw [show pj_fi G35 2 4 = y31 from by rw [hG35, pj_fi_wv_ne _ _ _ _ _ _ (by decide)]; exact hy31.symm]
      have q39 : (pj_fi G35 2 1).toInt = y32.toInt := by rw [show pj_fi G35 2 1 = y32 from by rw [hG35, pj_fi_wv_ne _ _ _ _ _ _ (by decide)]; exact hy32.symm]
      refine pj_X_ca (vs := [.ref 1, .int (Int32.ofInt 0)]) rfl (fun _ => rfl) ⟨Nat.le_of_ble_eq_true rfl, Nat.le_of_ble_eq_true rfl, pj_T_rcv iG35 rfl⟩ ⟨rfl, rfl⟩ (pj_Y_up (by decide) (ct_161 G35 iG35 (Int32.ofInt 0) ⟨by omega, by omega⟩)) ?_
      rintro _ G41 ⟨rfl, iG41, jG41⟩
      have kG41 : pj_kpt kc_120t G0 G41 := pj_kpt_t kG35 (pj_kpt_s jG41 rfl)
      have q42 : (pj_fi G41 21 0).toInt = (pj_fi G35 21 0).toInt := by rw [jG41.1 (21, 0) (by decide)]
      have q43 : (pj_fi G41 2 4).toInt = (pj_fi G35 2 4).toInt := by rw [jG41.1 (2, 4) (by decide)]
      have q44 : (pj_fi G41 2 1).toInt = (pj_fi G35 2 1).toInt := by rw [jG41.1 (2, 1) (by decide)]
      obtain ⟨y45, hy45⟩ : ∃ z : Int32, z = pj_fi G41 21 0 := ⟨_, rfl⟩
      have ey45 : (pj_fi G41 21 0).toInt = y45.toInt := by rw [hy45]
      have ry45 : (0 : Int) ≤ y45.toInt ∧ y45.toInt ≤ 6 := by rw [hy45]; exact iG41.2.1 21 0 (0, 6) rfl
      obtain ⟨y46, hy46⟩ : ∃ z : Int32, z = pj_fi G41 2 4 := ⟨_, rfl⟩
      have ey46 : (pj_fi G41 2 4).toInt = y46.toInt := by rw [hy46]
      have ry46 : (-1 : Int) ≤ y46.toInt ∧ y46.toInt ≤ 80 := by rw [hy46]; exact iG41.2.1 2 4 (-1, 80) rfl
      obtain ⟨y47, hy47⟩ : ∃ z : Int32, z = pj_fi G41 2 1 := ⟨_, rfl⟩
      have ey47 : (pj_fi G41 2 1).toInt = y47.toInt := by rw [hy47]
      have ry47 : (0 : Int) ≤ y47.toInt ∧ y47.toInt ≤ 80 := by rw [hy47]; exact iG41.2.1 2 1 (0, 80) rfl
      show pj_X _ _ G41 68 [(2, .int y27), (1, .int y17), (0, .ref 1)] [] _
      refine pj_X_of (fun r h => pj_R_to (G41, 69, [(2, .int y27), (1, .int y17), (0, .ref 1)], [.int y17], 0, 0) 69 2 (fun _ => rfl) h) ?_
      have q48 : (pj_fi G41 21 0).toInt = y45.toInt := by rw [show pj_fi G41 21 0 = y45 from hy45.symm]
      have q49 : (pj_fi G41 2 4).toInt = y46.toInt := by rw [show pj_fi G41 2 4 = y46 from hy46.symm]
      have q50 : (pj_fi G41 2 1).toInt = y47.toInt := by rw [show pj_fi G41 2 1 = y47 from hy47.symm]
      exact pj_X_rt rfl rfl ⟨_, rfl, iG41, kG41, pj_i32 _, by omega⟩
    | false =>
      have ub36 := pj_u0_leF b36
      refine pj_X_of (fun r h => pj_R_ifF rfl b36 h) ?_
      refine pj_X_of (fun r h => pj_R_to (G35, 65, [(2, .int y27), (1, .int y17), (0, .ref 1)], [.int (Int32.ofInt 1), .ref 1], 0, 0) 65 3 (fun _ => rfl) h) ?_
      have q51 : (pj_fi G35 21 0).toInt = z34.toInt := by rw [show pj_fi G35 21 0 = z34 from by rw [hG35]; exact pj_fi_wi iG28.1 (ci := 8) rfl _]
      have q52 : (pj_fi G35 2 4).toInt = y31.toInt := by rw [show pj_fi G35 2 4 = y31 from by rw [hG35, pj_fi_wv_ne _ _ _ _ _ _ (by decide)]; exact hy31.symm]
      have q53 : (pj_fi G35 2 1).toInt = y32.toInt := by rw [show pj_fi G35 2 1 = y32 from by rw [hG35, pj_fi_wv_ne _ _ _ _ _ _ (by decide)]; exact hy32.symm]
      refine pj_X_ca (vs := [.ref 1, .int (Int32.ofInt 1)]) rfl (fun _ => rfl) ⟨Nat.le_of_ble_eq_true rfl, Nat.le_of_ble_eq_true rfl, pj_T_rcv iG35 rfl⟩ ⟨rfl, rfl⟩ (pj_Y_up (by decide) (ct_161 G35 iG35 (Int32.ofInt 1) ⟨by omega, by omega⟩)) ?_
      rintro _ G55 ⟨rfl, iG55, jG55⟩
      have kG55 : pj_kpt kc_120t G0 G55 := pj_kpt_t kG35 (pj_kpt_s jG55 rfl)
      have q56 : (pj_fi G55 21 0).toInt = (pj_fi G35 21 0).toInt := by rw [jG55.1 (21, 0) (by decide)]
      have q57 : (pj_fi G55 2 4).toInt = (pj_fi G35 2 4).toInt := by rw [jG55.1 (2, 4) (by decide)]
      have q58 : (pj_fi G55 2 1).toInt = (pj_fi G35 2 1).toInt := by rw [jG55.1 (2, 1) (by decide)]
      obtain ⟨y59, hy59⟩ : ∃ z : Int32, z = pj_fi G55 21 0 := ⟨_, rfl⟩
      have ey59 : (pj_fi G55 21 0).toInt = y59.toInt := by rw [hy59]
      have ry59 : (0 : Int) ≤ y59.toInt ∧ y59.toInt ≤ 6 := by rw [hy59]; exact iG55.2.1 21 0 (0, 6) rfl
      obtain ⟨y60, hy60⟩ : ∃ z : Int32, z = pj_fi G55 2 4 := ⟨_, rfl⟩
      have ey60 : (pj_fi G55 2 4).toInt = y60.toInt := by rw [hy60]
      have ry60 : (-1 : Int) ≤ y60.toInt ∧ y60.toInt ≤ 80 := by rw [hy60]; exact iG55.2.1 2 4 (-1, 80) rfl
      obtain ⟨y61, hy61⟩ : ∃ z : Int32, z = pj_fi G55 2 1 := ⟨_, rfl⟩
      have ey61 : (pj_fi G55 2 1).toInt = y61.toInt := by rw [hy61]
      have ry61 : (0 : Int) ≤ y61.toInt ∧ y61.toInt ≤ 80 := by rw [hy61]; exact iG55.2.1 2 1 (0, 80) rfl
      show pj_X _ _ G55 68 [(2, .int y27), (1, .int y17), (0, .ref 1)] [] _
      refine pj_X_of (fun r h => pj_R_to (G55, 69, [(2, .int y27), (1, .int y17), (0, .ref 1)], [.int y17], 0, 0) 69 2 (fun _ => rfl) h) ?_
      have q62 : (pj_fi G55 21 0).toInt = y59.toInt := by rw [show pj_fi G55 21 0 = y59 from hy59.symm]
      have q63 : (pj_fi G55 2 4).toInt = y60.toInt := by rw [show pj_fi G55 2 4 = y60 from hy60.symm]
      have q64 : (pj_fi G55 2 1).toInt = y61.toInt := by rw [show pj_fi G55 2 1 = y61 from hy61.symm]
      exact pj_X_rt rfl rfl ⟨_, rfl, iG55, kG55, pj_i32 _, by omega⟩
  | false =>
    have ub33 := pj_u_eqF b33
    refine pj_X_of (fun r h => pj_R_icF rfl b33 h) ?_
    refine pj_X_of (fun r h => pj_R_to (G28, 35, [(2, .int y27), (1, .int y17), (0, .ref 1)], [.int y27], 0, 0) 35 2 (fun _ => rfl) h) ?_
    have q65 : (pj_fi G28 21 0).toInt = y30.toInt := by rw [show pj_fi G28 21 0 = y30 from hy30.symm]
    have q66 : (pj_fi G28 2 4).toInt = y31.toInt := by rw [show pj_fi G28 2 4 = y31 from hy31.symm]
    have q67 : (pj_fi G28 2 1).toInt = y32.toInt := by rw [show pj_fi G28 2 1 = y32 from hy32.symm]
    refine pj_X_ca (vs := [.int y27]) rfl (fun _ => rfl) ⟨Nat.le_of_ble_eq_true rfl, Nat.le_of_ble_eq_true rfl, rfl⟩ ⟨rfl, rfl⟩ (pj_Y_up (by decide) (ct_162 G28 iG28 y27)) ?_
    rintro _ _ ⟨y68, rfl, rfl, ry68⟩
    show pj_X _ _ G28 38 [(2, .int y27), (1, .int y17), (0, .ref 1)] [.int y68] _
    have q69 : (pj_fi G28 21 0).toInt = y30.toInt := by rw [show pj_fi G28 21 0 = y30 from hy30.symm]
    have q70 : (pj_fi G28 2 4).toInt = y31.toInt := by rw [show pj_fi G28 2 4 = y31 from hy31.symm]
    have q71 : (pj_fi G28 2 1).toInt = y32.toInt := by rw [show pj_fi G28 2 1 = y32 from hy32.symm]
    exact pj_X_rt rfl rfl ⟨_, rfl, iG28, kG28, pj_i32 _, by omega⟩
def kc_121t : pj_KT := ([(2, 1), (2, 2), (2, 3), (2, 4), (21, 5), (53, 2)], [2, 21, 26, 32, 53], [26, 32])
theorem ct_121t (G0 : pj_G) (hI : pj_Inv G0) : pj_Y 5 121 [.ref 1] G0 (fun v G' => ∃ y : Int32, v = some (.int y) ∧ pj_Inv G' ∧ pj_kpt kc_121t G0 G' ∧ ((-2147483648 : Int) ≤ y.toInt ∧ y.toInt ≤ 2147483647) ∧ ((pj_fi G' 2 1).toInt = 0)) := by
  have c0_ : ((Int8.ofInt 17).toInt32).toInt = 17 := by decide
  have c1_ : (Int32.ofInt (-1)).toInt = -1 := by decide
  have c2_ : (Int32.ofInt 0).toInt = 0 := by decide
  have c3_ : (Int32.ofInt 1).toInt = 1 := by decide
  refine pj_Y_X (M := pj_m121) rfl rfl (Nat.le_of_ble_eq_true rfl) ?_
  have hK : pj_kpt kc_121t G0 G0 := pj_kpt_r _ _
  show pj_X _ _ G0 0 [(0, .ref 1)] [] _
  obtain ⟨y1, hy1⟩ : ∃ z : Int32, z = pj_fi G0 21 5 := ⟨_, rfl⟩
  have ey1 : (pj_fi G0 21 5).toInt = y1.toInt := by rw [hy1]
  have ry1 : (0 : Int) ≤ y1.toInt ∧ y1.toInt ≤ 6 := by rw [hy1]; exact hI.2.1 21 5 (0, 6) rfl
  obtain ⟨y2, hy2⟩ : ∃ z : Int32, z = pj_fi G0 2 4 := ⟨_, rfl⟩
  have ey2 : (pj_fi G0 2 4).toInt = y2.toInt := by rw [hy2]
  have ry2 : (-1 : Int) ≤ y2.toInt ∧ y2.toInt ≤ 80 := by rw [hy2]; exact hI.2.1 2 4 (-1, 80) rfl
  obtain ⟨y3, hy3⟩ : ∃ z : Int32, z = pj_fi G0 2 1 := ⟨_, rfl⟩
  have ey3 : (pj_fi G0 2 1).toInt = y3.toInt := by rw [hy3]
  have ry3 : (0 : Int) ≤ y3.toInt ∧ y3.toInt ≤ 80 := by rw [hy3]; exact hI.2.1 2 1 (0, 80) rfl
  refine pj_X_of (fun r h => pj_R_to (G0, 1, [(0, .ref 1)], [.ref 1], 0, 0) 1 2 (fun _ => rfl) h) ?_
  refine pj_X_of (fun r h => pj_T_gr hI rfl rfl rfl h) ?_
  refine pj_X_of (fun r h => pj_R_to (G0, 6, [(0, .ref 1)], [.int ((Int8.ofInt 17).toInt32), .ref 2], 0, 0) 6 2 (fun _ => rfl) h) ?_
  have q4 : (pj_fi G0 21 5).toInt = y1.toInt := by rw [show pj_fi G0 21 5 = y1 from hy1.symm]
  have q5 : (pj_fi G0 2 4).toInt = y2.toInt := by rw [show pj_fi G0 2 4 = y2 from hy2.symm]
  have q6 : (pj_fi G0 2 1).toInt = y3.toInt := by rw [show pj_fi G0 2 1 = y3 from hy3.symm]
  refine pj_X_ca (vs := [.ref 2, .int ((Int8.ofInt 17).toInt32)]) rfl (fun _ => rfl) ⟨Nat.le_of_ble_eq_true rfl, Nat.le_of_ble_eq_true rfl, pj_T_rcv hI rfl⟩ ⟨rfl, rfl⟩ (pj_Y_up (by decide) (ct_79 G0 hI ((Int8.ofInt 17).toInt32) ⟨by omega, by omega⟩)) ?_
  rintro _ G8 ⟨rfl, iG8, jG8⟩
  have kG8 : pj_kpt kc_121t G0 G8 := pj_kpt_t hK (pj_kpt_s jG8 rfl)
  have q9 : (pj_fi G8 21 5).toInt = (pj_fi G0 21 5).toInt := by rw [jG8.1 (21, 5) (by decide)]
  have q10 : (pj_fi G8 2 1).toInt = (pj_fi G0 2 1).toInt := by rw [jG8.1 (2, 1) (by decide)]
  obtain ⟨y11, hy11⟩ : ∃ z : Int32, z = pj_fi G8 21 5 := ⟨_, rfl⟩
  have ey11 : (pj_fi G8 21 5).toInt = y11.toInt := by rw [hy11]
  have ry11 : (0 : Int) ≤ y11.toInt ∧ y11.toInt ≤ 6 := by rw [hy11]; exact iG8.2.1 21 5 (0, 6) rfl
  obtain ⟨y12, hy12⟩ : ∃ z : Int32, z = pj_fi G8 2 4 := ⟨_, rfl⟩
  have ey12 : (pj_fi G8 2 4).toInt = y12.toInt := by rw [hy12]
  have ry12 : (-1 : Int) ≤ y12.toInt ∧ y12.toInt ≤ 80 := by rw [hy12]; exact iG8.2.1 2 4 (-1, 80) rfl
  obtain ⟨y13, hy13⟩ : ∃ z : Int32, z = pj_fi G8 2 1 := ⟨_, rfl⟩
  have ey13 : (pj_fi G8 2 1).toInt = y13.toInt := by rw [hy13]
  have ry13 : (0 : Int) ≤ y13.toInt ∧ y13.toInt ≤ 80 := by rw [hy13]; exact iG8.2.1 2 1 (0, 80) rfl
  show pj_X _ _ G8 9 [(0, .ref 1)] [] _
  refine pj_X_of (fun r h => pj_R_to (G8, 10, [(0, .ref 1)], [.ref 1], 0, 0) 10 2 (fun _ => rfl) h) ?_
  refine pj_X_of (fun r h => pj_T_gr iG8 rfl rfl rfl h) ?_
  refine pj_X_of (fun r h => pj_R_to (G8, 14, [(0, .ref 1)], [.ref 1, .ref 6], 0, 0) 14 2 (fun _ => rfl) h) ?_
  refine pj_X_of (fun r h => pj_T_gr iG8 rfl rfl rfl h) ?_
  have q14 : (pj_fi G8 21 5).toInt = y11.toInt := by rw [show pj_fi G8 21 5 = y11 from hy11.symm]
  have q15 : (pj_fi G8 2 4).toInt = y12.toInt := by rw [show pj_fi G8 2 4 = y12 from hy12.symm]
  have q16 : (pj_fi G8 2 1).toInt = y13.toInt := by rw [show pj_fi G8 2 1 = y13 from hy13.symm]
  refine pj_X_ca (vs := [.ref 6, .ref 2]) rfl (fun _ => rfl) ⟨Nat.le_of_ble_eq_true rfl, Nat.le_of_ble_eq_true rfl, pj_T_rcv iG8 rfl⟩ ⟨rfl, rfl⟩ (pj_Y_up (by decide) (ct_92 G8 iG8)) ?_
  rintro _ G18 ⟨y17, rfl, iG18, jG18, ry17, ey17⟩
  have kG18 : pj_kpt kc_121t G0 G18 := pj_kpt_t kG8 (pj_kpt_s jG18 rfl)
  have q19 : (pj_fi G18 21 5).toInt = (pj_fi G8 21 5).toInt := by rw [jG18.1 (21, 5) (by decide)]
  have q20 : (pj_fi G18 2 1).toInt = (pj_fi G8 2 1).toInt := by rw [jG18.1 (2, 1) (by decide)]
  obtain ⟨y21, hy21⟩ : ∃ z : Int32, z = pj_fi G18 21 5 := ⟨_, rfl⟩
  have ey21 : (pj_fi G18 21 5).toInt = y21.toInt := by rw [hy21]
  have ry21 : (0 : Int) ≤ y21.toInt ∧ y21.toInt ≤ 6 := by rw [hy21]; exact iG18.2.1 21 5 (0, 6) rfl
  obtain ⟨y22, hy22⟩ : ∃ z : Int32, z = pj_fi G18 2 4 := ⟨_, rfl⟩
  have ey22 : (pj_fi G18 2 4).toInt = y22.toInt := by rw [hy22]
  have ry22 : (-1 : Int) ≤ y22.toInt ∧ y22.toInt ≤ 80 := by rw [hy22]; exact iG18.2.1 2 4 (-1, 80) rfl
  obtain ⟨y23, hy23⟩ : ∃ z : Int32, z = pj_fi G18 2 1 := ⟨_, rfl⟩
  have ey23 : (pj_fi G18 2 1).toInt = y23.toInt := by rw [hy23]
  have ry23 : (0 : Int) ≤ y23.toInt ∧ y23.toInt ≤ 80 := by rw [hy23]; exact iG18.2.1 2 1 (0, 80) rfl
  show pj_X _ _ G18 20 [(0, .ref 1)] [.int y17] _
  refine pj_X_of (fun r h => pj_R_to (G18, 22, [(1, .int y17), (0, .ref 1)], [.ref 1], 0, 0) 22 3 (fun _ => rfl) h) ?_
  refine pj_X_of (fun r h => pj_T_gr iG18 rfl rfl rfl h) ?_
  have q24 : (pj_fi G18 21 5).toInt = y21.toInt := by rw [show pj_fi G18 21 5 = y21 from hy21.symm]
  have q25 : (pj_fi G18 2 4).toInt = y22.toInt := by rw [show pj_fi G18 2 4 = y22 from hy22.symm]
  have q26 : (pj_fi G18 2 1).toInt = y23.toInt := by rw [show pj_fi G18 2 1 = y23 from hy23.symm]
  refine pj_X_ca (vs := [.ref 2]) rfl (fun _ => rfl) ⟨Nat.le_of_ble_eq_true rfl, Nat.le_of_ble_eq_true rfl, pj_T_rcv iG18 rfl⟩ ⟨rfl, rfl⟩ (pj_Y_up (by decide) (ct_88t G18 iG18)) ?_
  rintro _ G28 ⟨y27, rfl, iG28, jG28, ry27, ey27⟩
  have kG28 : pj_kpt kc_121t G0 G28 := pj_kpt_t kG18 (pj_kpt_s jG28 rfl)
  have q29 : (pj_fi G28 21 5).toInt = (pj_fi G18 21 5).toInt := by rw [jG28.1 (21, 5) (by decide)]
  obtain ⟨y30, hy30⟩ : ∃ z : Int32, z = pj_fi G28 21 5 := ⟨_, rfl⟩
  have ey30 : (pj_fi G28 21 5).toInt = y30.toInt := by rw [hy30]
  have ry30 : (0 : Int) ≤ y30.toInt ∧ y30.toInt ≤ 6 := by rw [hy30]; exact iG28.2.1 21 5 (0, 6) rfl
  obtain ⟨y31, hy31⟩ : ∃ z : Int32, z = pj_fi G28 2 4 := ⟨_, rfl⟩
  have ey31 : (pj_fi G28 2 4).toInt = y31.toInt := by rw [hy31]
  have ry31 : (-1 : Int) ≤ y31.toInt ∧ y31.toInt ≤ 80 := by rw [hy31]; exact iG28.2.1 2 4 (-1, 80) rfl
  obtain ⟨y32, hy32⟩ : ∃ z : Int32, z = pj_fi G28 2 1 := ⟨_, rfl⟩
  have ey32 : (pj_fi G28 2 1).toInt = y32.toInt := by rw [hy32]
  have ry32 : (0 : Int) ≤ y32.toInt ∧ y32.toInt ≤ 80 := by rw [hy32]; exact iG28.2.1 2 1 (0, 80) rfl
  show pj_X _ _ G28 28 [(1, .int y17), (0, .ref 1)] [.int y27] _
  refine pj_X_of (fun r h => pj_R_to (G28, 31, [(2, .int y27), (1, .int y17), (0, .ref 1)], [.int (Int32.ofInt (-1)), .int y27], 0, 0) 31 4 (fun _ => rfl) h) ?_
  cases b33 : pj_c1 .eq y27 (Int32.ofInt (-1)) with
  | true =>
    have ub33 := pj_u_eqT b33
    refine pj_X_of (fun r h => pj_R_icT 39 rfl rfl b33 h) ?_
    refine pj_X_of (fun r h => pj_R_to (G28, 40, [(2, .int y27), (1, .int y17), (0, .ref 1)], [.ref 1], 0, 0) 40 2 (fun _ => rfl) h) ?_
    refine pj_X_of (fun r h => pj_T_gr iG28 rfl rfl rfl h) ?_
    refine pj_X_of (fun r h => pj_T_gr iG28 rfl rfl rfl h) ?_
    refine pj_X_of (fun r h => pj_R_to (G28, 47, [(2, .int y27), (1, .int y17), (0, .ref 1)], [.ref 21, .ref 21], 0, 0) 47 2 (fun _ => rfl) h) ?_
    refine pj_X_of (fun r h => pj_T_gi iG28 rfl rfl h) ?_
    show pj_X _ _ G28 50 [(2, .int y27), (1, .int y17), (0, .ref 1)] [.int (pj_fi G28 21 5), .ref 21] _
    refine pj_X_eqi (show pj_fi G28 21 5 = y30 from hy30.symm) ?_
    refine pj_X_of (fun r h => pj_R_to (G28, 52, [(2, .int y27), (1, .int y17), (0, .ref 1)], [.int (y30 + y17), .ref 21], 0, 0) 52 3 (fun _ => rfl) h) ?_
    obtain ⟨z34, hz34⟩ : ∃ z : Int32, z = y30 + y17 := ⟨_, rfl⟩
    refine pj_X_eqi hz34.symm ?_
    have fz34_0 : z34.toInt = y30.toInt + y17.toInt := by rw [hz34]; exact pj_addI (by have := pj_i32 y30; have := pj_i32 y17; omega) (by have := pj_i32 y30; have := pj_i32 y17; omega)
    refine pj_X_of (fun r h => pj_T_pf iG28 rfl rfl rfl h) ?_
    show pj_X _ _ (pj_wv G28 21 5 (.int z34)) 55 [(2, .int y27), (1, .int y17), (0, .ref 1)] [] _
    obtain ⟨G35, hG35⟩ : ∃ H, H = pj_wv G28 21 5 (.int z34) := ⟨_, rfl⟩
    have iG35 : pj_Inv G35 := by rw [hG35]; exact pj_Inv_wi iG28 (ci := 8) rfl (fun q hq => by cases hq; exact ⟨by show (0 : Int) ≤ _; omega, by show _ ≤ (6 : Int); omega⟩)
    have kG35 : pj_kpt kc_121t G0 G35 := by rw [hG35]; exact pj_kpt_v kG28 rfl
    rw [← hG35]
    refine pj_X_of (fun r h => pj_R_to (G35, 57, [(2, .int y27), (1, .int y17), (0, .ref 1)], [.int y17, .ref 1], 0, 0) 57 3 (fun _ => rfl) h) ?_
    cases b36 : pj_c1 .le y17 0 with
    | true =>
      have ub36 := pj_u0_leT b36
      refine pj_X_of (fun r h => pj_R_ifT 64 rfl rfl b36 h) ?_
      refine pj_X_of (fun r h => pj_R_to (G35, 65, [(2, .int y27), (1, .int y17), (0, .ref 1)], [.int (Int32.ofInt 0), .ref 1], 0, 0) 65 2 (fun _ => rfl) h) ?_
      have q37 : (pj_fi G35 21 5).toInt = z34.toInt := by rw [show pj_fi G35 21 5 = z34 from by rw [hG35]; exact pj_fi_wi iG28.1 (ci := 8) rfl _]
      have q38 : (pj_fi G35 2 4).toInt = y31.toInt := by rw [show pj_fi G35 2 4 = y31 from by rw [hG35, pj_fi_wv_ne _ _ _ _ _ _ (by decide)]; exact hy31.symm]
      have q39 : (pj_fi G35 2 1).toInt = y32.toInt := by rw [show pj_fi G35 2 1 = y32 from by rw [hG35, pj_fi_wv_ne _ _ _ _ _ _ (by decide)]; exact hy32.symm]
      refine pj_X_ca (vs := [.ref 1, .int (Int32.ofInt 0)]) rfl (fun _ => rfl) ⟨Nat.le_of_ble_eq_true rfl, Nat.le_of_ble_eq_true rfl, pj_T_rcv iG35 rfl⟩ ⟨rfl, rfl⟩ (pj_Y_up (by decide) (ct_161 G35 iG35 (Int32.ofInt 0) ⟨by omega, by omega⟩)) ?_
      rintro _ G41 ⟨rfl, iG41, jG41⟩
      have kG41 : pj_kpt kc_121t G0 G41 := pj_kpt_t kG35 (pj_kpt_s jG41 rfl)
      have q42 : (pj_fi G41 21 5).toInt = (pj_fi G35 21 5).toInt := by rw [jG41.1 (21, 5) (by decide)]
      have q43 : (pj_fi G41 2 4).toInt = (pj_fi G35 2 4).toInt := by rw [jG41.1 (2, 4) (by decide)]
      have q44 : (pj_fi G41 2 1).toInt = (pj_fi G35 2 1).toInt := by rw [jG41.1 (2, 1) (by decide)]
      obtain ⟨y45, hy45⟩ : ∃ z : Int32, z = pj_fi G41 21 5 := ⟨_, rfl⟩
      have ey45 : (pj_fi G41 21 5).toInt = y45.toInt := by rw [hy45]
      have ry45 : (0 : Int) ≤ y45.toInt ∧ y45.toInt ≤ 6 := by rw [hy45]; exact iG41.2.1 21 5 (0, 6) rfl
      obtain ⟨y46, hy46⟩ : ∃ z : Int32, z = pj_fi G41 2 4 := ⟨_, rfl⟩
      have ey46 : (pj_fi G41 2 4).toInt = y46.toInt := by rw [hy46]
      have ry46 : (-1 : Int) ≤ y46.toInt ∧ y46.toInt ≤ 80 := by rw [hy46]; exact iG41.2.1 2 4 (-1, 80) rfl
      obtain ⟨y47, hy47⟩ : ∃ z : Int32, z = pj_fi G41 2 1 := ⟨_, rfl⟩
      have ey47 : (pj_fi G41 2 1).toInt = y47.toInt := by rw [hy47]
      have ry47 : (0 : Int) ≤ y47.toInt ∧ y47.toInt ≤ 80 := by rw [hy47]; exact iG41.2.1 2 1 (0, 80) rfl
      show pj_X _ _ G41 68 [(2, .int y27), (1, .int y17), (0, .ref 1)] [] _
      refine pj_X_of (fun r h => pj_R_to (G41, 69, [(2, .int y27), (1, .int y17), (0, .ref 1)], [.int y17], 0, 0) 69 2 (fun _ => rfl) h) ?_
      have q48 : (pj_fi G41 21 5).toInt = y45.toInt := by rw [show pj_fi G41 21 5 = y45 from hy45.symm]
      have q49 : (pj_fi G41 2 4).toInt = y46.toInt := by rw [show pj_fi G41 2 4 = y46 from hy46.symm]
      have q50 : (pj_fi G41 2 1).toInt = y47.toInt := by rw [show pj_fi G41 2 1 = y47 from hy47.symm]
      exact pj_X_rt rfl rfl ⟨_, rfl, iG41, kG41, pj_i32 _, by omega⟩
    | false =>
      have ub36 := pj_u0_leF b36
      refine pj_X_of (fun r h => pj_R_ifF rfl b36 h) ?_
      refine pj_X_of (fun r h => pj_R_to (G35, 65, [(2, .int y27), (1, .int y17), (0, .ref 1)], [.int (Int32.ofInt 1), .ref 1], 0, 0) 65 3 (fun _ => rfl) h) ?_
      have q51 : (pj_fi G35 21 5).toInt = z34.toInt := by rw [show pj_fi G35 21 5 = z34 from by rw [hG35]; exact pj_fi_wi iG28.1 (ci := 8) rfl _]
      have q52 : (pj_fi G35 2 4).toInt = y31.toInt := by rw [show pj_fi G35 2 4 = y31 from by rw [hG35, pj_fi_wv_ne _ _ _ _ _ _ (by decide)]; exact hy31.symm]
      have q53 : (pj_fi G35 2 1).toInt = y32.toInt := by rw [show pj_fi G35 2 1 = y32 from by rw [hG35, pj_fi_wv_ne _ _ _ _ _ _ (by decide)]; exact hy32.symm]
      refine pj_X_ca (vs := [.ref 1, .int (Int32.ofInt 1)]) rfl (fun _ => rfl) ⟨Nat.le_of_ble_eq_true rfl, Nat.le_of_ble_eq_true rfl, pj_T_rcv iG35 rfl⟩ ⟨rfl, rfl⟩ (pj_Y_up (by decide) (ct_161 G35 iG35 (Int32.ofInt 1) ⟨by omega, by omega⟩)) ?_
      rintro _ G55 ⟨rfl, iG55, jG55⟩
      have kG55 : pj_kpt kc_121t G0 G55 := pj_kpt_t kG35 (pj_kpt_s jG55 rfl)
      have q56 : (pj_fi G55 21 5).toInt = (pj_fi G35 21 5).toInt := by rw [jG55.1 (21, 5) (by decide)]
      have q57 : (pj_fi G55 2 4).toInt = (pj_fi G35 2 4).toInt := by rw [jG55.1 (2, 4) (by decide)]
      have q58 : (pj_fi G55 2 1).toInt = (pj_fi G35 2 1).toInt := by rw [jG55.1 (2, 1) (by decide)]
      obtain ⟨y59, hy59⟩ : ∃ z : Int32, z = pj_fi G55 21 5 := ⟨_, rfl⟩
      have ey59 : (pj_fi G55 21 5).toInt = y59.toInt := by rw [hy59]
      have ry59 : (0 : Int) ≤ y59.toInt ∧ y59.toInt ≤ 6 := by rw [hy59]; exact iG55.2.1 21 5 (0, 6) rfl
      obtain ⟨y60, hy60⟩ : ∃ z : Int32, z = pj_fi G55 2 4 := ⟨_, rfl⟩
      have ey60 : (pj_fi G55 2 4).toInt = y60.toInt := by rw [hy60]
      have ry60 : (-1 : Int) ≤ y60.toInt ∧ y60.toInt ≤ 80 := by rw [hy60]; exact iG55.2.1 2 4 (-1, 80) rfl
      obtain ⟨y61, hy61⟩ : ∃ z : Int32, z = pj_fi G55 2 1 := ⟨_, rfl⟩
      have ey61 : (pj_fi G55 2 1).toInt = y61.toInt := by rw [hy61]
      have ry61 : (0 : Int) ≤ y61.toInt ∧ y61.toInt ≤ 80 := by rw [hy61]; exact iG55.2.1 2 1 (0, 80) rfl
      show pj_X _ _ G55 68 [(2, .int y27), (1, .int y17), (0, .ref 1)] [] _
      refine pj_X_of (fun r h => pj_R_to (G55, 69, [(2, .int y27), (1, .int y17), (0, .ref 1)], [.int y17], 0, 0) 69 2 (fun _ => rfl) h) ?_
      have q62 : (pj_fi G55 21 5).toInt = y59.toInt := by rw [show pj_fi G55 21 5 = y59 from hy59.symm]
      have q63 : (pj_fi G55 2 4).toInt = y60.toInt := by rw [show pj_fi G55 2 4 = y60 from hy60.symm]
      have q64 : (pj_fi G55 2 1).toInt = y61.toInt := by rw [show pj_fi G55 2 1 = y61 from hy61.symm]
      exact pj_X_rt rfl rfl ⟨_, rfl, iG55, kG55, pj_i32 _, by omega⟩
  | false =>
    have ub33 := pj_u_eqF b33
    refine pj_X_of (fun r h => pj_R_icF rfl b33 h) ?_
    refine pj_X_of (fun r h => pj_R_to (G28, 35, [(2, .int y27), (1, .int y17), (0, .ref 1)], [.int y27], 0, 0) 35 2 (fun _ => rfl) h) ?_
    have q65 : (pj_fi G28 21 5).toInt = y30.toInt := by rw [show pj_fi G28 21 5 = y30 from hy30.symm]
    have q66 : (pj_fi G28 2 4).toInt = y31.toInt := by rw [show pj_fi G28 2 4 = y31 from hy31.symm]
    have q67 : (pj_fi G28 2 1).toInt = y32.toInt := by rw [show pj_fi G28 2 1 = y32 from hy32.symm]
    refine pj_X_ca (vs := [.int y27]) rfl (fun _ => rfl) ⟨Nat.le_of_ble_eq_true rfl, Nat.le_of_ble_eq_true rfl, rfl⟩ ⟨rfl, rfl⟩ (pj_Y_up (by decide) (ct_162 G28 iG28 y27)) ?_
    rintro _ _ ⟨y68, rfl, rfl, ry68⟩
    show pj_X _ _ G28 38 [(2, .int y27), (1, .int y17), (0, .ref 1)] [.int y68] _
    have q69 : (pj_fi G28 21 5).toInt = y30.toInt := by rw [show pj_fi G28 21 5 = y30 from hy30.symm]
    have q70 : (pj_fi G28 2 4).toInt = y31.toInt := by rw [show pj_fi G28 2 4 = y31 from hy31.symm]
    have q71 : (pj_fi G28 2 1).toInt = y32.toInt := by rw [show pj_fi G28 2 1 = y32 from hy32.symm]
    exact pj_X_rt rfl rfl ⟨_, rfl, iG28, kG28, pj_i32 _, by omega⟩
def kc_142t : pj_KT := ([(2, 1), (2, 2), (2, 3), (2, 4), (4, 1), (34, 2)], [2, 4, 5, 34, 35, 36, 37], [35, 36, 37])
theorem ct_142t (G0 : pj_G) (hI : pj_Inv G0) : pj_Y 6 142 [.ref 1] G0 (fun v G' => ∃ y : Int32, v = some (.int y) ∧ pj_Inv G' ∧ pj_kpt kc_142t G0 G' ∧ ((-2147483648 : Int) ≤ y.toInt ∧ y.toInt ≤ 2147483647) ∧ ((pj_fi G' 2 1).toInt = 0)) := by
  have c0_ : ((Int8.ofInt 80).toInt32).toInt = 80 := by decide
  have c1_ : (Int32.ofInt (-1)).toInt = -1 := by decide
  refine pj_Y_X (M := pj_m142) rfl rfl (Nat.le_of_ble_eq_true rfl) ?_
  have hK : pj_kpt kc_142t G0 G0 := pj_kpt_r _ _
  show pj_X _ _ G0 0 [(0, .ref 1)] [] _
  obtain ⟨y1, hy1⟩ : ∃ z : Int32, z = pj_fi G0 2 1 := ⟨_, rfl⟩
  have ey1 : (pj_fi G0 2 1).toInt = y1.toInt := by rw [hy1]
  have ry1 : (0 : Int) ≤ y1.toInt ∧ y1.toInt ≤ 80 := by rw [hy1]; exact hI.2.1 2 1 (0, 80) rfl
  refine pj_X_of (fun r h => pj_R_to (G0, 1, [(0, .ref 1)], [.ref 1], 0, 0) 1 2 (fun _ => rfl) h) ?_
  refine pj_X_of (fun r h => pj_T_gr hI rfl rfl rfl h) ?_
  refine pj_X_of (fun r h => pj_R_to (G0, 6, [(0, .ref 1)], [.int ((Int8.ofInt 80).toInt32), .ref 2], 0, 0) 6 2 (fun _ => rfl) h) ?_
  have q2 : (pj_fi G0 2 1).toInt = y1.toInt := by rw [show pj_fi G0 2 1 = y1 from hy1.symm]
  refine pj_X_ca (vs := [.ref 2, .int ((Int8.ofInt 80).toInt32)]) rfl (fun _ => rfl) ⟨Nat.le_of_ble_eq_true rfl, Nat.le_of_ble_eq_true rfl, pj_T_rcv hI rfl⟩ ⟨rfl, rfl⟩ (pj_Y_up (by decide) (ct_79 G0 hI ((Int8.ofInt 80).toInt32) ⟨by omega, by omega⟩)) ?_
  rintro _ G4 ⟨rfl, iG4, jG4⟩
  have kG4 : pj_kpt kc_142t G0 G4 := pj_kpt_t hK (pj_kpt_s jG4 rfl)
  have q5 : (pj_fi G4 2 1).toInt = (pj_fi G0 2 1).toInt := by rw [jG4.1 (2, 1) (by decide)]
  obtain ⟨y6, hy6⟩ : ∃ z : Int32, z = pj_fi G4 2 1 := ⟨_, rfl⟩
  have ey6 : (pj_fi G4 2 1).toInt = y6.toInt := by rw [hy6]
  have ry6 : (0 : Int) ≤ y6.toInt ∧ y6.toInt ≤ 80 := by rw [hy6]; exact iG4.2.1 2 1 (0, 80) rfl
  show pj_X _ _ G4 9 [(0, .ref 1)] [] _
  refine pj_X_of (fun r h => pj_R_to (G4, 10, [(0, .ref 1)], [.ref 1], 0, 0) 10 2 (fun _ => rfl) h) ?_
  refine pj_X_of (fun r h => pj_T_gr iG4 rfl rfl rfl h) ?_
  refine pj_X_of (fun r h => pj_R_to (G4, 14, [(0, .ref 1)], [.ref 1, .ref 34], 0, 0) 14 2 (fun _ => rfl) h) ?_
  refine pj_X_of (fun r h => pj_T_gr iG4 rfl rfl rfl h) ?_
  have q7 : (pj_fi G4 2 1).toInt = y6.toInt := by rw [show pj_fi G4 2 1 = y6 from hy6.symm]
  refine pj_X_ca (vs := [.ref 34, .ref 2]) rfl (fun _ => rfl) ⟨Nat.le_of_ble_eq_true rfl, Nat.le_of_ble_eq_true rfl, pj_T_rcv iG4 rfl⟩ ⟨rfl, rfl⟩ (pj_Y_up (by decide) (ct_28 G4 iG4)) ?_
  rintro _ G9 ⟨rfl, iG9, jG9⟩
  have kG9 : pj_kpt kc_142t G0 G9 := pj_kpt_t kG4 (pj_kpt_s jG9 rfl)
  have q10 : (pj_fi G9 2 1).toInt = (pj_fi G4 2 1).toInt := by rw [jG9.1 (2, 1) (by decide)]
  obtain ⟨y11, hy11⟩ : ∃ z : Int32, z = pj_fi G9 2 1 := ⟨_, rfl⟩
  have ey11 : (pj_fi G9 2 1).toInt = y11.toInt := by rw [hy11]
  have ry11 : (0 : Int) ≤ y11.toInt ∧ y11.toInt ≤ 80 := by rw [hy11]; exact iG9.2.1 2 1 (0, 80) rfl
  show pj_X _ _ G9 20 [(0, .ref 1)] [] _
  refine pj_X_of (fun r h => pj_R_to (G9, 21, [(0, .ref 1)], [.ref 1], 0, 0) 21 2 (fun _ => rfl) h) ?_
  refine pj_X_of (fun r h => pj_T_gr iG9 rfl rfl rfl h) ?_
  have q12 : (pj_fi G9 2 1).toInt = y11.toInt := by rw [show pj_fi G9 2 1 = y11 from hy11.symm]
  refine pj_X_ca (vs := [.ref 2]) rfl (fun _ => rfl) ⟨Nat.le_of_ble_eq_true rfl, Nat.le_of_ble_eq_true rfl, pj_T_rcv iG9 rfl⟩ ⟨rfl, rfl⟩ (pj_Y_up (by decide) (ct_88t G9 iG9)) ?_
  rintro _ G14 ⟨y13, rfl, iG14, jG14, ry13, ey13⟩
  have kG14 : pj_kpt kc_142t G0 G14 := pj_kpt_t kG9 (pj_kpt_s jG14 rfl)
  obtain ⟨y15, hy15⟩ : ∃ z : Int32, z = pj_fi G14 2 1 := ⟨_, rfl⟩
  have ey15 : (pj_fi G14 2 1).toInt = y15.toInt := by rw [hy15]
  have ry15 : (0 : Int) ≤ y15.toInt ∧ y15.toInt ≤ 80 := by rw [hy15]; exact iG14.2.1 2 1 (0, 80) rfl
  show pj_X _ _ G14 27 [(0, .ref 1)] [.int y13] _
  refine pj_X_of (fun r h => pj_R_to (G14, 30, [(1, .int y13), (0, .ref 1)], [.int (Int32.ofInt (-1)), .int y13], 0, 0) 30 4 (fun _ => rfl) h) ?_
  cases b16 : pj_c1 .eq y13 (Int32.ofInt (-1)) with
  | true =>
    have ub16 := pj_u_eqT b16
    refine pj_X_of (fun r h => pj_R_icT 38 rfl rfl b16 h) ?_
    refine pj_X_of (fun r h => pj_R_to (G14, 39, [(1, .int y13), (0, .ref 1)], [.ref 1], 0, 0) 39 2 (fun _ => rfl) h) ?_
    refine pj_X_of (fun r h => pj_T_gr iG14 rfl rfl rfl h) ?_
    refine pj_X_of (fun r h => pj_R_to (G14, 43, [(1, .int y13), (0, .ref 1)], [.ref 1, .ref 34], 0, 0) 43 2 (fun _ => rfl) h) ?_
    refine pj_X_of (fun r h => pj_T_gr iG14 rfl rfl rfl h) ?_
    have q17 : (pj_fi G14 2 1).toInt = y15.toInt := by rw [show pj_fi G14 2 1 = y15 from hy15.symm]
    refine pj_X_ca (vs := [.ref 34, .ref 4]) rfl (fun _ => rfl) ⟨Nat.le_of_ble_eq_true rfl, Nat.le_of_ble_eq_true rfl, pj_T_rcv iG14 rfl⟩ ⟨rfl, rfl⟩ (pj_Y_up (by decide) (ct_30 G14 iG14)) ?_
    rintro _ G19 ⟨y18, rfl, iG19, jG19, ry18⟩
    have kG19 : pj_kpt kc_142t G0 G19 := pj_kpt_t kG14 (pj_kpt_s jG19 rfl)
    have q20 : (pj_fi G19 2 1).toInt = (pj_fi G14 2 1).toInt := by rw [jG19.1 (2, 1) (by decide)]
    obtain ⟨y21, hy21⟩ : ∃ z : Int32, z = pj_fi G19 2 1 := ⟨_, rfl⟩
    have ey21 : (pj_fi G19 2 1).toInt = y21.toInt := by rw [hy21]
    have ry21 : (0 : Int) ≤ y21.toInt ∧ y21.toInt ≤ 80 := by rw [hy21]; exact iG19.2.1 2 1 (0, 80) rfl
    show pj_X _ _ G19 49 [(1, .int y13), (0, .ref 1)] [.int y18] _
    have q22 : (pj_fi G19 2 1).toInt = y21.toInt := by rw [show pj_fi G19 2 1 = y21 from hy21.symm]
    exact pj_X_rt rfl rfl ⟨_, rfl, iG19, kG19, pj_i32 _, by omega⟩
  | false =>
    have ub16 := pj_u_eqF b16
    refine pj_X_of (fun r h => pj_R_icF rfl b16 h) ?_
    refine pj_X_of (fun r h => pj_R_to (G14, 34, [(1, .int y13), (0, .ref 1)], [.int y13], 0, 0) 34 2 (fun _ => rfl) h) ?_
    have q23 : (pj_fi G14 2 1).toInt = y15.toInt := by rw [show pj_fi G14 2 1 = y15 from hy15.symm]
    refine pj_X_ca (vs := [.int y13]) rfl (fun _ => rfl) ⟨Nat.le_of_ble_eq_true rfl, Nat.le_of_ble_eq_true rfl, rfl⟩ ⟨rfl, rfl⟩ (pj_Y_up (by decide) (ct_162 G14 iG14 y13)) ?_
    rintro _ _ ⟨y24, rfl, rfl, ry24⟩
    show pj_X _ _ G14 37 [(1, .int y13), (0, .ref 1)] [.int y24] _
    have q25 : (pj_fi G14 2 1).toInt = y15.toInt := by rw [show pj_fi G14 2 1 = y15 from hy15.symm]
    exact pj_X_rt rfl rfl ⟨_, rfl, iG14, kG14, pj_i32 _, by omega⟩
def kc_122t : pj_KT := ([(2, 1), (2, 2), (2, 3), (2, 4), (27, 0), (27, 1), (27, 2), (27, 3)], [2, 27, 28, 29], [28, 29])
theorem ct_122t (G0 : pj_G) (hI : pj_Inv G0) : pj_Y 61 122 [.ref 1] G0 (fun v G' => ∃ y : Int32, v = some (.int y) ∧ pj_Inv G' ∧ pj_kpt kc_122t G0 G' ∧ ((-2147483648 : Int) ≤ y.toInt ∧ y.toInt ≤ 2147483647) ∧ ((pj_fi G' 2 1).toInt = 0)) := by
  have c0_ : ((Int8.ofInt 40).toInt32).toInt = 40 := by decide
  have c1_ : (Int32.ofInt (-1)).toInt = -1 := by decide
  have c2_ : (Int32.ofInt 0).toInt = 0 := by decide
  refine pj_Y_X (M := pj_m122) rfl rfl (Nat.le_of_ble_eq_true rfl) ?_
  have hK : pj_kpt kc_122t G0 G0 := pj_kpt_r _ _
  show pj_X _ _ G0 0 [(0, .ref 1)] [] _
  obtain ⟨y1, hy1⟩ : ∃ z : Int32, z = pj_fi G0 2 1 := ⟨_, rfl⟩
  have ey1 : (pj_fi G0 2 1).toInt = y1.toInt := by rw [hy1]
  have ry1 : (0 : Int) ≤ y1.toInt ∧ y1.toInt ≤ 80 := by rw [hy1]; exact hI.2.1 2 1 (0, 80) rfl
  refine pj_X_of (fun r h => pj_R_to (G0, 1, [(0, .ref 1)], [.ref 1], 0, 0) 1 2 (fun _ => rfl) h) ?_
  refine pj_X_of (fun r h => pj_T_gr hI rfl rfl rfl h) ?_
  refine pj_X_of (fun r h => pj_R_to (G0, 6, [(0, .ref 1)], [.int ((Int8.ofInt 40).toInt32), .ref 2], 0, 0) 6 2 (fun _ => rfl) h) ?_
  have q2 : (pj_fi G0 2 1).toInt = y1.toInt := by rw [show pj_fi G0 2 1 = y1 from hy1.symm]
  refine pj_X_ca (vs := [.ref 2, .int ((Int8.ofInt 40).toInt32)]) rfl (fun _ => rfl) ⟨Nat.le_of_ble_eq_true rfl, Nat.le_of_ble_eq_true rfl, pj_T_rcv hI rfl⟩ ⟨rfl, rfl⟩ (pj_Y_up (by decide) (ct_79 G0 hI ((Int8.ofInt 40).toInt32) ⟨by omega, by omega⟩)) ?_
  rintro _ G4 ⟨rfl, iG4, jG4⟩
  have kG4 : pj_kpt kc_122t G0 G4 := pj_kpt_t hK (pj_kpt_s jG4 rfl)
  have q5 : (pj_fi G4 2 1).toInt = (pj_fi G0 2 1).toInt := by rw [jG4.1 (2, 1) (by decide)]
  obtain ⟨y6, hy6⟩ : ∃ z : Int32, z = pj_fi G4 2 1 := ⟨_, rfl⟩
  have ey6 : (pj_fi G4 2 1).toInt = y6.toInt := by rw [hy6]
  have ry6 : (0 : Int) ≤ y6.toInt ∧ y6.toInt ≤ 80 := by rw [hy6]; exact iG4.2.1 2 1 (0, 80) rfl
  show pj_X _ _ G4 9 [(0, .ref 1)] [] _
  refine pj_X_of (fun r h => pj_R_to (G4, 10, [(0, .ref 1)], [.ref 1], 0, 0) 10 2 (fun _ => rfl) h) ?_
  refine pj_X_of (fun r h => pj_T_gr iG4 rfl rfl rfl h) ?_
  refine pj_X_of (fun r h => pj_T_gr iG4 rfl rfl rfl h) ?_
  refine pj_X_of (fun r h => pj_R_to (G4, 17, [(0, .ref 1)], [.ref 1, .ref 27], 0, 0) 17 2 (fun _ => rfl) h) ?_
  refine pj_X_of (fun r h => pj_T_gr iG4 rfl rfl rfl h) ?_
  have q7 : (pj_fi G4 2 1).toInt = y6.toInt := by rw [show pj_fi G4 2 1 = y6 from hy6.symm]
  refine pj_X_ca (vs := [.ref 27, .ref 2]) rfl (fun _ => rfl) ⟨Nat.le_of_ble_eq_true rfl, Nat.le_of_ble_eq_true rfl, pj_T_rcv iG4 rfl⟩ ⟨rfl, rfl⟩ (pj_Y_up (by decide) (ct_58 G4 iG4)) ?_
  rintro _ G9 ⟨rfl, iG9, jG9⟩
  have kG9 : pj_kpt kc_122t G0 G9 := pj_kpt_t kG4 (pj_kpt_s jG9 rfl)
  have q10 : (pj_fi G9 2 1).toInt = (pj_fi G4 2 1).toInt := by rw [jG9.1 (2, 1) (by decide)]
  obtain ⟨y11, hy11⟩ : ∃ z : Int32, z = pj_fi G9 2 1 := ⟨_, rfl⟩
  have ey11 : (pj_fi G9 2 1).toInt = y11.toInt := by rw [hy11]
  have ry11 : (0 : Int) ≤ y11.toInt ∧ y11.toInt ≤ 80 := by rw [hy11]; exact iG9.2.1 2 1 (0, 80) rfl
  show pj_X _ _ G9 23 [(0, .ref 1)] [] _
  refine pj_X_of (fun r h => pj_R_to (G9, 24, [(0, .ref 1)], [.ref 1], 0, 0) 24 2 (fun _ => rfl) h) ?_
  refine pj_X_of (fun r h => pj_T_gr iG9 rfl rfl rfl h) ?_
  have q12 : (pj_fi G9 2 1).toInt = y11.toInt := by rw [show pj_fi G9 2 1 = y11 from hy11.symm]
  refine pj_X_ca (vs := [.ref 2]) rfl (fun _ => rfl) ⟨Nat.le_of_ble_eq_true rfl, Nat.le_of_ble_eq_true rfl, pj_T_rcv iG9 rfl⟩ ⟨rfl, rfl⟩ (pj_Y_up (by decide) (ct_88t G9 iG9)) ?_
  rintro _ G14 ⟨y13, rfl, iG14, jG14, ry13, ey13⟩
  have kG14 : pj_kpt kc_122t G0 G14 := pj_kpt_t kG9 (pj_kpt_s jG14 rfl)
  obtain ⟨y15, hy15⟩ : ∃ z : Int32, z = pj_fi G14 2 1 := ⟨_, rfl⟩
  have ey15 : (pj_fi G14 2 1).toInt = y15.toInt := by rw [hy15]
  have ry15 : (0 : Int) ≤ y15.toInt ∧ y15.toInt ≤ 80 := by rw [hy15]; exact iG14.2.1 2 1 (0, 80) rfl
  show pj_X _ _ G14 30 [(0, .ref 1)] [.int y13] _
  refine pj_X_of (fun r h => pj_R_to (G14, 33, [(1, .int y13), (0, .ref 1)], [.int (Int32.ofInt (-1)), .int y13], 0, 0) 33 4 (fun _ => rfl) h) ?_
  cases b16 : pj_c1 .eq y13 (Int32.ofInt (-1)) with
  | true =>
    have ub16 := pj_u_eqT b16
    refine pj_X_of (fun r h => pj_R_icT 41 rfl rfl b16 h) ?_
    refine pj_X_of (fun r h => pj_R_to (G14, 42, [(1, .int y13), (0, .ref 1)], [.ref 1], 0, 0) 42 2 (fun _ => rfl) h) ?_
    refine pj_X_of (fun r h => pj_T_gr iG14 rfl rfl rfl h) ?_
    refine pj_X_of (fun r h => pj_T_gr iG14 rfl rfl rfl h) ?_
    have q17 : (pj_fi G14 2 1).toInt = y15.toInt := by rw [show pj_fi G14 2 1 = y15 from hy15.symm]
    refine pj_X_ca (vs := [.ref 27]) rfl (fun _ => rfl) ⟨Nat.le_of_ble_eq_true rfl, Nat.le_of_ble_eq_true rfl, pj_T_rcv iG14 rfl⟩ ⟨rfl, rfl⟩ (pj_Y_up (by decide) (ct_59 G14 iG14)) ?_
    rintro _ G19 ⟨rfl, iG19, jG19⟩
    have kG19 : pj_kpt kc_122t G0 G19 := pj_kpt_t kG14 (pj_kpt_s jG19 rfl)
    have q20 : (pj_fi G19 2 1).toInt = (pj_fi G14 2 1).toInt := by rw [jG19.1 (2, 1) (by decide)]
    obtain ⟨y21, hy21⟩ : ∃ z : Int32, z = pj_fi G19 2 1 := ⟨_, rfl⟩
    have ey21 : (pj_fi G19 2 1).toInt = y21.toInt := by rw [hy21]
    have ry21 : (0 : Int) ≤ y21.toInt ∧ y21.toInt ≤ 80 := by rw [hy21]; exact iG19.2.1 2 1 (0, 80) rfl
    show pj_X _ _ G19 51 [(1, .int y13), (0, .ref 1)] [] _
    refine pj_X_of (fun r h => pj_R_to (G19, 52, [(1, .int y13), (0, .ref 1)], [.int (Int32.ofInt 0)], 0, 0) 52 2 (fun _ => rfl) h) ?_
    have q22 : (pj_fi G19 2 1).toInt = y21.toInt := by rw [show pj_fi G19 2 1 = y21 from hy21.symm]
    exact pj_X_rt rfl rfl ⟨_, rfl, iG19, kG19, pj_i32 _, by omega⟩
  | false =>
    have ub16 := pj_u_eqF b16
    refine pj_X_of (fun r h => pj_R_icF rfl b16 h) ?_
    refine pj_X_of (fun r h => pj_R_to (G14, 37, [(1, .int y13), (0, .ref 1)], [.int y13], 0, 0) 37 2 (fun _ => rfl) h) ?_
    have q23 : (pj_fi G14 2 1).toInt = y15.toInt := by rw [show pj_fi G14 2 1 = y15 from hy15.symm]
    refine pj_X_ca (vs := [.int y13]) rfl (fun _ => rfl) ⟨Nat.le_of_ble_eq_true rfl, Nat.le_of_ble_eq_true rfl, rfl⟩ ⟨rfl, rfl⟩ (pj_Y_up (by decide) (ct_162 G14 iG14 y13)) ?_
    rintro _ _ ⟨y24, rfl, rfl, ry24⟩
    show pj_X _ _ G14 40 [(1, .int y13), (0, .ref 1)] [.int y24] _
    have q25 : (pj_fi G14 2 1).toInt = y15.toInt := by rw [show pj_fi G14 2 1 = y15 from hy15.symm]
    exact pj_X_rt rfl rfl ⟨_, rfl, iG14, kG14, pj_i32 _, by omega⟩
def kc_132t : pj_KT := ([(2, 1), (2, 2), (2, 3), (2, 4), (4, 1), (6, 7), (6, 8), (21, 7), (21, 8), (49, 3), (53, 1), (53, 2), (57, 0), (57, 5), (57, 7), (57, 8), (63, 0), (63, 5), (63, 7), (63, 8), (69, 0), (69, 5), (69, 7), (69, 8), (75, 0), (75, 5), (75, 7), (75, 8), (81, 0), (81, 5), (81, 7), (81, 8), (87, 0), (87, 5), (87, 7), (87, 8), (93, 0), (93, 5), (93, 7), (93, 8), (99, 0), (99, 5), (99, 7), (99, 8), (105, 0), (105, 5), (105, 7), (105, 8), (111, 0), (111, 5), (111, 7), (111, 8), (117, 0), (117, 5), (117, 7), (117, 8), (123, 0), (123, 5), (123, 7), (123, 8), (129, 0), (129, 5), (129, 7), (129, 8), (135, 0), (135, 5), (135, 7), (135, 8), (141, 0), (141, 5), (141, 7), (141, 8), (147, 0), (147, 5), (147, 7), (147, 8)], [2, 4, 5, 6, 21, 22, 23, 24, 25, 26, 30, 33, 49, 50, 51, 52, 53, 57, 58, 59, 60, 61, 62, 63, 64, 65, 66, 67, 68, 69, 70, 71, 72, 73, 74, 75, 76, 77, 78, 79, 80, 81, 82, 83, 84, 85, 86, 87, 88, 89, 90, 91, 92, 93, 94, 95, 96, 97, 98, 99, 100, 101, 102, 103, 104, 105, 106, 107, 108, 109, 110, 111, 112, 113, 114, 115, 116, 117, 118, 119, 120, 121, 122, 123, 124, 125, 126, 127, 128, 129, 130, 131, 132, 133, 134, 135, 136, 137, 138, 139, 140, 141, 142, 143, 144, 145, 146, 147, 148, 149, 150, 151, 152], [22, 23, 24, 25, 26, 30, 33, 50, 51, 52, 58, 59, 60, 61, 62, 64, 65, 66, 67, 68, 70, 71, 72, 73, 74, 76, 77, 78, 79, 80, 82, 83, 84, 85, 86, 88, 89, 90, 91, 92, 94, 95, 96, 97, 98, 100, 101, 102, 103, 104, 106, 107, 108, 109, 110, 112, 113, 114, 115, 116, 118, 119, 120, 121, 122, 124, 125, 126, 127, 128, 130, 131, 132, 133, 134, 136, 137, 138, 139, 140, 142, 143, 144, 145, 146, 148, 149, 150, 151, 152])
theorem ct_132t (G0 : pj_G) (hI : pj_Inv G0) : pj_Y 61 132 [.ref 1] G0 (fun v G' => ∃ y : Int32, v = some (.int y) ∧ pj_Inv G' ∧ pj_kpt kc_132t G0 G' ∧ ((-2147483648 : Int) ≤ y.toInt ∧ y.toInt ≤ 2147483647) ∧ ((pj_fi G' 2 1).toInt = 0)) := by
  have c0_ : ((Int8.ofInt 60).toInt32).toInt = 60 := by decide
  have c1_ : (Int32.ofInt (-1)).toInt = -1 := by decide
  have c2_ : (Int32.ofInt 0).toInt = 0 := by decide
  have c3_ : (Int32.ofInt 1).toInt = 1 := by decide
  refine pj_Y_X (M := pj_m132) rfl rfl (Nat.le_of_ble_eq_true rfl) ?_
  have hK : pj_kpt kc_132t G0 G0 := pj_kpt_r _ _
  show pj_X _ _ G0 0 [(0, .ref 1)] [] _
  obtain ⟨y1, hy1⟩ : ∃ z : Int32, z = pj_fi G0 2 1 := ⟨_, rfl⟩
  have ey1 : (pj_fi G0 2 1).toInt = y1.toInt := by rw [hy1]
  have ry1 : (0 : Int) ≤ y1.toInt ∧ y1.toInt ≤ 80 := by rw [hy1]; exact hI.2.1 2 1 (0, 80) rfl
  refine pj_X_of (fun r h => pj_R_to (G0, 1, [(0, .ref 1)], [.ref 1], 0, 0) 1 2 (fun _ => rfl) h) ?_
  refine pj_X_of (fun r h => pj_T_gr hI rfl rfl rfl h) ?_
  refine pj_X_of (fun r h => pj_R_to (G0, 6, [(0, .ref 1)], [.int ((Int8.ofInt 60).toInt32), .ref 2], 0, 0) 6 2 (fun _ => rfl) h) ?_
  have q2 : (pj_fi G0 2 1).toInt = y1.toInt := by rw [show pj_fi G0 2 1 = y1 from hy1.symm]
  refine pj_X_ca (vs := [.ref 2, .int ((Int8.ofInt 60).toInt32)]) rfl (fun _ => rfl) ⟨Nat.le_of_ble_eq_true rfl, Nat.le_of_ble_eq_true rfl, pj_T_rcv hI rfl⟩ ⟨rfl, rfl⟩ (pj_Y_up (by decide) (ct_79 G0 hI ((Int8.ofInt 60).toInt32) ⟨by omega, by omega⟩)) ?_
  rintro _ G4 ⟨rfl, iG4, jG4⟩
  have kG4 : pj_kpt kc_132t G0 G4 := pj_kpt_t hK (pj_kpt_s jG4 rfl)
  have q5 : (pj_fi G4 2 1).toInt = (pj_fi G0 2 1).toInt := by rw [jG4.1 (2, 1) (by decide)]
  obtain ⟨y6, hy6⟩ : ∃ z : Int32, z = pj_fi G4 2 1 := ⟨_, rfl⟩
  have ey6 : (pj_fi G4 2 1).toInt = y6.toInt := by rw [hy6]
  have ry6 : (0 : Int) ≤ y6.toInt ∧ y6.toInt ≤ 80 := by rw [hy6]; exact iG4.2.1 2 1 (0, 80) rfl
  show pj_X _ _ G4 9 [(0, .ref 1)] [] _
  refine pj_X_of (fun r h => pj_R_to (G4, 10, [(0, .ref 1)], [.ref 1], 0, 0) 10 2 (fun _ => rfl) h) ?_
  refine pj_X_of (fun r h => pj_T_gr iG4 rfl rfl rfl h) ?_
  refine pj_X_of (fun r h => pj_R_to (G4, 14, [(0, .ref 1)], [.ref 1, .ref 49], 0, 0) 14 2 (fun _ => rfl) h) ?_
  refine pj_X_of (fun r h => pj_T_gr iG4 rfl rfl rfl h) ?_
  have q7 : (pj_fi G4 2 1).toInt = y6.toInt := by rw [show pj_fi G4 2 1 = y6 from hy6.symm]
  refine pj_X_ca (vs := [.ref 49, .ref 2]) rfl (fun _ => rfl) ⟨Nat.le_of_ble_eq_true rfl, Nat.le_of_ble_eq_true rfl, pj_T_rcv iG4 rfl⟩ ⟨rfl, rfl⟩ (pj_Y_up (by decide) (ct_1 G4 iG4)) ?_
  rintro _ G9 ⟨rfl, iG9, jG9⟩
  have kG9 : pj_kpt kc_132t G0 G9 := pj_kpt_t kG4 (pj_kpt_s jG9 rfl)
  have q10 : (pj_fi G9 2 1).toInt = (pj_fi G4 2 1).toInt := by rw [jG9.1 (2, 1) (by decide)]
  obtain ⟨y11, hy11⟩ : ∃ z : Int32, z = pj_fi G9 2 1 := ⟨_, rfl⟩
  have ey11 : (pj_fi G9 2 1).toInt = y11.toInt := by rw [hy11]
  have ry11 : (0 : Int) ≤ y11.toInt ∧ y11.toInt ≤ 80 := by rw [hy11]; exact iG9.2.1 2 1 (0, 80) rfl
  show pj_X _ _ G9 20 [(0, .ref 1)] [] _
  refine pj_X_of (fun r h => pj_R_to (G9, 21, [(0, .ref 1)], [.ref 1], 0, 0) 21 2 (fun _ => rfl) h) ?_
  refine pj_X_of (fun r h => pj_T_gr iG9 rfl rfl rfl h) ?_
  have q12 : (pj_fi G9 2 1).toInt = y11.toInt := by rw [show pj_fi G9 2 1 = y11 from hy11.symm]
  refine pj_X_ca (vs := [.ref 2]) rfl (fun _ => rfl) ⟨Nat.le_of_ble_eq_true rfl, Nat.le_of_ble_eq_true rfl, pj_T_rcv iG9 rfl⟩ ⟨rfl, rfl⟩ (pj_Y_up (by decide) (ct_88t G9 iG9)) ?_
  rintro _ G14 ⟨y13, rfl, iG14, jG14, ry13, ey13⟩
  have kG14 : pj_kpt kc_132t G0 G14 := pj_kpt_t kG9 (pj_kpt_s jG14 rfl)
  obtain ⟨y15, hy15⟩ : ∃ z : Int32, z = pj_fi G14 2 1 := ⟨_, rfl⟩
  have ey15 : (pj_fi G14 2 1).toInt = y15.toInt := by rw [hy15]
  have ry15 : (0 : Int) ≤ y15.toInt ∧ y15.toInt ≤ 80 := by rw [hy15]; exact iG14.2.1 2 1 (0, 80) rfl
  show pj_X _ _ G14 27 [(0, .ref 1)] [.int y13] _
  refine pj_X_of (fun r h => pj_R_to (G14, 30, [(1, .int y13), (0, .ref 1)], [.int (Int32.ofInt (-1)), .int y13], 0, 0) 30 4 (fun _ => rfl) h) ?_
  cases b16 : pj_c1 .eq y13 (Int32.ofInt (-1)) with
  | true =>
    have ub16 := pj_u_eqT b16
    refine pj_X_of (fun r h => pj_R_icT 38 rfl rfl b16 h) ?_
    refine pj_X_of (fun r h => pj_R_to (G14, 39, [(1, .int y13), (0, .ref 1)], [.ref 1], 0, 0) 39 2 (fun _ => rfl) h) ?_
    refine pj_X_of (fun r h => pj_T_gr iG14 rfl rfl rfl h) ?_
    refine pj_X_of (fun r h => pj_R_to (G14, 43, [(1, .int y13), (0, .ref 1)], [.ref 1, .ref 53], 0, 0) 43 2 (fun _ => rfl) h) ?_
    refine pj_X_of (fun r h => pj_T_gr iG14 rfl rfl rfl h) ?_
    refine pj_X_of (fun r h => pj_T_gr iG14 rfl rfl rfl h) ?_
    have q17 : (pj_fi G14 2 1).toInt = y15.toInt := by rw [show pj_fi G14 2 1 = y15 from hy15.symm]
    refine pj_X_ca (vs := [.ref 53, .ref 21]) rfl (fun _ => rfl) ⟨Nat.le_of_ble_eq_true rfl, Nat.le_of_ble_eq_true rfl, pj_T_rcv iG14 rfl⟩ ⟨rfl, rfl⟩ (pj_Y_up (by decide) (ct_33 G14 iG14)) ?_
    rintro _ G19 ⟨rfl, iG19, jG19⟩
    have kG19 : pj_kpt kc_132t G0 G19 := pj_kpt_t kG14 (pj_kpt_s jG19 rfl)
    have q20 : (pj_fi G19 2 1).toInt = (pj_fi G14 2 1).toInt := by rw [jG19.1 (2, 1) (by decide)]
    obtain ⟨y21, hy21⟩ : ∃ z : Int32, z = pj_fi G19 2 1 := ⟨_, rfl⟩
    have ey21 : (pj_fi G19 2 1).toInt = y21.toInt := by rw [hy21]
    have ry21 : (0 : Int) ≤ y21.toInt ∧ y21.toInt ≤ 80 := by rw [hy21]; exact iG19.2.1 2 1 (0, 80) rfl
    show pj_X _ _ G19 52 [(1, .int y13), (0, .ref 1)] [] _
    refine pj_X_of (fun r h => pj_R_to (G19, 53, [(1, .int y13), (0, .ref 1)], [.ref 1], 0, 0) 53 2 (fun _ => rfl) h) ?_
    refine pj_X_of (fun r h => pj_T_gr iG19 rfl rfl rfl h) ?_
    refine pj_X_of (fun r h => pj_T_gr iG19 rfl rfl rfl h) ?_
    refine pj_X_of (fun r h => pj_T_gi iG19 rfl rfl h) ?_
    show pj_X _ _ G19 62 [(1, .int y13), (0, .ref 1)] [.int (pj_fi G19 21 8)] _
    obtain ⟨y22, hy22⟩ : ∃ z : Int32, z = pj_fi G19 21 8 := ⟨_, rfl⟩
    refine pj_X_eqi hy22.symm ?_
    have ey22 : (pj_fi G19 21 8).toInt = y22.toInt := by rw [hy22]
    refine pj_X_of (fun r h => pj_R_to (G19, 64, [(2, .int y22), (1, .int y13), (0, .ref 1)], [.ref 1], 0, 0) 64 3 (fun _ => rfl) h) ?_
    refine pj_X_of (fun r h => pj_T_gr iG19 rfl rfl rfl h) ?_
    refine pj_X_of (fun r h => pj_R_to (G19, 68, [(2, .int y22), (1, .int y13), (0, .ref 1)], [.ref 1, .ref 49], 0, 0) 68 2 (fun _ => rfl) h) ?_
    refine pj_X_of (fun r h => pj_T_gr iG19 rfl rfl rfl h) ?_
    have q23 : (pj_fi G19 2 1).toInt = y21.toInt := by rw [show pj_fi G19 2 1 = y21 from hy21.symm]
    refine pj_X_ca (vs := [.ref 49, .ref 6]) rfl (fun _ => rfl) ⟨Nat.le_of_ble_eq_true rfl, Nat.le_of_ble_eq_true rfl, pj_T_rcv iG19 rfl⟩ ⟨rfl, rfl⟩ (pj_Y_up (by decide) (ct_3 G19 iG19)) ?_
    rintro _ G25 ⟨y24, rfl, iG25, jG25, ry24⟩
    have kG25 : pj_kpt kc_132t G0 G25 := pj_kpt_t kG19 (pj_kpt_s jG25 rfl)
    have q26 : (pj_fi G25 2 1).toInt = (pj_fi G19 2 1).toInt := by rw [jG25.1 (2, 1) (by decide)]
    obtain ⟨y27, hy27⟩ : ∃ z : Int32, z = pj_fi G25 2 1 := ⟨_, rfl⟩
    have ey27 : (pj_fi G25 2 1).toInt = y27.toInt := by rw [hy27]
    have ry27 : (0 : Int) ≤ y27.toInt ∧ y27.toInt ≤ 80 := by rw [hy27]; exact iG25.2.1 2 1 (0, 80) rfl
    show pj_X _ _ G25 74 [(2, .int y22), (1, .int y13), (0, .ref 1)] [.int y24] _
    refine pj_X_of (fun r h => pj_R_to (G25, 76, [(3, .int y24), (2, .int y22), (1, .int y13), (0, .ref 1)], [.ref 1], 0, 0) 76 3 (fun _ => rfl) h) ?_
    refine pj_X_of (fun r h => pj_T_gr iG25 rfl rfl rfl h) ?_
    refine pj_X_of (fun r h => pj_R_to (G25, 80, [(3, .int y24), (2, .int y22), (1, .int y13), (0, .ref 1)], [.int y24, .ref 53], 0, 0) 80 2 (fun _ => rfl) h) ?_
    cases b28 : pj_c1 .le y24 0 with
    | true =>
      have ub28 := pj_u0_leT b28
      refine pj_X_of (fun r h => pj_R_ifT 87 rfl rfl b28 h) ?_
      refine pj_X_of (fun r h => pj_R_to (G25, 88, [(3, .int y24), (2, .int y22), (1, .int y13), (0, .ref 1)], [.int (Int32.ofInt 0), .ref 53], 0, 0) 88 2 (fun _ => rfl) h) ?_
      have q29 : (pj_fi G25 2 1).toInt = y27.toInt := by rw [show pj_fi G25 2 1 = y27 from hy27.symm]
      refine pj_X_ca (vs := [.ref 53, .int (Int32.ofInt 0)]) rfl (fun _ => rfl) ⟨Nat.le_of_ble_eq_true rfl, Nat.le_of_ble_eq_true rfl, pj_T_rcv iG25 rfl⟩ ⟨rfl, rfl⟩ (pj_Y_up (by decide) (ct_34 G25 iG25 (Int32.ofInt 0) ⟨by omega, by omega⟩)) ?_
      rintro _ G31 ⟨rfl, iG31, jG31⟩
      have kG31 : pj_kpt kc_132t G0 G31 := pj_kpt_t kG25 (pj_kpt_s jG31 rfl)
      have q32 : (pj_fi G31 2 1).toInt = (pj_fi G25 2 1).toInt := by rw [jG31.1 (2, 1) (by decide)]
      obtain ⟨y33, hy33⟩ : ∃ z : Int32, z = pj_fi G31 2 1 := ⟨_, rfl⟩
      have ey33 : (pj_fi G31 2 1).toInt = y33.toInt := by rw [hy33]
      have ry33 : (0 : Int) ≤ y33.toInt ∧ y33.toInt ≤ 80 := by rw [hy33]; exact iG31.2.1 2 1 (0, 80) rfl
      show pj_X _ _ G31 91 [(3, .int y24), (2, .int y22), (1, .int y13), (0, .ref 1)] [] _
      refine pj_X_of (fun r h => pj_R_to (G31, 92, [(3, .int y24), (2, .int y22), (1, .int y13), (0, .ref 1)], [.ref 1], 0, 0) 92 2 (fun _ => rfl) h) ?_
      refine pj_X_of (fun r h => pj_T_gr iG31 rfl rfl rfl h) ?_
      refine pj_X_of (fun r h => pj_R_to (G31, 97, [(3, .int y24), (2, .int y22), (1, .int y13), (0, .ref 1)], [.ref 1, .int y24, .ref 4], 0, 0) 97 3 (fun _ => rfl) h) ?_
      refine pj_X_of (fun r h => pj_T_gr iG31 rfl rfl rfl h) ?_
      refine pj_X_of (fun r h => pj_T_gi iG31 rfl rfl h) ?_
      show pj_X _ _ G31 103 [(3, .int y24), (2, .int y22), (1, .int y13), (0, .ref 1)] [.int (pj_fi G31 49 3), .int y24, .ref 4] _
      obtain ⟨y34, hy34⟩ : ∃ z : Int32, z = pj_fi G31 49 3 := ⟨_, rfl⟩
      refine pj_X_eqi hy34.symm ?_
      have ey34 : (pj_fi G31 49 3).toInt = y34.toInt := by rw [hy34]
      have ry34 : (0 : Int) ≤ y34.toInt ∧ y34.toInt ≤ 21 := by rw [hy34]; exact iG31.2.1 49 3 (0, 21) rfl
      cases b35 : pj_c1 .ge y24 y34 with
      | true =>
        have ub35 := pj_u_geT b35
        refine pj_X_of (fun r h => pj_R_icT 110 rfl rfl b35 h) ?_
        refine pj_X_of (fun r h => pj_R_to (G31, 112, [(3, .int y24), (2, .int y22), (1, .int y13), (0, .ref 1)], [.ref 1, .long (Int64.ofNat 0), .ref 4], 0, 0) 112 3 (fun _ => rfl) h) ?_
        refine pj_X_of (fun r h => pj_T_gr iG31 rfl rfl rfl h) ?_
        refine pj_X_of (fun r h => pj_T_gr iG31 rfl rfl rfl h) ?_
        refine pj_X_of (fun r h => pj_T_gi iG31 rfl rfl h) ?_
        show pj_X _ _ G31 121 [(3, .int y24), (2, .int y22), (1, .int y13), (0, .ref 1)] [.int (pj_fi G31 21 8), .long (Int64.ofNat 0), .ref 4] _
        obtain ⟨y36, hy36⟩ : ∃ z : Int32, z = pj_fi G31 21 8 := ⟨_, rfl⟩
        refine pj_X_eqi hy36.symm ?_
        have ey36 : (pj_fi G31 21 8).toInt = y36.toInt := by rw [hy36]
        refine pj_X_of (fun r h => pj_R_to (G31, 123, [(3, .int y24), (2, .int y22), (1, .int y13), (0, .ref 1)], [.int (y36 - y22), .long (Int64.ofNat 0), .ref 4], 0, 0) 123 3 (fun _ => rfl) h) ?_
        obtain ⟨z37, hz37⟩ : ∃ z : Int32, z = y36 - y22 := ⟨_, rfl⟩
        refine pj_X_eqi hz37.symm ?_
        refine pj_X_of (fun r h => pj_R_to (G31, 124, [(3, .int y24), (2, .int y22), (1, .int y13), (0, .ref 1)], [.long z37.toInt64, .long (Int64.ofNat 0), .ref 4], 0, 0) 124 2 (fun _ => rfl) h) ?_
        have q38 : (pj_fi G31 2 1).toInt = y33.toInt := by rw [show pj_fi G31 2 1 = y33 from hy33.symm]
        have lc39 : (Int64.ofNat 0).toInt = 0 := by decide
        have lc40 : (z37.toInt64).toInt = z37.toInt := Int32.toInt_toInt64 _
        refine pj_X_ca (vs := [.ref 4, .long (Int64.ofNat 0), .long z37.toInt64]) rfl (fun _ => rfl) ⟨Nat.le_of_ble_eq_true rfl, Nat.le_of_ble_eq_true rfl, pj_T_rcv iG31 rfl⟩ ⟨rfl, rfl⟩ (pj_Y_up (by decide) (ct_56x G31 iG31 (Int64.ofNat 0) z37.toInt64)) ?_
        rintro _ G42 ⟨rfl, iG42, jG42, fy41⟩
        have kG42 : pj_kpt kc_132t G0 G42 := pj_kpt_t kG31 (pj_kpt_s jG42 rfl)
        have q43 : (pj_fi G42 2 1).toInt = (pj_fi G31 2 1).toInt := by rw [jG42.1 (2, 1) (by decide)]
        obtain ⟨y44, hy44⟩ : ∃ z : Int32, z = pj_fi G42 2 1 := ⟨_, rfl⟩
        have ey44 : (pj_fi G42 2 1).toInt = y44.toInt := by rw [hy44]
        have ry44 : (0 : Int) ≤ y44.toInt ∧ y44.toInt ≤ 80 := by rw [hy44]; exact iG42.2.1 2 1 (0, 80) rfl
        show pj_X _ _ G42 127 [(3, .int y24), (2, .int y22), (1, .int y13), (0, .ref 1)] [] _
        refine pj_X_of (fun r h => pj_R_to (G42, 128, [(3, .int y24), (2, .int y22), (1, .int y13), (0, .ref 1)], [.int y24], 0, 0) 128 2 (fun _ => rfl) h) ?_
        have q45 : (pj_fi G42 2 1).toInt = y44.toInt := by rw [show pj_fi G42 2 1 = y44 from hy44.symm]
        exact pj_X_rt rfl rfl ⟨_, rfl, iG42, kG42, pj_i32 _, by omega⟩
      | false =>
        have ub35 := pj_u_geF b35
        refine pj_X_of (fun r h => pj_R_icF rfl b35 h) ?_
        refine pj_X_of (fun r h => pj_R_to (G31, 112, [(3, .int y24), (2, .int y22), (1, .int y13), (0, .ref 1)], [.ref 1, .long (Int64.ofNat 1), .ref 4], 0, 0) 112 4 (fun _ => rfl) h) ?_
        refine pj_X_of (fun r h => pj_T_gr iG31 rfl rfl rfl h) ?_
        refine pj_X_of (fun r h => pj_T_gr iG31 rfl rfl rfl h) ?_
        refine pj_X_of (fun r h => pj_T_gi iG31 rfl rfl h) ?_
        show pj_X _ _ G31 121 [(3, .int y24), (2, .int y22), (1, .int y13), (0, .ref 1)] [.int (pj_fi G31 21 8), .long (Int64.ofNat 1), .ref 4] _
        obtain ⟨y46, hy46⟩ : ∃ z : Int32, z = pj_fi G31 21 8 := ⟨_, rfl⟩
        refine pj_X_eqi hy46.symm ?_
        have ey46 : (pj_fi G31 21 8).toInt = y46.toInt := by rw [hy46]
        refine pj_X_of (fun r h => pj_R_to (G31, 123, [(3, .int y24), (2, .int y22), (1, .int y13), (0, .ref 1)], [.int (y46 - y22), .long (Int64.ofNat 1), .ref 4], 0, 0) 123 3 (fun _ => rfl) h) ?_
        obtain ⟨z47, hz47⟩ : ∃ z : Int32, z = y46 - y22 := ⟨_, rfl⟩
        refine pj_X_eqi hz47.symm ?_
        refine pj_X_of (fun r h => pj_R_to (G31, 124, [(3, .int y24), (2, .int y22), (1, .int y13), (0, .ref 1)], [.long z47.toInt64, .long (Int64.ofNat 1), .ref 4], 0, 0) 124 2 (fun _ => rfl) h) ?_
        have q48 : (pj_fi G31 2 1).toInt = y33.toInt := by rw [show pj_fi G31 2 1 = y33 from hy33.symm]
        have lc49 : (Int64.ofNat 1).toInt = 1 := by decide
        have lc50 : (z47.toInt64).toInt = z47.toInt := Int32.toInt_toInt64 _
        refine pj_X_ca (vs := [.ref 4, .long (Int64.ofNat 1), .long z47.toInt64]) rfl (fun _ => rfl) ⟨Nat.le_of_ble_eq_true rfl, Nat.le_of_ble_eq_true rfl, pj_T_rcv iG31 rfl⟩ ⟨rfl, rfl⟩ (pj_Y_up (by decide) (ct_56x G31 iG31 (Int64.ofNat 1) z47.toInt64)) ?_
        rintro _ G52 ⟨rfl, iG52, jG52, fy51⟩
        have kG52 : pj_kpt kc_132t G0 G52 := pj_kpt_t kG31 (pj_kpt_s jG52 rfl)
        have q53 : (pj_fi G52 2 1).toInt = (pj_fi G31 2 1).toInt := by rw [jG52.1 (2, 1) (by decide)]
        obtain ⟨y54, hy54⟩ : ∃ z : Int32, z = pj_fi G52 2 1 := ⟨_, rfl⟩
        have ey54 : (pj_fi G52 2 1).toInt = y54.toInt := by rw [hy54]
        have ry54 : (0 : Int) ≤ y54.toInt ∧ y54.toInt ≤ 80 := by rw [hy54]; exact iG52.2.1 2 1 (0, 80) rfl
        show pj_X _ _ G52 127 [(3, .int y24), (2, .int y22), (1, .int y13), (0, .ref 1)] [] _
        refine pj_X_of (fun r h => pj_R_to (G52, 128, [(3, .int y24), (2, .int y22), (1, .int y13), (0, .ref 1)], [.int y24], 0, 0) 128 2 (fun _ => rfl) h) ?_
        have q55 : (pj_fi G52 2 1).toInt = y54.toInt := by rw [show pj_fi G52 2 1 = y54 from hy54.symm]
        exact pj_X_rt rfl rfl ⟨_, rfl, iG52, kG52, pj_i32 _, by omega⟩
    | false =>
      have ub28 := pj_u0_leF b28
      refine pj_X_of (fun r h => pj_R_ifF rfl b28 h) ?_
      refine pj_X_of (fun r h => pj_R_to (G25, 88, [(3, .int y24), (2, .int y22), (1, .int y13), (0, .ref 1)], [.int (Int32.ofInt 1), .ref 53], 0, 0) 88 3 (fun _ => rfl) h) ?_
      have q56 : (pj_fi G25 2 1).toInt = y27.toInt := by rw [show pj_fi G25 2 1 = y27 from hy27.symm]
      refine pj_X_ca (vs := [.ref 53, .int (Int32.ofInt 1)]) rfl (fun _ => rfl) ⟨Nat.le_of_ble_eq_true rfl, Nat.le_of_ble_eq_true rfl, pj_T_rcv iG25 rfl⟩ ⟨rfl, rfl⟩ (pj_Y_up (by decide) (ct_34 G25 iG25 (Int32.ofInt 1) ⟨by omega, by omega⟩)) ?_
      rintro _ G58 ⟨rfl, iG58, jG58⟩
      have kG58 : pj_kpt kc_132t G0 G58 := pj_kpt_t kG25 (pj_kpt_s jG58 rfl)
      have q59 : (pj_fi G58 2 1).toInt = (pj_fi G25 2 1).toInt := by rw [jG58.1 (2, 1) (by decide)]
      obtain ⟨y60, hy60⟩ : ∃ z : Int32, z = pj_fi G58 2 1 := ⟨_, rfl⟩
      have ey60 : (pj_fi G58 2 1).toInt = y60.toInt := by rw [hy60]
      have ry60 : (0 : Int) ≤ y60.toInt ∧ y60.toInt ≤ 80 := by rw [hy60]; exact iG58.2.1 2 1 (0, 80) rfl
      show pj_X _ _ G58 91 [(3, .int y24), (2, .int y22), (1, .int y13), (0, .ref 1)] [] _
      refine pj_X_of (fun r h => pj_R_to (G58, 92, [(3, .int y24), (2, .int y22), (1, .int y13), (0, .ref 1)], [.ref 1], 0, 0) 92 2 (fun _ => rfl) h) ?_
      refine pj_X_of (fun r h => pj_T_gr iG58 rfl rfl rfl h) ?_
      refine pj_X_of (fun r h => pj_R_to (G58, 97, [(3, .int y24), (2, .int y22), (1, .int y13), (0, .ref 1)], [.ref 1, .int y24, .ref 4], 0, 0) 97 3 (fun _ => rfl) h) ?_
      refine pj_X_of (fun r h => pj_T_gr iG58 rfl rfl rfl h) ?_
      refine pj_X_of (fun r h => pj_T_gi iG58 rfl rfl h) ?_
      show pj_X _ _ G58 103 [(3, .int y24), (2, .int y22), (1, .int y13), (0, .ref 1)] [.int (pj_fi G58 49 3), .int y24, .ref 4] _
      obtain ⟨y61, hy61⟩ : ∃ z : Int32, z = pj_fi G58 49 3 := ⟨_, rfl⟩
      refine pj_X_eqi hy61.symm ?_
      have ey61 : (pj_fi G58 49 3).toInt = y61.toInt := by rw [hy61]
      have ry61 : (0 : Int) ≤ y61.toInt ∧ y61.toInt ≤ 21 := by rw [hy61]; exact iG58.2.1 49 3 (0, 21) rfl
      cases b62 : pj_c1 .ge y24 y61 with
      | true =>
        have ub62 := pj_u_geT b62
        refine pj_X_of (fun r h => pj_R_icT 110 rfl rfl b62 h) ?_
        refine pj_X_of (fun r h => pj_R_to (G58, 112, [(3, .int y24), (2, .int y22), (1, .int y13), (0, .ref 1)], [.ref 1, .long (Int64.ofNat 0), .ref 4], 0, 0) 112 3 (fun _ => rfl) h) ?_
        refine pj_X_of (fun r h => pj_T_gr iG58 rfl rfl rfl h) ?_
        refine pj_X_of (fun r h => pj_T_gr iG58 rfl rfl rfl h) ?_
        refine pj_X_of (fun r h => pj_T_gi iG58 rfl rfl h) ?_
        show pj_X _ _ G58 121 [(3, .int y24), (2, .int y22), (1, .int y13), (0, .ref 1)] [.int (pj_fi G58 21 8), .long (Int64.ofNat 0), .ref 4] _
        obtain ⟨y63, hy63⟩ : ∃ z : Int32, z = pj_fi G58 21 8 := ⟨_, rfl⟩
        refine pj_X_eqi hy63.symm ?_
        have ey63 : (pj_fi G58 21 8).toInt = y63.toInt := by rw [hy63]
        refine pj_X_of (fun r h => pj_R_to (G58, 123, [(3, .int y24), (2, .int y22), (1, .int y13), (0, .ref 1)], [.int (y63 - y22), .long (Int64.ofNat 0), .ref 4], 0, 0) 123 3 (fun _ => rfl) h) ?_
        obtain ⟨z64, hz64⟩ : ∃ z : Int32, z = y63 - y22 := ⟨_, rfl⟩
        refine pj_X_eqi hz64.symm ?_
        refine pj_X_of (fun r h => pj_R_to (G58, 124, [(3, .int y24), (2, .int y22), (1, .int y13), (0, .ref 1)], [.long z64.toInt64, .long (Int64.ofNat 0), .ref 4], 0, 0) 124 2 (fun _ => rfl) h) ?_
        have q65 : (pj_fi G58 2 1).toInt = y60.toInt := by rw [show pj_fi G58 2 1 = y60 from hy60.symm]
        have lc66 : (Int64.ofNat 0).toInt = 0 := by decide
        have lc67 : (z64.toInt64).toInt = z64.toInt := Int32.toInt_toInt64 _
        refine pj_X_ca (vs := [.ref 4, .long (Int64.ofNat 0), .long z64.toInt64]) rfl (fun _ => rfl) ⟨Nat.le_of_ble_eq_true rfl, Nat.le_of_ble_eq_true rfl, pj_T_rcv iG58 rfl⟩ ⟨rfl, rfl⟩ (pj_Y_up (by decide) (ct_56x G58 iG58 (Int64.ofNat 0) z64.toInt64)) ?_
        rintro _ G69 ⟨rfl, iG69, jG69, fy68⟩
        have kG69 : pj_kpt kc_132t G0 G69 := pj_kpt_t kG58 (pj_kpt_s jG69 rfl)
        have q70 : (pj_fi G69 2 1).toInt = (pj_fi G58 2 1).toInt := by rw [jG69.1 (2, 1) (by decide)]
        obtain ⟨y71, hy71⟩ : ∃ z : Int32, z = pj_fi G69 2 1 := ⟨_, rfl⟩
        have ey71 : (pj_fi G69 2 1).toInt = y71.toInt := by rw [hy71]
        have ry71 : (0 : Int) ≤ y71.toInt ∧ y71.toInt ≤ 80 := by rw [hy71]; exact iG69.2.1 2 1 (0, 80) rfl
        show pj_X _ _ G69 127 [(3, .int y24), (2, .int y22), (1, .int y13), (0, .ref 1)] [] _
        refine pj_X_of (fun r h => pj_R_to (G69, 128, [(3, .int y24), (2, .int y22), (1, .int y13), (0, .ref 1)], [.int y24], 0, 0) 128 2 (fun _ => rfl) h) ?_
        have q72 : (pj_fi G69 2 1).toInt = y71.toInt := by rw [show pj_fi G69 2 1 = y71 from hy71.symm]
        exact pj_X_rt rfl rfl ⟨_, rfl, iG69, kG69, pj_i32 _, by omega⟩
      | false =>
        have ub62 := pj_u_geF b62
        refine pj_X_of (fun r h => pj_R_icF rfl b62 h) ?_
        refine pj_X_of (fun r h => pj_R_to (G58, 112, [(3, .int y24), (2, .int y22), (1, .int y13), (0, .ref 1)], [.ref 1, .long (Int64.ofNat 1), .ref 4], 0, 0) 112 4 (fun _ => rfl) h) ?_
        refine pj_X_of (fun r h => pj_T_gr iG58 rfl rfl rfl h) ?_
        refine pj_X_of (fun r h => pj_T_gr iG58 rfl rfl rfl h) ?_
        refine pj_X_of (fun r h => pj_T_gi iG58 rfl rfl h) ?_
        show pj_X _ _ G58 121 [(3, .int y24), (2, .int y22), (1, .int y13), (0, .ref 1)] [.int (pj_fi G58 21 8), .long (Int64.ofNat 1), .ref 4] _
        obtain ⟨y73, hy73⟩ : ∃ z : Int32, z = pj_fi G58 21 8 := ⟨_, rfl⟩
        refine pj_X_eqi hy73.symm ?_
        have ey73 : (pj_fi G58 21 8).toInt = y73.toInt := by rw [hy73]
        refine pj_X_of (fun r h => pj_R_to (G58, 123, [(3, .int y24), (2, .int y22), (1, .int y13), (0, .ref 1)], [.int (y73 - y22), .long (Int64.ofNat 1), .ref 4], 0, 0) 123 3 (fun _ => rfl) h) ?_
        obtain ⟨z74, hz74⟩ : ∃ z : Int32, z = y73 - y22 := ⟨_, rfl⟩
        refine pj_X_eqi hz74.symm ?_
        refine pj_X_of (fun r h => pj_R_to (G58, 124, [(3, .int y24), (2, .int y22), (1, .int y13), (0, .ref 1)], [.long z74.toInt64, .long (Int64.ofNat 1), .ref 4], 0, 0) 124 2 (fun _ => rfl) h) ?_
        have q75 : (pj_fi G58 2 1).toInt = y60.toInt := by rw [show pj_fi G58 2 1 = y60 from hy60.symm]
        have lc76 : (Int64.ofNat 1).toInt = 1 := by decide
        have lc77 : (z74.toInt64).toInt = z74.toInt := Int32.toInt_toInt64 _
        refine pj_X_ca (vs := [.ref 4, .long (Int64.ofNat 1), .long z74.toInt64]) rfl (fun _ => rfl) ⟨Nat.le_of_ble_eq_true rfl, Nat.le_of_ble_eq_true rfl, pj_T_rcv iG58 rfl⟩ ⟨rfl, rfl⟩ (pj_Y_up (by decide) (ct_56x G58 iG58 (Int64.ofNat 1) z74.toInt64)) ?_
        rintro _ G79 ⟨rfl, iG79, jG79, fy78⟩
        have kG79 : pj_kpt kc_132t G0 G79 := pj_kpt_t kG58 (pj_kpt_s jG79 rfl)
        have q80 : (pj_fi G79 2 1).toInt = (pj_fi G58 2 1).toInt := by rw [jG79.1 (2, 1) (by decide)]
        obtain ⟨y81, hy81⟩ : ∃ z : Int32, z = pj_fi G79 2 1 := ⟨_, rfl⟩
        have ey81 : (pj_fi G79 2 1).toInt = y81.toInt := by rw [hy81]
        have ry81 : (0 : Int) ≤ y81.toInt ∧ y81.toInt ≤ 80 := by rw [hy81]; exact iG79.2.1 2 1 (0, 80) rfl
        show pj_X _ _ G79 127 [(3, .int y24), (2, .int y22), (1, .int y13), (0, .ref 1)] [] _
        refine pj_X_of (fun r h => pj_R_to (G79, 128, [(3, .int y24), (2, .int y22), (1, .int y13), (0, .ref 1)], [.int y24], 0, 0) 128 2 (fun _ => rfl) h) ?_
        have q82 : (pj_fi G79 2 1).toInt = y81.toInt := by rw [show pj_fi G79 2 1 = y81 from hy81.symm]
        exact pj_X_rt rfl rfl ⟨_, rfl, iG79, kG79, pj_i32 _, by omega⟩
  | false =>
    have ub16 := pj_u_eqF b16
    refine pj_X_of (fun r h => pj_R_icF rfl b16 h) ?_
    refine pj_X_of (fun r h => pj_R_to (G14, 34, [(1, .int y13), (0, .ref 1)], [.int y13], 0, 0) 34 2 (fun _ => rfl) h) ?_
    have q83 : (pj_fi G14 2 1).toInt = y15.toInt := by rw [show pj_fi G14 2 1 = y15 from hy15.symm]
    refine pj_X_ca (vs := [.int y13]) rfl (fun _ => rfl) ⟨Nat.le_of_ble_eq_true rfl, Nat.le_of_ble_eq_true rfl, rfl⟩ ⟨rfl, rfl⟩ (pj_Y_up (by decide) (ct_162 G14 iG14 y13)) ?_
    rintro _ _ ⟨y84, rfl, rfl, ry84⟩
    show pj_X _ _ G14 37 [(1, .int y13), (0, .ref 1)] [.int y84] _
    have q85 : (pj_fi G14 2 1).toInt = y15.toInt := by rw [show pj_fi G14 2 1 = y15 from hy15.symm]
    exact pj_X_rt rfl rfl ⟨_, rfl, iG14, kG14, pj_i32 _, by omega⟩
def kc_181et : pj_KT := ([(171, 16), (171, 17), (171, 18), (171, 19)], [171], [])
theorem ct_181et (G0 : pj_G) (hI : pj_Inv G0) (most : Int32) (rmost : (0 : Int) ≤ most.toInt ∧ most.toInt ≤ 80) : pj_Y 1 181 [.ref 171, .int most] G0 (fun v G' => ∃ y : Int32, v = some (.int y) ∧ pj_Inv G' ∧ pj_kpt kc_181et G0 G' ∧ ((0 : Int) ≤ y.toInt ∧ y.toInt ≤ 80) ∧ (((pj_fi G' 171 17).toInt = 0 ∧ (pj_fi G' 171 18).toInt ≤ most.toInt ∧ (pj_fi G' 171 19).toInt = 0) ∧ (pj_fi G' 171 16).toInt = 0)) := by
  have c0_ : (Int32.ofInt 0).toInt = 0 := by decide
  refine pj_Y_X (M := pj_m181) rfl rfl (Nat.le_of_ble_eq_true rfl) ?_
  have hK : pj_kpt kc_181et G0 G0 := pj_kpt_r _ _
  show pj_X _ _ G0 0 [(0, .ref 171), (1, .int most)] [] _
  obtain ⟨y1, hy1⟩ : ∃ z : Int32, z = pj_fi G0 171 17 := ⟨_, rfl⟩
  have ey1 : (pj_fi G0 171 17).toInt = y1.toInt := by rw [hy1]
  have ry1 : (0 : Int) ≤ y1.toInt ∧ y1.toInt ≤ 80 := by rw [hy1]; exact hI.2.1 171 17 (0, 80) rfl
  obtain ⟨y2, hy2⟩ : ∃ z : Int32, z = pj_fi G0 171 18 := ⟨_, rfl⟩
  have ey2 : (pj_fi G0 171 18).toInt = y2.toInt := by rw [hy2]
  have ry2 : (0 : Int) ≤ y2.toInt ∧ y2.toInt ≤ 80 := by rw [hy2]; exact hI.2.1 171 18 (0, 80) rfl
  obtain ⟨y3, hy3⟩ : ∃ z : Int32, z = pj_fi G0 171 19 := ⟨_, rfl⟩
  have ey3 : (pj_fi G0 171 19).toInt = y3.toInt := by rw [hy3]
  have ry3 : (0 : Int) ≤ y3.toInt ∧ y3.toInt ≤ 4 := by rw [hy3]; exact hI.2.1 171 19 (0, 4) rfl
  obtain ⟨y4, hy4⟩ : ∃ z : Int32, z = pj_fi G0 171 16 := ⟨_, rfl⟩
  have ey4 : (pj_fi G0 171 16).toInt = y4.toInt := by rw [hy4]
  have ry4 : (0 : Int) ≤ y4.toInt ∧ y4.toInt ≤ 80 := by rw [hy4]; exact hI.2.1 171 16 (0, 80) rfl
  refine pj_X_of (fun r h => pj_R_to (G0, 1, [(0, .ref 171), (1, .int most)], [.ref 171], 0, 0) 1 2 (fun _ => rfl) h) ?_
  refine pj_X_of (fun r h => pj_T_gi hI rfl rfl h) ?_
  show pj_X _ _ G0 4 [(0, .ref 171), (1, .int most)] [.int (pj_fi G0 171 16)] _
  refine pj_X_eqi (show pj_fi G0 171 16 = y4 from hy4.symm) ?_
  refine pj_X_of (fun r h => pj_R_to (G0, 7, [(2, .int y4), (0, .ref 171), (1, .int most)], [.int (Int32.ofInt 0), .ref 171], 0, 0) 7 4 (fun _ => rfl) h) ?_
  refine pj_X_of (fun r h => pj_T_pf hI rfl rfl rfl h) ?_
  show pj_X _ _ (pj_wv G0 171 16 (.int (Int32.ofInt 0))) 10 [(2, .int y4), (0, .ref 171), (1, .int most)] [] _
  obtain ⟨G5, hG5⟩ : ∃ H, H = pj_wv G0 171 16 (.int (Int32.ofInt 0)) := ⟨_, rfl⟩
  have iG5 : pj_Inv G5 := by rw [hG5]; exact pj_Inv_wi hI (ci := 12) rfl (fun q hq => by cases hq; exact ⟨by show (0 : Int) ≤ _; omega, by show _ ≤ (80 : Int); omega⟩)
  have kG5 : pj_kpt kc_181et G0 G5 := by rw [hG5]; exact pj_kpt_v hK rfl
  rw [← hG5]
  refine pj_X_of (fun r h => pj_R_to (G5, 12, [(2, .int y4), (0, .ref 171), (1, .int most)], [.int (Int32.ofInt 0), .ref 171], 0, 0) 12 3 (fun _ => rfl) h) ?_
  refine pj_X_of (fun r h => pj_T_pf iG5 rfl rfl rfl h) ?_
  show pj_X _ _ (pj_wv G5 171 17 (.int (Int32.ofInt 0))) 15 [(2, .int y4), (0, .ref 171), (1, .int most)] [] _
  obtain ⟨G6, hG6⟩ : ∃ H, H = pj_wv G5 171 17 (.int (Int32.ofInt 0)) := ⟨_, rfl⟩
  have iG6 : pj_Inv G6 := by rw [hG6]; exact pj_Inv_wi iG5 (ci := 12) rfl (fun q hq => by cases hq; exact ⟨by show (0 : Int) ≤ _; omega, by show _ ≤ (80 : Int); omega⟩)
  have kG6 : pj_kpt kc_181et G0 G6 := by rw [hG6]; exact pj_kpt_v kG5 rfl
  rw [← hG6]
  refine pj_X_of (fun r h => pj_R_to (G6, 17, [(2, .int y4), (0, .ref 171), (1, .int most)], [.int (Int32.ofInt 0), .ref 171], 0, 0) 17 3 (fun _ => rfl) h) ?_
  refine pj_X_of (fun r h => pj_T_pf iG6 rfl rfl rfl h) ?_
  show pj_X _ _ (pj_wv G6 171 19 (.int (Int32.ofInt 0))) 20 [(2, .int y4), (0, .ref 171), (1, .int most)] [] _
  obtain ⟨G7, hG7⟩ : ∃ H, H = pj_wv G6 171 19 (.int (Int32.ofInt 0)) := ⟨_, rfl⟩
  have iG7 : pj_Inv G7 := by rw [hG7]; exact pj_Inv_wi iG6 (ci := 12) rfl (fun q hq => by cases hq; exact ⟨by show (0 : Int) ≤ _; omega, by show _ ≤ (4 : Int); omega⟩)
  have kG7 : pj_kpt kc_181et G0 G7 := by rw [hG7]; exact pj_kpt_v kG6 rfl
  rw [← hG7]
  refine pj_X_of (fun r h => pj_R_to (G7, 23, [(2, .int y4), (0, .ref 171), (1, .int most)], [.int most, .int y4, .ref 171], 0, 0) 23 4 (fun _ => rfl) h) ?_
  refine pj_X_of (fun r h => pj_R_mn (v := (if most < y4 then most else y4)) rfl rfl rfl (Nat.le_of_ble_eq_true rfl) h) ?_
  show pj_X _ _ G7 26 [(2, .int y4), (0, .ref 171), (1, .int most)] [.int (if most < y4 then most else y4), .ref 171] _
  obtain ⟨z8, hz8⟩ : ∃ z : Int32, z = (if most < y4 then most else y4) := ⟨_, rfl⟩
  refine pj_X_eqi hz8.symm ?_
  have fz8_0 : z8.toInt ≤ y4.toInt ∧ z8.toInt ≤ most.toInt ∧ (z8.toInt = y4.toInt ∨ z8.toInt = most.toInt) := by rw [hz8]; exact pj_minI
  refine pj_X_of (fun r h => pj_T_pf iG7 rfl rfl rfl h) ?_
  show pj_X _ _ (pj_wv G7 171 18 (.int z8)) 29 [(2, .int y4), (0, .ref 171), (1, .int most)] [] _
  obtain ⟨G9, hG9⟩ : ∃ H, H = pj_wv G7 171 18 (.int z8) := ⟨_, rfl⟩
  have iG9 : pj_Inv G9 := by rw [hG9]; exact pj_Inv_wi iG7 (ci := 12) rfl (fun q hq => by cases hq; exact ⟨by show (0 : Int) ≤ _; omega, by show _ ≤ (80 : Int); omega⟩)
  have kG9 : pj_kpt kc_181et G0 G9 := by rw [hG9]; exact pj_kpt_v kG7 rfl
  rw [← hG9]
  refine pj_X_of (fun r h => pj_R_to (G9, 30, [(2, .int y4), (0, .ref 171), (1, .int most)], [.int y4], 0, 0) 30 2 (fun _ => rfl) h) ?_
  have q10 : (pj_fi G9 171 17).toInt = (Int32.ofInt 0).toInt := by rw [show pj_fi G9 171 17 = Int32.ofInt 0 from by rw [hG9, pj_fi_wv_ne _ _ _ _ _ _ (by decide)]; exact (by rw [hG7, pj_fi_wv_ne _ _ _ _ _ _ (by decide)]; exact (by rw [hG6]; exact pj_fi_wi iG5.1 (ci := 12) rfl _))]
  have q11 : (pj_fi G9 171 18).toInt = z8.toInt := by rw [show pj_fi G9 171 18 = z8 from by rw [hG9]; exact pj_fi_wi iG7.1 (ci := 12) rfl _]
  have q12 : (pj_fi G9 171 19).toInt = (Int32.ofInt 0).toInt := by rw [show pj_fi G9 171 19 = Int32.ofInt 0 from by rw [hG9, pj_fi_wv_ne _ _ _ _ _ _ (by decide)]; exact (by rw [hG7]; exact pj_fi_wi iG6.1 (ci := 12) rfl _)]
  have q13 : (pj_fi G9 171 16).toInt = (Int32.ofInt 0).toInt := by rw [show pj_fi G9 171 16 = Int32.ofInt 0 from by rw [hG9, pj_fi_wv_ne _ _ _ _ _ _ (by decide)]; exact (by rw [hG7, pj_fi_wv_ne _ _ _ _ _ _ (by decide)]; exact (by rw [hG6, pj_fi_wv_ne _ _ _ _ _ _ (by decide)]; exact (by rw [hG5]; exact pj_fi_wi hI.1 (ci := 12) rfl _)))]
  exact pj_X_rt rfl rfl ⟨_, rfl, iG9, kG9, ⟨by omega, by omega⟩, by omega⟩
def kc_194_1t : pj_KT := ([(171, 16), (171, 17), (171, 18), (171, 19), (171, 22)], [171, 181], [181])
theorem lp_ct_194_1t (G0 : pj_G) (hI0 : pj_Inv G0) (is : Int32) (ris : (1 : Int) ≤ is.toInt ∧ is.toInt ≤ 1) : ∀ mn : Nat, (∀ (G : pj_G) (hI : pj_Inv G) (hK : pj_kpt kc_194_1t G0 G) (v2 : Int32) (v3 : Int32) (v4 : Int32), ((0 : Int) ≤ v2.toInt ∧ v2.toInt ≤ 80) → ((0 : Int) ≤ v3.toInt ∧ v3.toInt ≤ 1) → ((0 : Int) ≤ v4.toInt ∧ v4.toInt ≤ 1) → ((pj_fi G 171 22).toInt ≤ 6) → ((pj_fi G 171 5).toInt + (pj_fi G 171 22).toInt ≤ 6) → (1 ≤ v4.toInt → 1 ≤ v3.toInt) → ((pj_fi G 171 16).toInt = 0) → 20 * (7 - (pj_fi G 171 22).toInt) + 10 * v4.toInt < (mn : Int) → pj_X 18 pj_m194 G 25 [(0, .ref 171), (1, .int is), (2, .int v2), (3, .int v3), (4, .int v4)] [] (fun v G' => ∃ y : Int32, v = some (.int y) ∧ pj_Inv G' ∧ pj_kpt kc_194_1t G0 G' ∧ ((-81 : Int) ≤ y.toInt ∧ y.toInt ≤ 0) ∧ (((pj_fi G' 171 5).toInt + (pj_fi G' 171 22).toInt ≤ 6) ∧ (pj_fi G' 171 16).toInt = 0))) := by
  have c0_ : ((Int8.ofInt 17).toInt32).toInt = 17 := by decide
  have c1_ : ((Int8.ofInt 59).toInt32).toInt = 59 := by decide
  have c2_ : (Int32.ofInt 0).toInt = 0 := by decide
  have c3_ : (Int32.ofInt 1).toInt = 1 := by decide
  intro mn
  induction mn with
  | zero =>
    intro G hI hK v2 v3 v4 rv2 rv3 rv4 x0_ x1_ x2_ x3_ hm
    exfalso
    omega
  | succ mn ih =>
    intro G hI hK v2 v3 v4 rv2 rv3 rv4 x0_ x1_ x2_ x3_ hm
    obtain ⟨y1, hy1⟩ : ∃ z : Int32, z = pj_fi G 171 22 := ⟨_, rfl⟩
    have ey1 : (pj_fi G 171 22).toInt = y1.toInt := by rw [hy1]
    have ry1 : (0 : Int) ≤ y1.toInt ∧ y1.toInt ≤ 10 := by rw [hy1]; exact hI.2.1 171 22 (0, 10) rfl
    obtain ⟨y2, hy2⟩ : ∃ z : Int32, z = pj_fi G 171 5 := ⟨_, rfl⟩
    have ey2 : (pj_fi G 171 5).toInt = y2.toInt := by rw [hy2]
    have ry2 : (0 : Int) ≤ y2.toInt ∧ y2.toInt ≤ 6 := by rw [hy2]; exact hI.2.1 171 5 (0, 6) rfl
    obtain ⟨y3, hy3⟩ : ∃ z : Int32, z = pj_fi G 171 16 := ⟨_, rfl⟩
    have ey3 : (pj_fi G 171 16).toInt = y3.toInt := by rw [hy3]
    have ry3 : (0 : Int) ≤ y3.toInt ∧ y3.toInt ≤ 80 := by rw [hy3]; exact hI.2.1 171 16 (0, 80) rfl
    refine pj_X_of (fun r h => pj_R_to (G, 27, [(0, .ref 171), (1, .int is), (2, .int v2), (3, .int v3), (4, .int v4)], [.int v4], 0, 0) 27 2 (fun _ => rfl) h) ?_
    cases b4 : pj_c1 .eq v4 0 with
    | true =>
      have ub4 := pj_u0_eqT b4
      refine pj_X_of (fun r h => pj_R_ifT 59 rfl rfl b4 h) ?_
      refine pj_X_of (fun r h => pj_R_to (G, 64, [(0, .ref 171), (1, .int is), (2, .int v2), (3, .int v3), (4, .int v4)], [.int v3, .int ((Int8.ofInt 17).toInt32), .int v2, .ref 171], 0, 0) 64 5 (fun _ => rfl) h) ?_
      have q5 : (pj_fi G 171 22).toInt = y1.toInt := by rw [show pj_fi G 171 22 = y1 from hy1.symm]
      have q6 : (pj_fi G 171 5).toInt = y2.toInt := by rw [show pj_fi G 171 5 = y2 from hy2.symm]
      have q7 : (pj_fi G 171 16).toInt = y3.toInt := by rw [show pj_fi G 171 16 = y3 from hy3.symm]
      refine pj_X_ca (vs := [.ref 171, .int v2, .int ((Int8.ofInt 17).toInt32), .int v3]) rfl (fun _ => rfl) ⟨Nat.le_of_ble_eq_true rfl, Nat.le_of_ble_eq_true rfl, pj_T_rcv hI rfl⟩ ⟨rfl, rfl⟩ (pj_Y_up (by decide) (ct_188 G hI v2 ((Int8.ofInt 17).toInt32) v3 ⟨by omega, by omega⟩ ⟨by omega, by omega⟩ ⟨by omega, by omega⟩)) ?_
      rintro _ _ ⟨y8, rfl, rfl, ry8, ey8⟩
      show pj_X _ _ G 67 [(0, .ref 171), (1, .int is), (2, .int v2), (3, .int v3), (4, .int v4)] [.int y8] _
      have q9 : (pj_fi G 171 22).toInt = y1.toInt := by rw [show pj_fi G 171 22 = y1 from hy1.symm]
      have q10 : (pj_fi G 171 5).toInt = y2.toInt := by rw [show pj_fi G 171 5 = y2 from hy2.symm]
      have q11 : (pj_fi G 171 16).toInt = y3.toInt := by rw [show pj_fi G 171 16 = y3 from hy3.symm]
      exact pj_X_rt rfl rfl ⟨_, rfl, hI, hK, ⟨by omega, by omega⟩, by omega⟩
    | false =>
      have ub4 := pj_u0_eqF b4
      refine pj_X_of (fun r h => pj_R_ifF rfl b4 h) ?_
      refine pj_X_of (fun r h => pj_R_to (G, 32, [(0, .ref 171), (1, .int is), (2, .int v2), (3, .int v3), (4, .int v4)], [.int is, .ref 171], 0, 0) 32 3 (fun _ => rfl) h) ?_
      have q12 : (pj_fi G 171 22).toInt = y1.toInt := by rw [show pj_fi G 171 22 = y1 from hy1.symm]
      have q13 : (pj_fi G 171 5).toInt = y2.toInt := by rw [show pj_fi G 171 5 = y2 from hy2.symm]
      have q14 : (pj_fi G 171 16).toInt = y3.toInt := by rw [show pj_fi G 171 16 = y3 from hy3.symm]
      refine pj_X_ca (vs := [.ref 171, .int is]) rfl (fun _ => rfl) ⟨Nat.le_of_ble_eq_true rfl, Nat.le_of_ble_eq_true rfl, pj_T_rcv hI rfl⟩ ⟨rfl, rfl⟩ (pj_Y_up (by decide) (ct_193_1 G hI is ⟨by omega, by omega⟩ (by omega))) ?_
      rintro _ G16 ⟨y15, rfl, iG16, jG16, ry15, ey15⟩
      have kG16 : pj_kpt kc_194_1t G0 G16 := pj_kpt_t hK (pj_kpt_s jG16 rfl)
      have q17 : (pj_fi G16 171 5).toInt = (pj_fi G 171 5).toInt := by rw [jG16.1 (171, 5) (by decide)]
      have q18 : (pj_fi G16 171 16).toInt = (pj_fi G 171 16).toInt := by rw [jG16.1 (171, 16) (by decide)]
      obtain ⟨y19, hy19⟩ : ∃ z : Int32, z = pj_fi G16 171 22 := ⟨_, rfl⟩
      have ey19 : (pj_fi G16 171 22).toInt = y19.toInt := by rw [hy19]
      have ry19 : (0 : Int) ≤ y19.toInt ∧ y19.toInt ≤ 10 := by rw [hy19]; exact iG16.2.1 171 22 (0, 10) rfl
      obtain ⟨y20, hy20⟩ : ∃ z : Int32, z = pj_fi G16 171 5 := ⟨_, rfl⟩
      have ey20 : (pj_fi G16 171 5).toInt = y20.toInt := by rw [hy20]
      have ry20 : (0 : Int) ≤ y20.toInt ∧ y20.toInt ≤ 6 := by rw [hy20]; exact iG16.2.1 171 5 (0, 6) rfl
      obtain ⟨y21, hy21⟩ : ∃ z : Int32, z = pj_fi G16 171 16 := ⟨_, rfl⟩
      have ey21 : (pj_fi G16 171 16).toInt = y21.toInt := by rw [hy21]
      have ry21 : (0 : Int) ≤ y21.toInt ∧ y21.toInt ≤ 80 := by rw [hy21]; exact iG16.2.1 171 16 (0, 80) rfl
      show pj_X _ _ G16 35 [(0, .ref 171), (1, .int is), (2, .int v2), (3, .int v3), (4, .int v4)] [.int y15] _
      refine pj_X_of (fun r h => pj_R_to (G16, 37, [(3, .int y15), (0, .ref 171), (1, .int is), (2, .int v2), (4, .int v4)], [.int y15], 0, 0) 37 3 (fun _ => rfl) h) ?_
      cases b22 : pj_c1 .eq y15 0 with
      | true =>
        have ub22 := pj_u0_eqT b22
        refine pj_X_of (fun r h => pj_R_ifT 53 rfl rfl b22 h) ?_
        refine pj_X_of (fun r h => pj_R_to (G16, 25, [(4, .int (Int32.ofInt 0)), (3, .int y15), (0, .ref 171), (1, .int is), (2, .int v2)], [], 0, 0) 25 4 (fun _ => rfl) h) ?_
        have q23 : (pj_fi G16 171 22).toInt = y19.toInt := by rw [show pj_fi G16 171 22 = y19 from hy19.symm]
        have q24 : (pj_fi G16 171 5).toInt = y20.toInt := by rw [show pj_fi G16 171 5 = y20 from hy20.symm]
        have q25 : (pj_fi G16 171 16).toInt = y21.toInt := by rw [show pj_fi G16 171 16 = y21 from hy21.symm]
        exact pj_X_sub [(0, .ref 171), (1, .int is), (2, .int v2), (3, .int y15), (4, .int (Int32.ofInt 0))] (show List.Nodup [0, 1, 2, 3, 4] by decide) ⟨rfl, rfl, rfl, rfl, rfl, trivial⟩ (ih G16 iG16 kG16 v2 y15 (Int32.ofInt 0) ⟨by omega, by omega⟩ ⟨by omega, by omega⟩ ⟨by omega, by omega⟩ (by omega) (by omega) (by omega) (by omega) (by omega))
      | false =>
        have ub22 := pj_u0_eqF b22
        refine pj_X_of (fun r h => pj_R_ifF rfl b22 h) ?_
        refine pj_X_of (fun r h => pj_R_to (G16, 43, [(3, .int y15), (0, .ref 171), (1, .int is), (2, .int v2), (4, .int v4)], [.int ((Int8.ofInt 59).toInt32), .ref 171], 0, 0) 43 3 (fun _ => rfl) h) ?_
        have q26 : (pj_fi G16 171 22).toInt = y19.toInt := by rw [show pj_fi G16 171 22 = y19 from hy19.symm]
        have q27 : (pj_fi G16 171 5).toInt = y20.toInt := by rw [show pj_fi G16 171 5 = y20 from hy20.symm]
        have q28 : (pj_fi G16 171 16).toInt = y21.toInt := by rw [show pj_fi G16 171 16 = y21 from hy21.symm]
        refine pj_X_ca (vs := [.ref 171, .int ((Int8.ofInt 59).toInt32)]) rfl (fun _ => rfl) ⟨Nat.le_of_ble_eq_true rfl, Nat.le_of_ble_eq_true rfl, pj_T_rcv iG16 rfl⟩ ⟨rfl, rfl⟩ (pj_Y_up (by decide) (ct_182 G16 iG16 ((Int8.ofInt 59).toInt32) ⟨by omega, by omega⟩)) ?_
        rintro _ G30 ⟨y29, rfl, iG30, jG30, ry29, ey29⟩
        have kG30 : pj_kpt kc_194_1t G0 G30 := pj_kpt_t kG16 (pj_kpt_s jG30 rfl)
        have q31 : (pj_fi G30 171 22).toInt = (pj_fi G16 171 22).toInt := by rw [jG30.1 (171, 22) (by decide)]
        have q32 : (pj_fi G30 171 5).toInt = (pj_fi G16 171 5).toInt := by rw [jG30.1 (171, 5) (by decide)]
        have q33 : (pj_fi G30 171 16).toInt = (pj_fi G16 171 16).toInt := by rw [jG30.1 (171, 16) (by decide)]
        obtain ⟨y34, hy34⟩ : ∃ z : Int32, z = pj_fi G30 171 22 := ⟨_, rfl⟩
        have ey34 : (pj_fi G30 171 22).toInt = y34.toInt := by rw [hy34]
        have ry34 : (0 : Int) ≤ y34.toInt ∧ y34.toInt ≤ 10 := by rw [hy34]; exact iG30.2.1 171 22 (0, 10) rfl
        obtain ⟨y35, hy35⟩ : ∃ z : Int32, z = pj_fi G30 171 5 := ⟨_, rfl⟩
        have ey35 : (pj_fi G30 171 5).toInt = y35.toInt := by rw [hy35]
        have ry35 : (0 : Int) ≤ y35.toInt ∧ y35.toInt ≤ 6 := by rw [hy35]; exact iG30.2.1 171 5 (0, 6) rfl
        obtain ⟨y36, hy36⟩ : ∃ z : Int32, z = pj_fi G30 171 16 := ⟨_, rfl⟩
        have ey36 : (pj_fi G30 171 16).toInt = y36.toInt := by rw [hy36]
        have ry36 : (0 : Int) ≤ y36.toInt ∧ y36.toInt ≤ 80 := by rw [hy36]; exact iG30.2.1 171 16 (0, 80) rfl
        show pj_X _ _ G30 46 [(3, .int y15), (0, .ref 171), (1, .int is), (2, .int v2), (4, .int v4)] [.int y29] _
        cases b37 : pj_c1 .eq y29 0 with
        | true =>
          have ub37 := pj_u0_eqT b37
          refine pj_X_of (fun r h => pj_R_ifT 53 rfl rfl b37 h) ?_
          refine pj_X_of (fun r h => pj_R_to (G30, 25, [(4, .int (Int32.ofInt 0)), (3, .int y15), (0, .ref 171), (1, .int is), (2, .int v2)], [], 0, 0) 25 4 (fun _ => rfl) h) ?_
          have q38 : (pj_fi G30 171 22).toInt = y34.toInt := by rw [show pj_fi G30 171 22 = y34 from hy34.symm]
          have q39 : (pj_fi G30 171 5).toInt = y35.toInt := by rw [show pj_fi G30 171 5 = y35 from hy35.symm]
          have q40 : (pj_fi G30 171 16).toInt = y36.toInt := by rw [show pj_fi G30 171 16 = y36 from hy36.symm]
          exact pj_X_sub [(0, .ref 171), (1, .int is), (2, .int v2), (3, .int y15), (4, .int (Int32.ofInt 0))] (show List.Nodup [0, 1, 2, 3, 4] by decide) ⟨rfl, rfl, rfl, rfl, rfl, trivial⟩ (ih G30 iG30 kG30 v2 y15 (Int32.ofInt 0) ⟨by omega, by omega⟩ ⟨by omega, by omega⟩ ⟨by omega, by omega⟩ (by omega) (by omega) (by omega) (by omega) (by omega))
        | false =>
          have ub37 := pj_u0_eqF b37
          refine pj_X_of (fun r h => pj_R_ifF rfl b37 h) ?_
          refine pj_X_of (fun r h => pj_R_to (G30, 25, [(4, .int (Int32.ofInt 1)), (3, .int y15), (0, .ref 171), (1, .int is), (2, .int v2)], [], 0, 0) 25 5 (fun _ => rfl) h) ?_
          have q41 : (pj_fi G30 171 22).toInt = y34.toInt := by rw [show pj_fi G30 171 22 = y34 from hy34.symm]
          have q42 : (pj_fi G30 171 5).toInt = y35.toInt := by rw [show pj_fi G30 171 5 = y35 from hy35.symm]
          have q43 : (pj_fi G30 171 16).toInt = y36.toInt := by rw [show pj_fi G30 171 16 = y36 from hy36.symm]
          exact pj_X_sub [(0, .ref 171), (1, .int is), (2, .int v2), (3, .int y15), (4, .int (Int32.ofInt 1))] (show List.Nodup [0, 1, 2, 3, 4] by decide) ⟨rfl, rfl, rfl, rfl, rfl, trivial⟩ (ih G30 iG30 kG30 v2 y15 (Int32.ofInt 1) ⟨by omega, by omega⟩ ⟨by omega, by omega⟩ ⟨by omega, by omega⟩ (by omega) (by omega) (by omega) (by omega) (by omega))
theorem ct_194_1t (G0 : pj_G) (hI : pj_Inv G0) (is : Int32) (ris : (1 : Int) ≤ is.toInt ∧ is.toInt ≤ 1) : pj_Y 19 194 [.ref 171, .int is] G0 (fun v G' => ∃ y : Int32, v = some (.int y) ∧ pj_Inv G' ∧ pj_kpt kc_194_1t G0 G' ∧ ((-81 : Int) ≤ y.toInt ∧ y.toInt ≤ 0) ∧ (((pj_fi G' 171 5).toInt + (pj_fi G' 171 22).toInt ≤ 6) ∧ (pj_fi G' 171 16).toInt = 0)) := by
  have c0_ : ((Int8.ofInt 17).toInt32).toInt = 17 := by decide
  have c1_ : ((Int8.ofInt 59).toInt32).toInt = 59 := by decide
  have c2_ : (Int32.ofInt 0).toInt = 0 := by decide
  have c3_ : (Int32.ofInt 1).toInt = 1 := by decide
  refine pj_Y_X (M := pj_m194) rfl rfl (Nat.le_of_ble_eq_true rfl) ?_
  have hK : pj_kpt kc_194_1t G0 G0 := pj_kpt_r _ _
  show pj_X _ _ G0 0 [(0, .ref 171), (1, .int is)] [] _
  obtain ⟨y44, hy44⟩ : ∃ z : Int32, z = pj_fi G0 171 22 := ⟨_, rfl⟩
  have ey44 : (pj_fi G0 171 22).toInt = y44.toInt := by rw [hy44]
  have ry44 : (0 : Int) ≤ y44.toInt ∧ y44.toInt ≤ 10 := by rw [hy44]; exact hI.2.1 171 22 (0, 10) rfl
  obtain ⟨y45, hy45⟩ : ∃ z : Int32, z = pj_fi G0 171 5 := ⟨_, rfl⟩
  have ey45 : (pj_fi G0 171 5).toInt = y45.toInt := by rw [hy45]
  have ry45 : (0 : Int) ≤ y45.toInt ∧ y45.toInt ≤ 6 := by rw [hy45]; exact hI.2.1 171 5 (0, 6) rfl
  obtain ⟨y46, hy46⟩ : ∃ z : Int32, z = pj_fi G0 171 16 := ⟨_, rfl⟩
  have ey46 : (pj_fi G0 171 16).toInt = y46.toInt := by rw [hy46]
  have ry46 : (0 : Int) ≤ y46.toInt ∧ y46.toInt ≤ 80 := by rw [hy46]; exact hI.2.1 171 16 (0, 80) rfl
  refine pj_X_of (fun r h => pj_R_to (G0, 3, [(0, .ref 171), (1, .int is)], [.int ((Int8.ofInt 17).toInt32), .ref 171], 0, 0) 3 3 (fun _ => rfl) h) ?_
  have q47 : (pj_fi G0 171 22).toInt = y44.toInt := by rw [show pj_fi G0 171 22 = y44 from hy44.symm]
  have q48 : (pj_fi G0 171 5).toInt = y45.toInt := by rw [show pj_fi G0 171 5 = y45 from hy45.symm]
  have q49 : (pj_fi G0 171 16).toInt = y46.toInt := by rw [show pj_fi G0 171 16 = y46 from hy46.symm]
  refine pj_X_ca (vs := [.ref 171, .int ((Int8.ofInt 17).toInt32)]) rfl (fun _ => rfl) ⟨Nat.le_of_ble_eq_true rfl, Nat.le_of_ble_eq_true rfl, pj_T_rcv hI rfl⟩ ⟨rfl, rfl⟩ (pj_Y_up (by decide) (ct_181et G0 hI ((Int8.ofInt 17).toInt32) ⟨by omega, by omega⟩)) ?_
  rintro _ G51 ⟨y50, rfl, iG51, jG51, ry50, ey50⟩
  have kG51 : pj_kpt kc_194_1t G0 G51 := pj_kpt_t hK (pj_kpt_s jG51 rfl)
  have q52 : (pj_fi G51 171 22).toInt = (pj_fi G0 171 22).toInt := by rw [jG51.1 (171, 22) (by decide)]
  have q53 : (pj_fi G51 171 5).toInt = (pj_fi G0 171 5).toInt := by rw [jG51.1 (171, 5) (by decide)]
  obtain ⟨y54, hy54⟩ : ∃ z : Int32, z = pj_fi G51 171 22 := ⟨_, rfl⟩
  have ey54 : (pj_fi G51 171 22).toInt = y54.toInt := by rw [hy54]
  have ry54 : (0 : Int) ≤ y54.toInt ∧ y54.toInt ≤ 10 := by rw [hy54]; exact iG51.2.1 171 22 (0, 10) rfl
  obtain ⟨y55, hy55⟩ : ∃ z : Int32, z = pj_fi G51 171 5 := ⟨_, rfl⟩
  have ey55 : (pj_fi G51 171 5).toInt = y55.toInt := by rw [hy55]
  have ry55 : (0 : Int) ≤ y55.toInt ∧ y55.toInt ≤ 6 := by rw [hy55]; exact iG51.2.1 171 5 (0, 6) rfl
  obtain ⟨y56, hy56⟩ : ∃ z : Int32, z = pj_fi G51 171 16 := ⟨_, rfl⟩
  have ey56 : (pj_fi G51 171 16).toInt = y56.toInt := by rw [hy56]
  have ry56 : (0 : Int) ≤ y56.toInt ∧ y56.toInt ≤ 80 := by rw [hy56]; exact iG51.2.1 171 16 (0, 80) rfl
  show pj_X _ _ G51 6 [(0, .ref 171), (1, .int is)] [.int y50] _
  refine pj_X_of (fun r h => pj_R_to (G51, 9, [(2, .int y50), (0, .ref 171), (1, .int is)], [.int (Int32.ofInt 0), .ref 171], 0, 0) 9 4 (fun _ => rfl) h) ?_
  refine pj_X_of (fun r h => pj_T_pf iG51 rfl rfl rfl h) ?_
  show pj_X _ _ (pj_wv G51 171 22 (.int (Int32.ofInt 0))) 12 [(2, .int y50), (0, .ref 171), (1, .int is)] [] _
  obtain ⟨G57, hG57⟩ : ∃ H, H = pj_wv G51 171 22 (.int (Int32.ofInt 0)) := ⟨_, rfl⟩
  have iG57 : pj_Inv G57 := by rw [hG57]; exact pj_Inv_wi iG51 (ci := 12) rfl (fun q hq => by cases hq; exact ⟨by show (0 : Int) ≤ _; omega, by show _ ≤ (10 : Int); omega⟩)
  have kG57 : pj_kpt kc_194_1t G0 G57 := by rw [hG57]; exact pj_kpt_v kG51 rfl
  rw [← hG57]
  refine pj_X_of (fun r h => pj_R_to (G57, 15, [(3, .int (Int32.ofInt 1)), (2, .int y50), (0, .ref 171), (1, .int is)], [.int y50], 0, 0) 15 4 (fun _ => rfl) h) ?_
  cases b58 : pj_c1 .le y50 0 with
  | true =>
    have ub58 := pj_u0_leT b58
    refine pj_X_of (fun r h => pj_R_ifT 22 rfl rfl b58 h) ?_
    refine pj_X_of (fun r h => pj_R_to (G57, 25, [(4, .int (Int32.ofInt 0)), (3, .int (Int32.ofInt 1)), (2, .int y50), (0, .ref 171), (1, .int is)], [], 0, 0) 25 3 (fun _ => rfl) h) ?_
    have q59 : (pj_fi G57 171 22).toInt = (Int32.ofInt 0).toInt := by rw [show pj_fi G57 171 22 = Int32.ofInt 0 from by rw [hG57]; exact pj_fi_wi iG51.1 (ci := 12) rfl _]
    have q60 : (pj_fi G57 171 5).toInt = y55.toInt := by rw [show pj_fi G57 171 5 = y55 from by rw [hG57, pj_fi_wv_ne _ _ _ _ _ _ (by decide)]; exact hy55.symm]
    have q61 : (pj_fi G57 171 16).toInt = y56.toInt := by rw [show pj_fi G57 171 16 = y56 from by rw [hG57, pj_fi_wv_ne _ _ _ _ _ _ (by decide)]; exact hy56.symm]
    exact pj_X_sub [(0, .ref 171), (1, .int is), (2, .int y50), (3, .int (Int32.ofInt 1)), (4, .int (Int32.ofInt 0))] (show List.Nodup [0, 1, 2, 3, 4] by decide) ⟨rfl, rfl, rfl, rfl, rfl, trivial⟩ ((lp_ct_194_1t G0 hI is ris 301) G57 iG57 kG57 y50 (Int32.ofInt 1) (Int32.ofInt 0) ⟨by omega, by omega⟩ ⟨by omega, by omega⟩ ⟨by omega, by omega⟩ (by omega) (by omega) (by omega) (by omega) (by omega))
  | false =>
    have ub58 := pj_u0_leF b58
    refine pj_X_of (fun r h => pj_R_ifF rfl b58 h) ?_
    refine pj_X_of (fun r h => pj_R_to (G57, 25, [(4, .int (Int32.ofInt 1)), (3, .int (Int32.ofInt 1)), (2, .int y50), (0, .ref 171), (1, .int is)], [], 0, 0) 25 4 (fun _ => rfl) h) ?_
    have q62 : (pj_fi G57 171 22).toInt = (Int32.ofInt 0).toInt := by rw [show pj_fi G57 171 22 = Int32.ofInt 0 from by rw [hG57]; exact pj_fi_wi iG51.1 (ci := 12) rfl _]
    have q63 : (pj_fi G57 171 5).toInt = y55.toInt := by rw [show pj_fi G57 171 5 = y55 from by rw [hG57, pj_fi_wv_ne _ _ _ _ _ _ (by decide)]; exact hy55.symm]
    have q64 : (pj_fi G57 171 16).toInt = y56.toInt := by rw [show pj_fi G57 171 16 = y56 from by rw [hG57, pj_fi_wv_ne _ _ _ _ _ _ (by decide)]; exact hy56.symm]
    exact pj_X_sub [(0, .ref 171), (1, .int is), (2, .int y50), (3, .int (Int32.ofInt 1)), (4, .int (Int32.ofInt 1))] (show List.Nodup [0, 1, 2, 3, 4] by decide) ⟨rfl, rfl, rfl, rfl, rfl, trivial⟩ ((lp_ct_194_1t G0 hI is ris 301) G57 iG57 kG57 y50 (Int32.ofInt 1) (Int32.ofInt 1) ⟨by omega, by omega⟩ ⟨by omega, by omega⟩ ⟨by omega, by omega⟩ (by omega) (by omega) (by omega) (by omega) (by omega))
def kc_194_0t : pj_KT := ([(171, 16), (171, 17), (171, 18), (171, 19), (171, 22)], [171, 181], [181])
theorem lp_ct_194_0t (G0 : pj_G) (hI0 : pj_Inv G0) (is : Int32) (ris : (0 : Int) ≤ is.toInt ∧ is.toInt ≤ 0) : ∀ mn : Nat, (∀ (G : pj_G) (hI : pj_Inv G) (hK : pj_kpt kc_194_0t G0 G) (v2 : Int32) (v3 : Int32) (v4 : Int32), ((0 : Int) ≤ v2.toInt ∧ v2.toInt ≤ 80) → ((0 : Int) ≤ v3.toInt ∧ v3.toInt ≤ 1) → ((0 : Int) ≤ v4.toInt ∧ v4.toInt ≤ 1) → (1 ≤ v3.toInt → pj_re G (pj_fi G 171 22).toInt) → ((pj_fi G 171 22).toInt ≤ 6) → ((pj_fi G 171 6).toInt + (pj_fi G 171 22).toInt ≤ 6) → (1 ≤ v4.toInt → 1 ≤ v3.toInt) → ((pj_fi G 171 16).toInt = 0) → 20 * (7 - (pj_fi G 171 22).toInt) + 10 * v4.toInt < (mn : Int) → pj_X 18 pj_m194 G 25 [(0, .ref 171), (1, .int is), (2, .int v2), (3, .int v3), (4, .int v4)] [] (fun v G' => ∃ y : Int32, v = some (.int y) ∧ pj_Inv G' ∧ pj_kpt kc_194_0t G0 G' ∧ ((-81 : Int) ≤ y.toInt ∧ y.toInt ≤ 0) ∧ (((pj_fi G' 171 16).toInt = 0) ∧ ((pj_fi G' 171 6).toInt + (pj_fi G' 171 22).toInt ≤ 6 ∧ (0 ≤ y.toInt → pj_re G' (pj_fi G' 171 22).toInt))))) := by
  have c0_ : ((Int8.ofInt 17).toInt32).toInt = 17 := by decide
  have c1_ : ((Int8.ofInt 59).toInt32).toInt = 59 := by decide
  have c2_ : (Int32.ofInt 0).toInt = 0 := by decide
  have c3_ : (Int32.ofInt 1).toInt = 1 := by decide
  intro mn
  induction mn with
  | zero =>
    intro G hI hK v2 v3 v4 rv2 rv3 rv4 x0_ x1_ x2_ x3_ x4_ hm
    exfalso
    omega
  | succ mn ih =>
    intro G hI hK v2 v3 v4 rv2 rv3 rv4 x0_ x1_ x2_ x3_ x4_ hm
    obtain ⟨y1, hy1⟩ : ∃ z : Int32, z = pj_fi G 171 22 := ⟨_, rfl⟩
    have ey1 : (pj_fi G 171 22).toInt = y1.toInt := by rw [hy1]
    have ry1 : (0 : Int) ≤ y1.toInt ∧ y1.toInt ≤ 10 := by rw [hy1]; exact hI.2.1 171 22 (0, 10) rfl
    obtain ⟨y2, hy2⟩ : ∃ z : Int32, z = pj_fi G 171 6 := ⟨_, rfl⟩
    have ey2 : (pj_fi G 171 6).toInt = y2.toInt := by rw [hy2]
    have ry2 : (0 : Int) ≤ y2.toInt ∧ y2.toInt ≤ 6 := by rw [hy2]; exact hI.2.1 171 6 (0, 6) rfl
    obtain ⟨y3, hy3⟩ : ∃ z : Int32, z = pj_fi G 171 16 := ⟨_, rfl⟩
    have ey3 : (pj_fi G 171 16).toInt = y3.toInt := by rw [hy3]
    have ry3 : (0 : Int) ≤ y3.toInt ∧ y3.toInt ≤ 80 := by rw [hy3]; exact hI.2.1 171 16 (0, 80) rfl
    refine pj_X_of (fun r h => pj_R_to (G, 27, [(0, .ref 171), (1, .int is), (2, .int v2), (3, .int v3), (4, .int v4)], [.int v4], 0, 0) 27 2 (fun _ => rfl) h) ?_
    cases b4 : pj_c1 .eq v4 0 with
    | true =>
      have ub4 := pj_u0_eqT b4
      refine pj_X_of (fun r h => pj_R_ifT 59 rfl rfl b4 h) ?_
      refine pj_X_of (fun r h => pj_R_to (G, 64, [(0, .ref 171), (1, .int is), (2, .int v2), (3, .int v3), (4, .int v4)], [.int v3, .int ((Int8.ofInt 17).toInt32), .int v2, .ref 171], 0, 0) 64 5 (fun _ => rfl) h) ?_
      have q5 : (pj_fi G 171 22).toInt = y1.toInt := by rw [show pj_fi G 171 22 = y1 from hy1.symm]
      have q6 : (pj_fi G 171 6).toInt = y2.toInt := by rw [show pj_fi G 171 6 = y2 from hy2.symm]
      have q7 : (pj_fi G 171 16).toInt = y3.toInt := by rw [show pj_fi G 171 16 = y3 from hy3.symm]
      refine pj_X_ca (vs := [.ref 171, .int v2, .int ((Int8.ofInt 17).toInt32), .int v3]) rfl (fun _ => rfl) ⟨Nat.le_of_ble_eq_true rfl, Nat.le_of_ble_eq_true rfl, pj_T_rcv hI rfl⟩ ⟨rfl, rfl⟩ (pj_Y_up (by decide) (ct_188 G hI v2 ((Int8.ofInt 17).toInt32) v3 ⟨by omega, by omega⟩ ⟨by omega, by omega⟩ ⟨by omega, by omega⟩)) ?_
      rintro _ _ ⟨y8, rfl, rfl, ry8, ey8⟩
      show pj_X _ _ G 67 [(0, .ref 171), (1, .int is), (2, .int v2), (3, .int v3), (4, .int v4)] [.int y8] _
      have q9 : (pj_fi G 171 22).toInt = y1.toInt := by rw [show pj_fi G 171 22 = y1 from hy1.symm]
      have q10 : (pj_fi G 171 6).toInt = y2.toInt := by rw [show pj_fi G 171 6 = y2 from hy2.symm]
      have q11 : (pj_fi G 171 16).toInt = y3.toInt := by rw [show pj_fi G 171 16 = y3 from hy3.symm]
      exact pj_X_rt rfl rfl ⟨_, rfl, hI, hK, ⟨by omega, by omega⟩, ⟨by omega, by omega, fun q => x0_ (by omega)⟩⟩
    | false =>
      have ub4 := pj_u0_eqF b4
      refine pj_X_of (fun r h => pj_R_ifF rfl b4 h) ?_
      refine pj_X_of (fun r h => pj_R_to (G, 32, [(0, .ref 171), (1, .int is), (2, .int v2), (3, .int v3), (4, .int v4)], [.int is, .ref 171], 0, 0) 32 3 (fun _ => rfl) h) ?_
      have q12 : (pj_fi G 171 22).toInt = y1.toInt := by rw [show pj_fi G 171 22 = y1 from hy1.symm]
      have q13 : (pj_fi G 171 6).toInt = y2.toInt := by rw [show pj_fi G 171 6 = y2 from hy2.symm]
      have q14 : (pj_fi G 171 16).toInt = y3.toInt := by rw [show pj_fi G 171 16 = y3 from hy3.symm]
      refine pj_X_ca (vs := [.ref 171, .int is]) rfl (fun _ => rfl) ⟨Nat.le_of_ble_eq_true rfl, Nat.le_of_ble_eq_true rfl, pj_T_rcv hI rfl⟩ ⟨rfl, rfl⟩ (pj_Y_up (by decide) (ct_193_0 G hI is ⟨by omega, by omega⟩ (by omega))) ?_
      rintro _ G16 ⟨y15, rfl, iG16, jG16, ry15, ey15⟩
      have kG16 : pj_kpt kc_194_0t G0 G16 := pj_kpt_t hK (pj_kpt_s jG16 rfl)
      have q17 : (pj_fi G16 171 6).toInt = (pj_fi G 171 6).toInt := by rw [jG16.1 (171, 6) (by decide)]
      have q18 : (pj_fi G16 171 16).toInt = (pj_fi G 171 16).toInt := by rw [jG16.1 (171, 16) (by decide)]
      obtain ⟨y19, hy19⟩ : ∃ z : Int32, z = pj_fi G16 171 22 := ⟨_, rfl⟩
      have ey19 : (pj_fi G16 171 22).toInt = y19.toInt := by rw [hy19]
      have ry19 : (0 : Int) ≤ y19.toInt ∧ y19.toInt ≤ 10 := by rw [hy19]; exact iG16.2.1 171 22 (0, 10) rfl
      obtain ⟨y20, hy20⟩ : ∃ z : Int32, z = pj_fi G16 171 6 := ⟨_, rfl⟩
      have ey20 : (pj_fi G16 171 6).toInt = y20.toInt := by rw [hy20]
      have ry20 : (0 : Int) ≤ y20.toInt ∧ y20.toInt ≤ 6 := by rw [hy20]; exact iG16.2.1 171 6 (0, 6) rfl
      obtain ⟨y21, hy21⟩ : ∃ z : Int32, z = pj_fi G16 171 16 := ⟨_, rfl⟩
      have ey21 : (pj_fi G16 171 16).toInt = y21.toInt := by rw [hy21]
      have ry21 : (0 : Int) ≤ y21.toInt ∧ y21.toInt ≤ 80 := by rw [hy21]; exact iG16.2.1 171 16 (0, 80) rfl
      show pj_X _ _ G16 35 [(0, .ref 171), (1, .int is), (2, .int v2), (3, .int v3), (4, .int v4)] [.int y15] _
      refine pj_X_of (fun r h => pj_R_to (G16, 37, [(3, .int y15), (0, .ref 171), (1, .int is), (2, .int v2), (4, .int v4)], [.int y15], 0, 0) 37 3 (fun _ => rfl) h) ?_
      cases b22 : pj_c1 .eq y15 0 with
      | true =>
        have ub22 := pj_u0_eqT b22
        refine pj_X_of (fun r h => pj_R_ifT 53 rfl rfl b22 h) ?_
        refine pj_X_of (fun r h => pj_R_to (G16, 25, [(4, .int (Int32.ofInt 0)), (3, .int y15), (0, .ref 171), (1, .int is), (2, .int v2)], [], 0, 0) 25 4 (fun _ => rfl) h) ?_
        have q23 : (pj_fi G16 171 22).toInt = y19.toInt := by rw [show pj_fi G16 171 22 = y19 from hy19.symm]
        have q24 : (pj_fi G16 171 6).toInt = y20.toInt := by rw [show pj_fi G16 171 6 = y20 from hy20.symm]
        have q25 : (pj_fi G16 171 16).toInt = y21.toInt := by rw [show pj_fi G16 171 16 = y21 from hy21.symm]
        exact pj_X_sub [(0, .ref 171), (1, .int is), (2, .int v2), (3, .int y15), (4, .int (Int32.ofInt 0))] (show List.Nodup [0, 1, 2, 3, 4] by decide) ⟨rfl, rfl, rfl, rfl, rfl, trivial⟩ (ih G16 iG16 kG16 v2 y15 (Int32.ofInt 0) ⟨by omega, by omega⟩ ⟨by omega, by omega⟩ ⟨by omega, by omega⟩ (fun q => (ey15.2 q).2 (x0_ (by omega))) (by omega) (by omega) (by omega) (by omega) (by omega))
      | false =>
        have ub22 := pj_u0_eqF b22
        refine pj_X_of (fun r h => pj_R_ifF rfl b22 h) ?_
        refine pj_X_of (fun r h => pj_R_to (G16, 43, [(3, .int y15), (0, .ref 171), (1, .int is), (2, .int v2), (4, .int v4)], [.int ((Int8.ofInt 59).toInt32), .ref 171], 0, 0) 43 3 (fun _ => rfl) h) ?_
        have q26 : (pj_fi G16 171 22).toInt = y19.toInt := by rw [show pj_fi G16 171 22 = y19 from hy19.symm]
        have q27 : (pj_fi G16 171 6).toInt = y20.toInt := by rw [show pj_fi G16 171 6 = y20 from hy20.symm]
        have q28 : (pj_fi G16 171 16).toInt = y21.toInt := by rw [show pj_fi G16 171 16 = y21 from hy21.symm]
        refine pj_X_ca (vs := [.ref 171, .int ((Int8.ofInt 59).toInt32)]) rfl (fun _ => rfl) ⟨Nat.le_of_ble_eq_true rfl, Nat.le_of_ble_eq_true rfl, pj_T_rcv iG16 rfl⟩ ⟨rfl, rfl⟩ (pj_Y_up (by decide) (ct_182 G16 iG16 ((Int8.ofInt 59).toInt32) ⟨by omega, by omega⟩)) ?_
        rintro _ G30 ⟨y29, rfl, iG30, jG30, ry29, ey29⟩
        have kG30 : pj_kpt kc_194_0t G0 G30 := pj_kpt_t kG16 (pj_kpt_s jG30 rfl)
        have q31 : (pj_fi G30 171 22).toInt = (pj_fi G16 171 22).toInt := by rw [jG30.1 (171, 22) (by decide)]
        have q32 : (pj_fi G30 171 6).toInt = (pj_fi G16 171 6).toInt := by rw [jG30.1 (171, 6) (by decide)]
        have q33 : (pj_fi G30 171 16).toInt = (pj_fi G16 171 16).toInt := by rw [jG30.1 (171, 16) (by decide)]
        obtain ⟨y34, hy34⟩ : ∃ z : Int32, z = pj_fi G30 171 22 := ⟨_, rfl⟩
        have ey34 : (pj_fi G30 171 22).toInt = y34.toInt := by rw [hy34]
        have ry34 : (0 : Int) ≤ y34.toInt ∧ y34.toInt ≤ 10 := by rw [hy34]; exact iG30.2.1 171 22 (0, 10) rfl
        obtain ⟨y35, hy35⟩ : ∃ z : Int32, z = pj_fi G30 171 6 := ⟨_, rfl⟩
        have ey35 : (pj_fi G30 171 6).toInt = y35.toInt := by rw [hy35]
        have ry35 : (0 : Int) ≤ y35.toInt ∧ y35.toInt ≤ 6 := by rw [hy35]; exact iG30.2.1 171 6 (0, 6) rfl
        obtain ⟨y36, hy36⟩ : ∃ z : Int32, z = pj_fi G30 171 16 := ⟨_, rfl⟩
        have ey36 : (pj_fi G30 171 16).toInt = y36.toInt := by rw [hy36]
        have ry36 : (0 : Int) ≤ y36.toInt ∧ y36.toInt ≤ 80 := by rw [hy36]; exact iG30.2.1 171 16 (0, 80) rfl
        show pj_X _ _ G30 46 [(3, .int y15), (0, .ref 171), (1, .int is), (2, .int v2), (4, .int v4)] [.int y29] _
        cases b37 : pj_c1 .eq y29 0 with
        | true =>
          have ub37 := pj_u0_eqT b37
          refine pj_X_of (fun r h => pj_R_ifT 53 rfl rfl b37 h) ?_
          refine pj_X_of (fun r h => pj_R_to (G30, 25, [(4, .int (Int32.ofInt 0)), (3, .int y15), (0, .ref 171), (1, .int is), (2, .int v2)], [], 0, 0) 25 4 (fun _ => rfl) h) ?_
          have q38 : (pj_fi G30 171 22).toInt = y34.toInt := by rw [show pj_fi G30 171 22 = y34 from hy34.symm]
          have q39 : (pj_fi G30 171 6).toInt = y35.toInt := by rw [show pj_fi G30 171 6 = y35 from hy35.symm]
          have q40 : (pj_fi G30 171 16).toInt = y36.toInt := by rw [show pj_fi G30 171 16 = y36 from hy36.symm]
          exact pj_X_sub [(0, .ref 171), (1, .int is), (2, .int v2), (3, .int y15), (4, .int (Int32.ofInt 0))] (show List.Nodup [0, 1, 2, 3, 4] by decide) ⟨rfl, rfl, rfl, rfl, rfl, trivial⟩ (ih G30 iG30 kG30 v2 y15 (Int32.ofInt 0) ⟨by omega, by omega⟩ ⟨by omega, by omega⟩ ⟨by omega, by omega⟩ (fun q => by rw [show pj_fi G30 171 22 = pj_fi G16 171 22 from by rw [jG30.1 (171, 22) (by decide)]]; exact pj_re_k (fun j => by rw [jG30.2.2 181 (by decide)]) ((ey15.2 (by omega)).2 (x0_ (by omega)))) (by omega) (by omega) (by omega) (by omega) (by omega))
        | false =>
          have ub37 := pj_u0_eqF b37
          refine pj_X_of (fun r h => pj_R_ifF rfl b37 h) ?_
          refine pj_X_of (fun r h => pj_R_to (G30, 25, [(4, .int (Int32.ofInt 1)), (3, .int y15), (0, .ref 171), (1, .int is), (2, .int v2)], [], 0, 0) 25 5 (fun _ => rfl) h) ?_
          have q41 : (pj_fi G30 171 22).toInt = y34.toInt := by rw [show pj_fi G30 171 22 = y34 from hy34.symm]
          have q42 : (pj_fi G30 171 6).toInt = y35.toInt := by rw [show pj_fi G30 171 6 = y35 from hy35.symm]
          have q43 : (pj_fi G30 171 16).toInt = y36.toInt := by rw [show pj_fi G30 171 16 = y36 from hy36.symm]
          exact pj_X_sub [(0, .ref 171), (1, .int is), (2, .int v2), (3, .int y15), (4, .int (Int32.ofInt 1))] (show List.Nodup [0, 1, 2, 3, 4] by decide) ⟨rfl, rfl, rfl, rfl, rfl, trivial⟩ (ih G30 iG30 kG30 v2 y15 (Int32.ofInt 1) ⟨by omega, by omega⟩ ⟨by omega, by omega⟩ ⟨by omega, by omega⟩ (fun q => by rw [show pj_fi G30 171 22 = pj_fi G16 171 22 from by rw [jG30.1 (171, 22) (by decide)]]; exact pj_re_k (fun j => by rw [jG30.2.2 181 (by decide)]) ((ey15.2 (by omega)).2 (x0_ (by omega)))) (by omega) (by omega) (by omega) (by omega) (by omega))
theorem ct_194_0t (G0 : pj_G) (hI : pj_Inv G0) (is : Int32) (ris : (0 : Int) ≤ is.toInt ∧ is.toInt ≤ 0) : pj_Y 19 194 [.ref 171, .int is] G0 (fun v G' => ∃ y : Int32, v = some (.int y) ∧ pj_Inv G' ∧ pj_kpt kc_194_0t G0 G' ∧ ((-81 : Int) ≤ y.toInt ∧ y.toInt ≤ 0) ∧ (((pj_fi G' 171 16).toInt = 0) ∧ ((pj_fi G' 171 6).toInt + (pj_fi G' 171 22).toInt ≤ 6 ∧ (0 ≤ y.toInt → pj_re G' (pj_fi G' 171 22).toInt)))) := by
  have c0_ : ((Int8.ofInt 17).toInt32).toInt = 17 := by decide
  have c1_ : ((Int8.ofInt 59).toInt32).toInt = 59 := by decide
  have c2_ : (Int32.ofInt 0).toInt = 0 := by decide
  have c3_ : (Int32.ofInt 1).toInt = 1 := by decide
  refine pj_Y_X (M := pj_m194) rfl rfl (Nat.le_of_ble_eq_true rfl) ?_
  have hK : pj_kpt kc_194_0t G0 G0 := pj_kpt_r _ _
  show pj_X _ _ G0 0 [(0, .ref 171), (1, .int is)] [] _
  obtain ⟨y44, hy44⟩ : ∃ z : Int32, z = pj_fi G0 171 22 := ⟨_, rfl⟩
  have ey44 : (pj_fi G0 171 22).toInt = y44.toInt := by rw [hy44]
  have ry44 : (0 : Int) ≤ y44.toInt ∧ y44.toInt ≤ 10 := by rw [hy44]; exact hI.2.1 171 22 (0, 10) rfl
  obtain ⟨y45, hy45⟩ : ∃ z : Int32, z = pj_fi G0 171 6 := ⟨_, rfl⟩
  have ey45 : (pj_fi G0 171 6).toInt = y45.toInt := by rw [hy45]
  have ry45 : (0 : Int) ≤ y45.toInt ∧ y45.toInt ≤ 6 := by rw [hy45]; exact hI.2.1 171 6 (0, 6) rfl
  obtain ⟨y46, hy46⟩ : ∃ z : Int32, z = pj_fi G0 171 16 := ⟨_, rfl⟩
  have ey46 : (pj_fi G0 171 16).toInt = y46.toInt := by rw [hy46]
  have ry46 : (0 : Int) ≤ y46.toInt ∧ y46.toInt ≤ 80 := by rw [hy46]; exact hI.2.1 171 16 (0, 80) rfl
  refine pj_X_of (fun r h => pj_R_to (G0, 3, [(0, .ref 171), (1, .int is)], [.int ((Int8.ofInt 17).toInt32), .ref 171], 0, 0) 3 3 (fun _ => rfl) h) ?_
  have q47 : (pj_fi G0 171 22).toInt = y44.toInt := by rw [show pj_fi G0 171 22 = y44 from hy44.symm]
  have q48 : (pj_fi G0 171 6).toInt = y45.toInt := by rw [show pj_fi G0 171 6 = y45 from hy45.symm]
  have q49 : (pj_fi G0 171 16).toInt = y46.toInt := by rw [show pj_fi G0 171 16 = y46 from hy46.symm]
  refine pj_X_ca (vs := [.ref 171, .int ((Int8.ofInt 17).toInt32)]) rfl (fun _ => rfl) ⟨Nat.le_of_ble_eq_true rfl, Nat.le_of_ble_eq_true rfl, pj_T_rcv hI rfl⟩ ⟨rfl, rfl⟩ (pj_Y_up (by decide) (ct_181et G0 hI ((Int8.ofInt 17).toInt32) ⟨by omega, by omega⟩)) ?_
  rintro _ G51 ⟨y50, rfl, iG51, jG51, ry50, ey50⟩
  have kG51 : pj_kpt kc_194_0t G0 G51 := pj_kpt_t hK (pj_kpt_s jG51 rfl)
  have q52 : (pj_fi G51 171 22).toInt = (pj_fi G0 171 22).toInt := by rw [jG51.1 (171, 22) (by decide)]
  have q53 : (pj_fi G51 171 6).toInt = (pj_fi G0 171 6).toInt := by rw [jG51.1 (171, 6) (by decide)]
  obtain ⟨y54, hy54⟩ : ∃ z : Int32, z = pj_fi G51 171 22 := ⟨_, rfl⟩
  have ey54 : (pj_fi G51 171 22).toInt = y54.toInt := by rw [hy54]
  have ry54 : (0 : Int) ≤ y54.toInt ∧ y54.toInt ≤ 10 := by rw [hy54]; exact iG51.2.1 171 22 (0, 10) rfl
  obtain ⟨y55, hy55⟩ : ∃ z : Int32, z = pj_fi G51 171 6 := ⟨_, rfl⟩
  have ey55 : (pj_fi G51 171 6).toInt = y55.toInt := by rw [hy55]
  have ry55 : (0 : Int) ≤ y55.toInt ∧ y55.toInt ≤ 6 := by rw [hy55]; exact iG51.2.1 171 6 (0, 6) rfl
  obtain ⟨y56, hy56⟩ : ∃ z : Int32, z = pj_fi G51 171 16 := ⟨_, rfl⟩
  have ey56 : (pj_fi G51 171 16).toInt = y56.toInt := by rw [hy56]
  have ry56 : (0 : Int) ≤ y56.toInt ∧ y56.toInt ≤ 80 := by rw [hy56]; exact iG51.2.1 171 16 (0, 80) rfl
  show pj_X _ _ G51 6 [(0, .ref 171), (1, .int is)] [.int y50] _
  refine pj_X_of (fun r h => pj_R_to (G51, 9, [(2, .int y50), (0, .ref 171), (1, .int is)], [.int (Int32.ofInt 0), .ref 171], 0, 0) 9 4 (fun _ => rfl) h) ?_
  refine pj_X_of (fun r h => pj_T_pf iG51 rfl rfl rfl h) ?_
  show pj_X _ _ (pj_wv G51 171 22 (.int (Int32.ofInt 0))) 12 [(2, .int y50), (0, .ref 171), (1, .int is)] [] _
  obtain ⟨G57, hG57⟩ : ∃ H, H = pj_wv G51 171 22 (.int (Int32.ofInt 0)) := ⟨_, rfl⟩
  have iG57 : pj_Inv G57 := by rw [hG57]; exact pj_Inv_wi iG51 (ci := 12) rfl (fun q hq => by cases hq; exact ⟨by show (0 : Int) ≤ _; omega, by show _ ≤ (10 : Int); omega⟩)
  have kG57 : pj_kpt kc_194_0t G0 G57 := by rw [hG57]; exact pj_kpt_v kG51 rfl
  rw [← hG57]
  refine pj_X_of (fun r h => pj_R_to (G57, 15, [(3, .int (Int32.ofInt 1)), (2, .int y50), (0, .ref 171), (1, .int is)], [.int y50], 0, 0) 15 4 (fun _ => rfl) h) ?_
  cases b58 : pj_c1 .le y50 0 with
  | true =>
    have ub58 := pj_u0_leT b58
    refine pj_X_of (fun r h => pj_R_ifT 22 rfl rfl b58 h) ?_
    refine pj_X_of (fun r h => pj_R_to (G57, 25, [(4, .int (Int32.ofInt 0)), (3, .int (Int32.ofInt 1)), (2, .int y50), (0, .ref 171), (1, .int is)], [], 0, 0) 25 3 (fun _ => rfl) h) ?_
    have q59 : (pj_fi G57 171 22).toInt = (Int32.ofInt 0).toInt := by rw [show pj_fi G57 171 22 = Int32.ofInt 0 from by rw [hG57]; exact pj_fi_wi iG51.1 (ci := 12) rfl _]
    have q60 : (pj_fi G57 171 6).toInt = y55.toInt := by rw [show pj_fi G57 171 6 = y55 from by rw [hG57, pj_fi_wv_ne _ _ _ _ _ _ (by decide)]; exact hy55.symm]
    have q61 : (pj_fi G57 171 16).toInt = y56.toInt := by rw [show pj_fi G57 171 16 = y56 from by rw [hG57, pj_fi_wv_ne _ _ _ _ _ _ (by decide)]; exact hy56.symm]
    exact pj_X_sub [(0, .ref 171), (1, .int is), (2, .int y50), (3, .int (Int32.ofInt 1)), (4, .int (Int32.ofInt 0))] (show List.Nodup [0, 1, 2, 3, 4] by decide) ⟨rfl, rfl, rfl, rfl, rfl, trivial⟩ ((lp_ct_194_0t G0 hI is ris 301) G57 iG57 kG57 y50 (Int32.ofInt 1) (Int32.ofInt 0) ⟨by omega, by omega⟩ ⟨by omega, by omega⟩ ⟨by omega, by omega⟩ (fun _ => pj_re_0 (by omega)) (by omega) (by omega) (by omega) (by omega) (by omega))
  | false =>
    have ub58 := pj_u0_leF b58
    refine pj_X_of (fun r h => pj_R_ifF rfl b58 h) ?_
    refine pj_X_of (fun r h => pj_R_to (G57, 25, [(4, .int (Int32.ofInt 1)), (3, .int (Int32.ofInt 1)), (2, .int y50), (0, .ref 171), (1, .int is)], [], 0, 0) 25 4 (fun _ => rfl) h) ?_
    have q62 : (pj_fi G57 171 22).toInt = (Int32.ofInt 0).toInt := by rw [show pj_fi G57 171 22 = Int32.ofInt 0 from by rw [hG57]; exact pj_fi_wi iG51.1 (ci := 12) rfl _]
    have q63 : (pj_fi G57 171 6).toInt = y55.toInt := by rw [show pj_fi G57 171 6 = y55 from by rw [hG57, pj_fi_wv_ne _ _ _ _ _ _ (by decide)]; exact hy55.symm]
    have q64 : (pj_fi G57 171 16).toInt = y56.toInt := by rw [show pj_fi G57 171 16 = y56 from by rw [hG57, pj_fi_wv_ne _ _ _ _ _ _ (by decide)]; exact hy56.symm]
    exact pj_X_sub [(0, .ref 171), (1, .int is), (2, .int y50), (3, .int (Int32.ofInt 1)), (4, .int (Int32.ofInt 1))] (show List.Nodup [0, 1, 2, 3, 4] by decide) ⟨rfl, rfl, rfl, rfl, rfl, trivial⟩ ((lp_ct_194_0t G0 hI is ris 301) G57 iG57 kG57 y50 (Int32.ofInt 1) (Int32.ofInt 1) ⟨by omega, by omega⟩ ⟨by omega, by omega⟩ ⟨by omega, by omega⟩ (fun _ => pj_re_0 (by omega)) (by omega) (by omega) (by omega) (by omega) (by omega))
def kc_195t : pj_KT := ([(171, 0), (171, 5), (171, 7), (171, 16), (171, 17), (171, 18), (171, 19), (171, 22), (171, 30)], [171, 177, 179, 181], [177, 179, 181])
theorem lp_ct_195t (G0 : pj_G) (hI0 : pj_Inv G0) (p0_ : (pj_fi G0 171 30).toInt ≤ 15) : ∀ mn : Nat, (∀ (G : pj_G) (hI : pj_Inv G) (hK : pj_kpt kc_195t G0 G) (v1 : Int32) (v2 : Int32), ((-81 : Int) ≤ v1.toInt ∧ v1.toInt ≤ 0) → ((0 : Int) ≤ v2.toInt ∧ v2.toInt ≤ 6) → ((pj_fi G 171 30).toInt ≤ 15) → ((pj_fi G 171 5).toInt + (pj_fi G 171 22).toInt - v2.toInt ≤ 6) → (v2.toInt ≤ (pj_fi G 171 22).toInt) → ((pj_fi G 171 22).toInt ≤ 6) → ((pj_fi G 171 16).toInt = 0) → 6 - v2.toInt < (mn : Int) → pj_X 20 pj_m195 G 19 [(0, .ref 171), (1, .int v1), (2, .int v2)] [] (fun v G' => ∃ y : Int32, v = some (.int y) ∧ pj_Inv G' ∧ pj_kpt kc_195t G0 G' ∧ ((-2147483648 : Int) ≤ y.toInt ∧ y.toInt ≤ 2147483647) ∧ (((pj_fi G' 171 30).toInt ≤ 15) ∧ (pj_fi G' 171 16).toInt = 0))) := by
  have c0_ : (Int32.ofInt (-1)).toInt = -1 := by decide
  have c1_ : (Int32.ofInt 0).toInt = 0 := by decide
  have c2_ : (Int32.ofInt 1).toInt = 1 := by decide
  have c3_ : (Int32.ofInt 2).toInt = 2 := by decide
  have c4_ : (Int32.ofInt 3).toInt = 3 := by decide
  have c5_ : (Int32.ofInt 4).toInt = 4 := by decide
  intro mn
  induction mn with
  | zero =>
    intro G hI hK v1 v2 rv1 rv2 x0_ x1_ x2_ x3_ x4_ hm
    exfalso
    omega
  | succ mn ih =>
    intro G hI hK v1 v2 rv1 rv2 x0_ x1_ x2_ x3_ x4_ hm
    obtain ⟨y1, hy1⟩ : ∃ z : Int32, z = pj_fi G 171 30 := ⟨_, rfl⟩
    have ey1 : (pj_fi G 171 30).toInt = y1.toInt := by rw [hy1]
    have ry1 : (0 : Int) ≤ y1.toInt ∧ y1.toInt ≤ 16 := by rw [hy1]; exact hI.2.1 171 30 (0, 16) rfl
    obtain ⟨y2, hy2⟩ : ∃ z : Int32, z = pj_fi G 171 5 := ⟨_, rfl⟩
    have ey2 : (pj_fi G 171 5).toInt = y2.toInt := by rw [hy2]
    have ry2 : (0 : Int) ≤ y2.toInt ∧ y2.toInt ≤ 6 := by rw [hy2]; exact hI.2.1 171 5 (0, 6) rfl
    obtain ⟨y3, hy3⟩ : ∃ z : Int32, z = pj_fi G 171 22 := ⟨_, rfl⟩
    have ey3 : (pj_fi G 171 22).toInt = y3.toInt := by rw [hy3]
    have ry3 : (0 : Int) ≤ y3.toInt ∧ y3.toInt ≤ 10 := by rw [hy3]; exact hI.2.1 171 22 (0, 10) rfl
    obtain ⟨y4, hy4⟩ : ∃ z : Int32, z = pj_fi G 171 16 := ⟨_, rfl⟩
    have ey4 : (pj_fi G 171 16).toInt = y4.toInt := by rw [hy4]
    have ry4 : (0 : Int) ≤ y4.toInt ∧ y4.toInt ≤ 80 := by rw [hy4]; exact hI.2.1 171 16 (0, 80) rfl
    refine pj_X_of (fun r h => pj_R_to (G, 21, [(0, .ref 171), (1, .int v1), (2, .int v2)], [.ref 171, .int v2], 0, 0) 21 3 (fun _ => rfl) h) ?_
    refine pj_X_of (fun r h => pj_T_gi hI rfl rfl h) ?_
    show pj_X _ _ G 24 [(0, .ref 171), (1, .int v1), (2, .int v2)] [.int (pj_fi G 171 22), .int v2] _
    refine pj_X_eqi (show pj_fi G 171 22 = y3 from hy3.symm) ?_
    cases b5 : pj_c1 .ge v2 y3 with
    | true =>
      have ub5 := pj_u_geT b5
      refine pj_X_of (fun r h => pj_R_icT 125 rfl rfl b5 h) ?_
      refine pj_X_of (fun r h => pj_R_to (G, 126, [(0, .ref 171), (1, .int v1), (2, .int v2)], [.ref 171], 0, 0) 126 2 (fun _ => rfl) h) ?_
      refine pj_X_of (fun r h => pj_T_gi hI rfl rfl h) ?_
      show pj_X _ _ G 129 [(0, .ref 171), (1, .int v1), (2, .int v2)] [.int (pj_fi G 171 22)] _
      refine pj_X_eqi (show pj_fi G 171 22 = y3 from hy3.symm) ?_
      cases b6 : pj_c1 .le y3 0 with
      | true =>
        have ub6 := pj_u0_leT b6
        refine pj_X_of (fun r h => pj_R_ifT 136 rfl rfl b6 h) ?_
        refine pj_X_of (fun r h => pj_R_to (G, 137, [(0, .ref 171), (1, .int v1), (2, .int v2)], [.ref 171], 0, 0) 137 2 (fun _ => rfl) h) ?_
        refine pj_X_of (fun r h => pj_T_gi hI rfl rfl h) ?_
        show pj_X _ _ G 140 [(0, .ref 171), (1, .int v1), (2, .int v2)] [.int (pj_fi G 171 22)] _
        refine pj_X_eqi (show pj_fi G 171 22 = y3 from hy3.symm) ?_
        have q7 : (pj_fi G 171 30).toInt = y1.toInt := by rw [show pj_fi G 171 30 = y1 from hy1.symm]
        have q8 : (pj_fi G 171 5).toInt = y2.toInt := by rw [show pj_fi G 171 5 = y2 from hy2.symm]
        have q9 : (pj_fi G 171 22).toInt = y3.toInt := by rw [show pj_fi G 171 22 = y3 from hy3.symm]
        have q10 : (pj_fi G 171 16).toInt = y4.toInt := by rw [show pj_fi G 171 16 = y4 from hy4.symm]
        exact pj_X_rt rfl rfl ⟨_, rfl, hI, hK, pj_i32 _, by omega⟩
      | false =>
        have ub6 := pj_u0_leF b6
        refine pj_X_of (fun r h => pj_R_ifF rfl b6 h) ?_
        refine pj_X_of (fun r h => pj_R_to (G, 133, [(0, .ref 171), (1, .int v1), (2, .int v2)], [.ref 171], 0, 0) 133 2 (fun _ => rfl) h) ?_
        have q11 : (pj_fi G 171 30).toInt = y1.toInt := by rw [show pj_fi G 171 30 = y1 from hy1.symm]
        have q12 : (pj_fi G 171 5).toInt = y2.toInt := by rw [show pj_fi G 171 5 = y2 from hy2.symm]
        have q13 : (pj_fi G 171 22).toInt = y3.toInt := by rw [show pj_fi G 171 22 = y3 from hy3.symm]
        have q14 : (pj_fi G 171 16).toInt = y4.toInt := by rw [show pj_fi G 171 16 = y4 from hy4.symm]
        refine pj_X_ca (vs := [.ref 171]) rfl (fun _ => rfl) ⟨Nat.le_of_ble_eq_true rfl, Nat.le_of_ble_eq_true rfl, pj_T_rcv hI rfl⟩ ⟨rfl, rfl⟩ (pj_Y_up (by decide) (ct_192 G hI)) ?_
        rintro _ G16 ⟨rfl, iG16, jG16, eG16⟩
        have kG16 : pj_kpt kc_195t G0 G16 := pj_kpt_t hK (pj_kpt_s jG16 rfl)
        have q17 : (pj_fi G16 171 5).toInt = (pj_fi G 171 5).toInt := by rw [jG16.1 (171, 5) (by decide)]
        have q18 : (pj_fi G16 171 22).toInt = (pj_fi G 171 22).toInt := by rw [jG16.1 (171, 22) (by decide)]
        have q19 : (pj_fi G16 171 16).toInt = (pj_fi G 171 16).toInt := by rw [jG16.1 (171, 16) (by decide)]
        obtain ⟨y20, hy20⟩ : ∃ z : Int32, z = pj_fi G16 171 30 := ⟨_, rfl⟩
        have ey20 : (pj_fi G16 171 30).toInt = y20.toInt := by rw [hy20]
        have ry20 : (0 : Int) ≤ y20.toInt ∧ y20.toInt ≤ 16 := by rw [hy20]; exact iG16.2.1 171 30 (0, 16) rfl
        obtain ⟨y21, hy21⟩ : ∃ z : Int32, z = pj_fi G16 171 5 := ⟨_, rfl⟩
        have ey21 : (pj_fi G16 171 5).toInt = y21.toInt := by rw [hy21]
        have ry21 : (0 : Int) ≤ y21.toInt ∧ y21.toInt ≤ 6 := by rw [hy21]; exact iG16.2.1 171 5 (0, 6) rfl
        obtain ⟨y22, hy22⟩ : ∃ z : Int32, z = pj_fi G16 171 22 := ⟨_, rfl⟩
        have ey22 : (pj_fi G16 171 22).toInt = y22.toInt := by rw [hy22]
        have ry22 : (0 : Int) ≤ y22.toInt ∧ y22.toInt ≤ 10 := by rw [hy22]; exact iG16.2.1 171 22 (0, 10) rfl
        obtain ⟨y23, hy23⟩ : ∃ z : Int32, z = pj_fi G16 171 16 := ⟨_, rfl⟩
        have ey23 : (pj_fi G16 171 16).toInt = y23.toInt := by rw [hy23]
        have ry23 : (0 : Int) ≤ y23.toInt ∧ y23.toInt ≤ 80 := by rw [hy23]; exact iG16.2.1 171 16 (0, 80) rfl
        show pj_X _ _ G16 136 [(0, .ref 171), (1, .int v1), (2, .int v2)] [] _
        refine pj_X_of (fun r h => pj_R_to (G16, 137, [(0, .ref 171), (1, .int v1), (2, .int v2)], [.ref 171], 0, 0) 137 2 (fun _ => rfl) h) ?_
        refine pj_X_of (fun r h => pj_T_gi iG16 rfl rfl h) ?_
        show pj_X _ _ G16 140 [(0, .ref 171), (1, .int v1), (2, .int v2)] [.int (pj_fi G16 171 22)] _
        refine pj_X_eqi (show pj_fi G16 171 22 = y22 from hy22.symm) ?_
        have q24 : (pj_fi G16 171 30).toInt = y20.toInt := by rw [show pj_fi G16 171 30 = y20 from hy20.symm]
        have q25 : (pj_fi G16 171 5).toInt = y21.toInt := by rw [show pj_fi G16 171 5 = y21 from hy21.symm]
        have q26 : (pj_fi G16 171 22).toInt = y22.toInt := by rw [show pj_fi G16 171 22 = y22 from hy22.symm]
        have q27 : (pj_fi G16 171 16).toInt = y23.toInt := by rw [show pj_fi G16 171 16 = y23 from hy23.symm]
        exact pj_X_rt rfl rfl ⟨_, rfl, iG16, kG16, pj_i32 _, by omega⟩
    | false =>
      have ub5 := pj_u_geF b5
      refine pj_X_of (fun r h => pj_R_icF rfl b5 h) ?_
      refine pj_X_of (fun r h => pj_R_to (G, 28, [(0, .ref 171), (1, .int v1), (2, .int v2)], [.ref 171], 0, 0) 28 2 (fun _ => rfl) h) ?_
      refine pj_X_of (fun r h => pj_T_gr hI rfl rfl rfl h) ?_
      refine pj_X_of (fun r h => pj_R_to (G, 32, [(0, .ref 171), (1, .int v1), (2, .int v2)], [.ref 171, .ref 177], 0, 0) 32 2 (fun _ => rfl) h) ?_
      refine pj_X_of (fun r h => pj_T_gi hI rfl rfl h) ?_
      show pj_X _ _ G 35 [(0, .ref 171), (1, .int v1), (2, .int v2)] [.int (pj_fi G 171 5), .ref 177] _
      refine pj_X_eqi (show pj_fi G 171 5 = y2 from hy2.symm) ?_
      refine pj_X_of (fun r h => pj_R_to (G, 36, [(0, .ref 171), (1, .int v1), (2, .int v2)], [.ref 171, .int y2, .ref 177], 0, 0) 36 2 (fun _ => rfl) h) ?_
      refine pj_X_of (fun r h => pj_T_gr hI rfl rfl rfl h) ?_
      refine pj_X_of (fun r h => pj_R_to (G, 42, [(0, .ref 171), (1, .int v1), (2, .int v2)], [.int ((Int32.ofInt 2) * v2), .ref 181, .int y2, .ref 177], 0, 0) 42 4 (fun _ => rfl) h) ?_
      obtain ⟨z28, hz28⟩ : ∃ z : Int32, z = (Int32.ofInt 2) * v2 := ⟨_, rfl⟩
      refine pj_X_eqi hz28.symm ?_
      have fz28_0 : z28.toInt = 2 * v2.toInt := by rw [hz28]; exact pj_mulL (by decide) (by omega) (by omega)
      refine pj_X_of (fun r h => pj_T_il hI rfl rfl (by omega) (by omega) h) ?_
      show pj_X _ _ G 43 [(0, .ref 171), (1, .int v1), (2, .int v2)] [.int (pj_ai G 181 z28.toInt.toNat), .int y2, .ref 177] _
      obtain ⟨z29, hz29⟩ : ∃ z : Int32, z = pj_ai G 181 z28.toInt.toNat := ⟨_, rfl⟩
      refine pj_X_eqi hz29.symm ?_
      have ez29 : (pj_ai G 181 z28.toInt.toNat).toInt = z29.toInt := by rw [hz29]
      have fz29_0 : (-1 : Int) ≤ z29.toInt ∧ z29.toInt ≤ 99 ∧ (z29.toInt ≤ -1 ∨ -1 ≤ z29.toInt) := by rw [hz29]; exact hI.2.2.1 181 (40, -1, 99, -1, -1) rfl _ (by show _ < 40; omega)
      refine pj_X_of (fun r h => pj_T_is hI rfl rfl (by omega) (by omega) h) ?_
      show pj_X _ _ (pj_wa G 177 y2.toInt.toNat z29) 44 [(0, .ref 171), (1, .int v1), (2, .int v2)] [] _
      obtain ⟨G30, hG30⟩ : ∃ H, H = pj_wa G 177 y2.toInt.toNat z29 := ⟨_, rfl⟩
      have iG30 : pj_Inv G30 := by rw [hG30]; exact pj_Inv_wa hI rfl (fun q hq => by cases hq) (fun n hn => by cases hn)
      have kG30 : pj_kpt kc_195t G0 G30 := by rw [hG30]; exact pj_kpt_a hK rfl
      rw [← hG30]
      refine pj_X_of (fun r h => pj_R_to (G30, 45, [(0, .ref 171), (1, .int v1), (2, .int v2)], [.ref 171], 0, 0) 45 2 (fun _ => rfl) h) ?_
      refine pj_X_of (fun r h => pj_T_gr iG30 rfl rfl rfl h) ?_
      refine pj_X_of (fun r h => pj_R_to (G30, 50, [(0, .ref 171), (1, .int v1), (2, .int v2)], [.ref 171, .int (Int32.ofInt 4), .ref 179], 0, 0) 50 3 (fun _ => rfl) h) ?_
      refine pj_X_of (fun r h => pj_T_gi iG30 rfl rfl h) ?_
      show pj_X _ _ G30 53 [(0, .ref 171), (1, .int v1), (2, .int v2)] [.int (pj_fi G30 171 5), .int (Int32.ofInt 4), .ref 179] _
      refine pj_X_eqi (show pj_fi G30 171 5 = y2 from by rw [hG30, pj_fi_wa]; exact hy2.symm) ?_
      refine pj_X_of (fun r h => pj_R_to (G30, 54, [(0, .ref 171), (1, .int v1), (2, .int v2)], [.int ((Int32.ofInt 4) * y2), .ref 179], 0, 0) 54 2 (fun _ => rfl) h) ?_
      obtain ⟨z31, hz31⟩ : ∃ z : Int32, z = (Int32.ofInt 4) * y2 := ⟨_, rfl⟩
      refine pj_X_eqi hz31.symm ?_
      have fz31_0 : z31.toInt = 4 * y2.toInt := by rw [hz31]; exact pj_mulL (by decide) (by omega) (by omega)
      refine pj_X_of (fun r h => pj_R_to (G30, 56, [(0, .ref 171), (1, .int v1), (2, .int v2)], [.int (z31 + (Int32.ofInt 0)), .ref 179], 0, 0) 56 3 (fun _ => rfl) h) ?_
      obtain ⟨z32, hz32⟩ : ∃ z : Int32, z = z31 + (Int32.ofInt 0) := ⟨_, rfl⟩
      refine pj_X_eqi hz32.symm ?_
      have fz32_0 : z32.toInt = z31.toInt + (Int32.ofInt 0).toInt := by rw [hz32]; exact pj_addI (by have := pj_i32 z31; have := pj_i32 (Int32.ofInt 0); omega) (by have := pj_i32 z31; have := pj_i32 (Int32.ofInt 0); omega)
      refine pj_X_of (fun r h => pj_R_to (G30, 57, [(0, .ref 171), (1, .int v1), (2, .int v2)], [.int (Int32.ofInt (-1)), .int z32, .ref 179], 0, 0) 57 2 (fun _ => rfl) h) ?_
      refine pj_X_of (fun r h => pj_T_is iG30 rfl rfl (by omega) (by omega) h) ?_
      show pj_X _ _ (pj_wa G30 179 z32.toInt.toNat (Int32.ofInt (-1))) 58 [(0, .ref 171), (1, .int v1), (2, .int v2)] [] _
      obtain ⟨G33, hG33⟩ : ∃ H, H = pj_wa G30 179 z32.toInt.toNat (Int32.ofInt (-1)) := ⟨_, rfl⟩
      have iG33 : pj_Inv G33 := by rw [hG33]; exact pj_Inv_wa iG30 rfl (fun q hq => by cases hq) (fun n hn => ⟨fun h1 => ⟨fun h2 => by omega, fun h2 => by omega⟩, fun h1 => by omega⟩)
      have kG33 : pj_kpt kc_195t G0 G33 := by rw [hG33]; exact pj_kpt_a kG30 rfl
      rw [← hG33]
      refine pj_X_of (fun r h => pj_R_to (G33, 59, [(0, .ref 171), (1, .int v1), (2, .int v2)], [.ref 171], 0, 0) 59 2 (fun _ => rfl) h) ?_
      refine pj_X_of (fun r h => pj_T_gr iG33 rfl rfl rfl h) ?_
      refine pj_X_of (fun r h => pj_R_to (G33, 64, [(0, .ref 171), (1, .int v1), (2, .int v2)], [.ref 171, .int (Int32.ofInt 4), .ref 179], 0, 0) 64 3 (fun _ => rfl) h) ?_
      refine pj_X_of (fun r h => pj_T_gi iG33 rfl rfl h) ?_
      show pj_X _ _ G33 67 [(0, .ref 171), (1, .int v1), (2, .int v2)] [.int (pj_fi G33 171 5), .int (Int32.ofInt 4), .ref 179] _
      refine pj_X_eqi (show pj_fi G33 171 5 = y2 from by rw [hG33, pj_fi_wa]; exact (by rw [hG30, pj_fi_wa]; exact hy2.symm)) ?_
      refine pj_X_of (fun r h => pj_R_to (G33, 68, [(0, .ref 171), (1, .int v1), (2, .int v2)], [.int ((Int32.ofInt 4) * y2), .ref 179], 0, 0) 68 2 (fun _ => rfl) h) ?_
      obtain ⟨z34, hz34⟩ : ∃ z : Int32, z = (Int32.ofInt 4) * y2 := ⟨_, rfl⟩
      refine pj_X_eqi hz34.symm ?_
      have fz34_0 : z34.toInt = 4 * y2.toInt := by rw [hz34]; exact pj_mulL (by decide) (by omega) (by omega)
      refine pj_X_of (fun r h => pj_R_to (G33, 70, [(0, .ref 171), (1, .int v1), (2, .int v2)], [.int (z34 + (Int32.ofInt 1)), .ref 179], 0, 0) 70 3 (fun _ => rfl) h) ?_
      obtain ⟨z35, hz35⟩ : ∃ z : Int32, z = z34 + (Int32.ofInt 1) := ⟨_, rfl⟩
      refine pj_X_eqi hz35.symm ?_
      have fz35_0 : z35.toInt = z34.toInt + (Int32.ofInt 1).toInt := by rw [hz35]; exact pj_addI (by have := pj_i32 z34; have := pj_i32 (Int32.ofInt 1); omega) (by have := pj_i32 z34; have := pj_i32 (Int32.ofInt 1); omega)
      refine pj_X_of (fun r h => pj_R_to (G33, 71, [(0, .ref 171), (1, .int v1), (2, .int v2)], [.int (Int32.ofInt 0), .int z35, .ref 179], 0, 0) 71 2 (fun _ => rfl) h) ?_
      refine pj_X_of (fun r h => pj_T_is iG33 rfl rfl (by omega) (by omega) h) ?_
      show pj_X _ _ (pj_wa G33 179 z35.toInt.toNat (Int32.ofInt 0)) 72 [(0, .ref 171), (1, .int v1), (2, .int v2)] [] _
      obtain ⟨G36, hG36⟩ : ∃ H, H = pj_wa G33 179 z35.toInt.toNat (Int32.ofInt 0) := ⟨_, rfl⟩
      have iG36 : pj_Inv G36 := by rw [hG36]; exact pj_Inv_wa iG33 rfl (fun q hq => by cases hq) (fun n hn => ⟨fun h1 => ⟨fun h2 => by omega, fun h2 => by omega⟩, fun h1 => by omega⟩)
      have kG36 : pj_kpt kc_195t G0 G36 := by rw [hG36]; exact pj_kpt_a kG33 rfl
      rw [← hG36]
      refine pj_X_of (fun r h => pj_R_to (G36, 73, [(0, .ref 171), (1, .int v1), (2, .int v2)], [.ref 171], 0, 0) 73 2 (fun _ => rfl) h) ?_
      refine pj_X_of (fun r h => pj_T_gr iG36 rfl rfl rfl h) ?_
      refine pj_X_of (fun r h => pj_R_to (G36, 78, [(0, .ref 171), (1, .int v1), (2, .int v2)], [.ref 171, .int (Int32.ofInt 4), .ref 179], 0, 0) 78 3 (fun _ => rfl) h) ?_
      refine pj_X_of (fun r h => pj_T_gi iG36 rfl rfl h) ?_
      show pj_X _ _ G36 81 [(0, .ref 171), (1, .int v1), (2, .int v2)] [.int (pj_fi G36 171 5), .int (Int32.ofInt 4), .ref 179] _
      refine pj_X_eqi (show pj_fi G36 171 5 = y2 from by rw [hG36, pj_fi_wa]; exact (by rw [hG33, pj_fi_wa]; exact (by rw [hG30, pj_fi_wa]; exact hy2.symm))) ?_
      refine pj_X_of (fun r h => pj_R_to (G36, 82, [(0, .ref 171), (1, .int v1), (2, .int v2)], [.int ((Int32.ofInt 4) * y2), .ref 179], 0, 0) 82 2 (fun _ => rfl) h) ?_
      obtain ⟨z37, hz37⟩ : ∃ z : Int32, z = (Int32.ofInt 4) * y2 := ⟨_, rfl⟩
      refine pj_X_eqi hz37.symm ?_
      have fz37_0 : z37.toInt = 4 * y2.toInt := by rw [hz37]; exact pj_mulL (by decide) (by omega) (by omega)
      refine pj_X_of (fun r h => pj_R_to (G36, 84, [(0, .ref 171), (1, .int v1), (2, .int v2)], [.int (z37 + (Int32.ofInt 2)), .ref 179], 0, 0) 84 3 (fun _ => rfl) h) ?_
      obtain ⟨z38, hz38⟩ : ∃ z : Int32, z = z37 + (Int32.ofInt 2) := ⟨_, rfl⟩
      refine pj_X_eqi hz38.symm ?_
      have fz38_0 : z38.toInt = z37.toInt + (Int32.ofInt 2).toInt := by rw [hz38]; exact pj_addI (by have := pj_i32 z37; have := pj_i32 (Int32.ofInt 2); omega) (by have := pj_i32 z37; have := pj_i32 (Int32.ofInt 2); omega)
      refine pj_X_of (fun r h => pj_R_to (G36, 85, [(0, .ref 171), (1, .int v1), (2, .int v2)], [.int (Int32.ofInt (-1)), .int z38, .ref 179], 0, 0) 85 2 (fun _ => rfl) h) ?_
      refine pj_X_of (fun r h => pj_T_is iG36 rfl rfl (by omega) (by omega) h) ?_
      show pj_X _ _ (pj_wa G36 179 z38.toInt.toNat (Int32.ofInt (-1))) 86 [(0, .ref 171), (1, .int v1), (2, .int v2)] [] _
      obtain ⟨G39, hG39⟩ : ∃ H, H = pj_wa G36 179 z38.toInt.toNat (Int32.ofInt (-1)) := ⟨_, rfl⟩
      have iG39 : pj_Inv G39 := by rw [hG39]; exact pj_Inv_wa iG36 rfl (fun q hq => by cases hq) (fun n hn => ⟨fun h1 => ⟨fun h2 => by omega, fun h2 => by omega⟩, fun h1 => by omega⟩)
      have kG39 : pj_kpt kc_195t G0 G39 := by rw [hG39]; exact pj_kpt_a kG36 rfl
      rw [← hG39]
      refine pj_X_of (fun r h => pj_R_to (G39, 87, [(0, .ref 171), (1, .int v1), (2, .int v2)], [.ref 171], 0, 0) 87 2 (fun _ => rfl) h) ?_
      refine pj_X_of (fun r h => pj_T_gr iG39 rfl rfl rfl h) ?_
      refine pj_X_of (fun r h => pj_R_to (G39, 92, [(0, .ref 171), (1, .int v1), (2, .int v2)], [.ref 171, .int (Int32.ofInt 4), .ref 179], 0, 0) 92 3 (fun _ => rfl) h) ?_
      refine pj_X_of (fun r h => pj_T_gi iG39 rfl rfl h) ?_
      show pj_X _ _ G39 95 [(0, .ref 171), (1, .int v1), (2, .int v2)] [.int (pj_fi G39 171 5), .int (Int32.ofInt 4), .ref 179] _
      refine pj_X_eqi (show pj_fi G39 171 5 = y2 from by rw [hG39, pj_fi_wa]; exact (by rw [hG36, pj_fi_wa]; exact (by rw [hG33, pj_fi_wa]; exact (by rw [hG30, pj_fi_wa]; exact hy2.symm)))) ?_
      refine pj_X_of (fun r h => pj_R_to (G39, 96, [(0, .ref 171), (1, .int v1), (2, .int v2)], [.int ((Int32.ofInt 4) * y2), .ref 179], 0, 0) 96 2 (fun _ => rfl) h) ?_
      obtain ⟨z40, hz40⟩ : ∃ z : Int32, z = (Int32.ofInt 4) * y2 := ⟨_, rfl⟩
      refine pj_X_eqi hz40.symm ?_
      have fz40_0 : z40.toInt = 4 * y2.toInt := by rw [hz40]; exact pj_mulL (by decide) (by omega) (by omega)
      refine pj_X_of (fun r h => pj_R_to (G39, 98, [(0, .ref 171), (1, .int v1), (2, .int v2)], [.int (z40 + (Int32.ofInt 3)), .ref 179], 0, 0) 98 3 (fun _ => rfl) h) ?_
      obtain ⟨z41, hz41⟩ : ∃ z : Int32, z = z40 + (Int32.ofInt 3) := ⟨_, rfl⟩
      refine pj_X_eqi hz41.symm ?_
      have fz41_0 : z41.toInt = z40.toInt + (Int32.ofInt 3).toInt := by rw [hz41]; exact pj_addI (by have := pj_i32 z40; have := pj_i32 (Int32.ofInt 3); omega) (by have := pj_i32 z40; have := pj_i32 (Int32.ofInt 3); omega)
      refine pj_X_of (fun r h => pj_R_to (G39, 99, [(0, .ref 171), (1, .int v1), (2, .int v2)], [.ref 171, .int z41, .ref 179], 0, 0) 99 2 (fun _ => rfl) h) ?_
      refine pj_X_of (fun r h => pj_T_gr iG39 rfl rfl rfl h) ?_
      refine pj_X_of (fun r h => pj_R_to (G39, 105, [(0, .ref 171), (1, .int v1), (2, .int v2)], [.int ((Int32.ofInt 2) * v2), .ref 181, .int z41, .ref 179], 0, 0) 105 4 (fun _ => rfl) h) ?_
      obtain ⟨z42, hz42⟩ : ∃ z : Int32, z = (Int32.ofInt 2) * v2 := ⟨_, rfl⟩
      refine pj_X_eqi hz42.symm ?_
      have fz42_0 : z42.toInt = 2 * v2.toInt := by rw [hz42]; exact pj_mulL (by decide) (by omega) (by omega)
      refine pj_X_of (fun r h => pj_R_to (G39, 107, [(0, .ref 171), (1, .int v1), (2, .int v2)], [.int (z42 + (Int32.ofInt 1)), .ref 181, .int z41, .ref 179], 0, 0) 107 3 (fun _ => rfl) h) ?_
      obtain ⟨z43, hz43⟩ : ∃ z : Int32, z = z42 + (Int32.ofInt 1) := ⟨_, rfl⟩
      refine pj_X_eqi hz43.symm ?_
      have fz43_0 : z43.toInt = z42.toInt + (Int32.ofInt 1).toInt := by rw [hz43]; exact pj_addI (by have := pj_i32 z42; have := pj_i32 (Int32.ofInt 1); omega) (by have := pj_i32 z42; have := pj_i32 (Int32.ofInt 1); omega)
      refine pj_X_of (fun r h => pj_T_il iG39 rfl rfl (by omega) (by omega) h) ?_
      show pj_X _ _ G39 108 [(0, .ref 171), (1, .int v1), (2, .int v2)] [.int (pj_ai G39 181 z43.toInt.toNat), .int z41, .ref 179] _
      obtain ⟨z44, hz44⟩ : ∃ z : Int32, z = pj_ai G39 181 z43.toInt.toNat := ⟨_, rfl⟩
      refine pj_X_eqi hz44.symm ?_
      have ez44 : (pj_ai G39 181 z43.toInt.toNat).toInt = z44.toInt := by rw [hz44]
      have fz44_0 : (-1 : Int) ≤ z44.toInt ∧ z44.toInt ≤ 99 ∧ (z44.toInt ≤ -1 ∨ -1 ≤ z44.toInt) := by rw [hz44]; exact iG39.2.2.1 181 (40, -1, 99, -1, -1) rfl _ (by show _ < 40; omega)
      refine pj_X_of (fun r h => pj_T_is iG39 rfl rfl (by omega) (by omega) h) ?_
      show pj_X _ _ (pj_wa G39 179 z41.toInt.toNat z44) 109 [(0, .ref 171), (1, .int v1), (2, .int v2)] [] _
      obtain ⟨G45, hG45⟩ : ∃ H, H = pj_wa G39 179 z41.toInt.toNat z44 := ⟨_, rfl⟩
      have iG45 : pj_Inv G45 := by rw [hG45]; exact pj_Inv_wa iG39 rfl (fun q hq => by cases hq) (fun n hn => ⟨fun h1 => ⟨fun h2 => by omega, fun h2 => by omega⟩, fun h1 => by omega⟩)
      have kG45 : pj_kpt kc_195t G0 G45 := by rw [hG45]; exact pj_kpt_a kG39 rfl
      rw [← hG45]
      refine pj_X_of (fun r h => pj_R_to (G45, 111, [(0, .ref 171), (1, .int v1), (2, .int v2)], [.ref 171, .ref 171], 0, 0) 111 3 (fun _ => rfl) h) ?_
      refine pj_X_of (fun r h => pj_T_gi iG45 rfl rfl h) ?_
      show pj_X _ _ G45 114 [(0, .ref 171), (1, .int v1), (2, .int v2)] [.int (pj_fi G45 171 5), .ref 171] _
      refine pj_X_eqi (show pj_fi G45 171 5 = y2 from by rw [hG45, pj_fi_wa]; exact (by rw [hG39, pj_fi_wa]; exact (by rw [hG36, pj_fi_wa]; exact (by rw [hG33, pj_fi_wa]; exact (by rw [hG30, pj_fi_wa]; exact hy2.symm))))) ?_
      refine pj_X_of (fun r h => pj_R_to (G45, 116, [(0, .ref 171), (1, .int v1), (2, .int v2)], [.int (y2 + (Int32.ofInt 1)), .ref 171], 0, 0) 116 3 (fun _ => rfl) h) ?_
      obtain ⟨z46, hz46⟩ : ∃ z : Int32, z = y2 + (Int32.ofInt 1) := ⟨_, rfl⟩
      refine pj_X_eqi hz46.symm ?_
      have fz46_0 : z46.toInt = y2.toInt + (Int32.ofInt 1).toInt := by rw [hz46]; exact pj_addI (by have := pj_i32 y2; have := pj_i32 (Int32.ofInt 1); omega) (by have := pj_i32 y2; have := pj_i32 (Int32.ofInt 1); omega)
      refine pj_X_of (fun r h => pj_T_pf iG45 rfl rfl rfl h) ?_
      show pj_X _ _ (pj_wv G45 171 5 (.int z46)) 119 [(0, .ref 171), (1, .int v1), (2, .int v2)] [] _
      obtain ⟨G47, hG47⟩ : ∃ H, H = pj_wv G45 171 5 (.int z46) := ⟨_, rfl⟩
      have iG47 : pj_Inv G47 := by rw [hG47]; exact pj_Inv_wi iG45 (ci := 12) rfl (fun q hq => by cases hq; exact ⟨by show (0 : Int) ≤ _; omega, by show _ ≤ (6 : Int); omega⟩)
      have kG47 : pj_kpt kc_195t G0 G47 := by rw [hG47]; exact pj_kpt_v kG45 rfl
      rw [← hG47]
      refine pj_X_of (fun r h => pj_R_to (G47, 122, [(2, .int (v2 + Int32.ofInt 1)), (0, .ref 171), (1, .int v1)], [], 0, 0) 122 2 (fun _ => rfl) h) ?_
      obtain ⟨z48, hz48⟩ : ∃ z : Int32, z = v2 + Int32.ofInt 1 := ⟨_, rfl⟩
      rw [← hz48]
      have fz48_0 : z48.toInt = v2.toInt + (Int32.ofInt 1).toInt := by rw [hz48]; exact pj_addI (by have := pj_i32 v2; have := pj_i32 (Int32.ofInt 1); omega) (by have := pj_i32 v2; have := pj_i32 (Int32.ofInt 1); omega)
      refine pj_X_of (fun r h => pj_R_to (G47, 19, [(2, .int z48), (0, .ref 171), (1, .int v1)], [], 0, 0) 19 2 (fun _ => rfl) h) ?_
      have q49 : (pj_fi G47 171 30).toInt = y1.toInt := by rw [show pj_fi G47 171 30 = y1 from by rw [hG47, pj_fi_wv_ne _ _ _ _ _ _ (by decide)]; exact (by rw [hG45, pj_fi_wa]; exact (by rw [hG39, pj_fi_wa]; exact (by rw [hG36, pj_fi_wa]; exact (by rw [hG33, pj_fi_wa]; exact (by rw [hG30, pj_fi_wa]; exact hy1.symm)))))]
      have q50 : (pj_fi G47 171 5).toInt = z46.toInt := by rw [show pj_fi G47 171 5 = z46 from by rw [hG47]; exact pj_fi_wi iG45.1 (ci := 12) rfl _]
      have q51 : (pj_fi G47 171 22).toInt = y3.toInt := by rw [show pj_fi G47 171 22 = y3 from by rw [hG47, pj_fi_wv_ne _ _ _ _ _ _ (by decide)]; exact (by rw [hG45, pj_fi_wa]; exact (by rw [hG39, pj_fi_wa]; exact (by rw [hG36, pj_fi_wa]; exact (by rw [hG33, pj_fi_wa]; exact (by rw [hG30, pj_fi_wa]; exact hy3.symm)))))]
      have q52 : (pj_fi G47 171 16).toInt = y4.toInt := by rw [show pj_fi G47 171 16 = y4 from by rw [hG47, pj_fi_wv_ne _ _ _ _ _ _ (by decide)]; exact (by rw [hG45, pj_fi_wa]; exact (by rw [hG39, pj_fi_wa]; exact (by rw [hG36, pj_fi_wa]; exact (by rw [hG33, pj_fi_wa]; exact (by rw [hG30, pj_fi_wa]; exact hy4.symm)))))]
      exact pj_X_sub [(0, .ref 171), (1, .int v1), (2, .int z48)] (show List.Nodup [0, 1, 2] by decide) ⟨rfl, rfl, rfl, trivial⟩ (ih G47 iG47 kG47 v1 z48 ⟨by omega, by omega⟩ ⟨by omega, by omega⟩ (by omega) (by omega) (by omega) (by omega) (by omega) (by omega))
theorem ct_195t (G0 : pj_G) (hI : pj_Inv G0) (p0_ : (pj_fi G0 171 30).toInt ≤ 15) : pj_Y 21 195 [.ref 171] G0 (fun v G' => ∃ y : Int32, v = some (.int y) ∧ pj_Inv G' ∧ pj_kpt kc_195t G0 G' ∧ ((-2147483648 : Int) ≤ y.toInt ∧ y.toInt ≤ 2147483647) ∧ (((pj_fi G' 171 30).toInt ≤ 15) ∧ (pj_fi G' 171 16).toInt = 0)) := by
  have c0_ : (Int32.ofInt (-1)).toInt = -1 := by decide
  have c1_ : (Int32.ofInt 0).toInt = 0 := by decide
  have c2_ : (Int32.ofInt 1).toInt = 1 := by decide
  have c3_ : (Int32.ofInt 2).toInt = 2 := by decide
  have c4_ : (Int32.ofInt 3).toInt = 3 := by decide
  have c5_ : (Int32.ofInt 4).toInt = 4 := by decide
  refine pj_Y_X (M := pj_m195) rfl rfl (Nat.le_of_ble_eq_true rfl) ?_
  have hK : pj_kpt kc_195t G0 G0 := pj_kpt_r _ _
  show pj_X _ _ G0 0 [(0, .ref 171)] [] _
  obtain ⟨y53, hy53⟩ : ∃ z : Int32, z = pj_fi G0 171 30 := ⟨_, rfl⟩
  have ey53 : (pj_fi G0 171 30).toInt = y53.toInt := by rw [hy53]
  have ry53 : (0 : Int) ≤ y53.toInt ∧ y53.toInt ≤ 16 := by rw [hy53]; exact hI.2.1 171 30 (0, 16) rfl
  obtain ⟨y54, hy54⟩ : ∃ z : Int32, z = pj_fi G0 171 5 := ⟨_, rfl⟩
  have ey54 : (pj_fi G0 171 5).toInt = y54.toInt := by rw [hy54]
  have ry54 : (0 : Int) ≤ y54.toInt ∧ y54.toInt ≤ 6 := by rw [hy54]; exact hI.2.1 171 5 (0, 6) rfl
  obtain ⟨y55, hy55⟩ : ∃ z : Int32, z = pj_fi G0 171 22 := ⟨_, rfl⟩
  have ey55 : (pj_fi G0 171 22).toInt = y55.toInt := by rw [hy55]
  have ry55 : (0 : Int) ≤ y55.toInt ∧ y55.toInt ≤ 10 := by rw [hy55]; exact hI.2.1 171 22 (0, 10) rfl
  obtain ⟨y56, hy56⟩ : ∃ z : Int32, z = pj_fi G0 171 16 := ⟨_, rfl⟩
  have ey56 : (pj_fi G0 171 16).toInt = y56.toInt := by rw [hy56]
  have ry56 : (0 : Int) ≤ y56.toInt ∧ y56.toInt ≤ 80 := by rw [hy56]; exact hI.2.1 171 16 (0, 80) rfl
  refine pj_X_of (fun r h => pj_R_to (G0, 2, [(0, .ref 171)], [.int (Int32.ofInt 0), .ref 171], 0, 0) 2 3 (fun _ => rfl) h) ?_
  refine pj_X_of (fun r h => pj_T_pf hI rfl rfl rfl h) ?_
  show pj_X _ _ (pj_wv G0 171 0 (.int (Int32.ofInt 0))) 5 [(0, .ref 171)] [] _
  obtain ⟨G57, hG57⟩ : ∃ H, H = pj_wv G0 171 0 (.int (Int32.ofInt 0)) := ⟨_, rfl⟩
  have iG57 : pj_Inv G57 := by rw [hG57]; exact pj_Inv_wi hI (ci := 12) rfl (fun q hq => by cases hq)
  have kG57 : pj_kpt kc_195t G0 G57 := by rw [hG57]; exact pj_kpt_v hK rfl
  rw [← hG57]
  refine pj_X_of (fun r h => pj_R_to (G57, 7, [(0, .ref 171)], [.int (Int32.ofInt 1), .ref 171], 0, 0) 7 3 (fun _ => rfl) h) ?_
  have q58 : (pj_fi G57 171 30).toInt = y53.toInt := by rw [show pj_fi G57 171 30 = y53 from by rw [hG57, pj_fi_wv_ne _ _ _ _ _ _ (by decide)]; exact hy53.symm]
  have q59 : (pj_fi G57 171 5).toInt = y54.toInt := by rw [show pj_fi G57 171 5 = y54 from by rw [hG57, pj_fi_wv_ne _ _ _ _ _ _ (by decide)]; exact hy54.symm]
  have q60 : (pj_fi G57 171 22).toInt = y55.toInt := by rw [show pj_fi G57 171 22 = y55 from by rw [hG57, pj_fi_wv_ne _ _ _ _ _ _ (by decide)]; exact hy55.symm]
  have q61 : (pj_fi G57 171 16).toInt = y56.toInt := by rw [show pj_fi G57 171 16 = y56 from by rw [hG57, pj_fi_wv_ne _ _ _ _ _ _ (by decide)]; exact hy56.symm]
  refine pj_X_ca (vs := [.ref 171, .int (Int32.ofInt 1)]) rfl (fun _ => rfl) ⟨Nat.le_of_ble_eq_true rfl, Nat.le_of_ble_eq_true rfl, pj_T_rcv iG57 rfl⟩ ⟨rfl, rfl⟩ (pj_Y_up (by decide) (ct_194_1t G57 iG57 (Int32.ofInt 1) ⟨by omega, by omega⟩)) ?_
  rintro _ G63 ⟨y62, rfl, iG63, jG63, ry62, ey62⟩
  have kG63 : pj_kpt kc_195t G0 G63 := pj_kpt_t kG57 (pj_kpt_s jG63 rfl)
  have q64 : (pj_fi G63 171 30).toInt = (pj_fi G57 171 30).toInt := by rw [jG63.1 (171, 30) (by decide)]
  have q65 : (pj_fi G63 171 5).toInt = (pj_fi G57 171 5).toInt := by rw [jG63.1 (171, 5) (by decide)]
  obtain ⟨y66, hy66⟩ : ∃ z : Int32, z = pj_fi G63 171 30 := ⟨_, rfl⟩
  have ey66 : (pj_fi G63 171 30).toInt = y66.toInt := by rw [hy66]
  have ry66 : (0 : Int) ≤ y66.toInt ∧ y66.toInt ≤ 16 := by rw [hy66]; exact iG63.2.1 171 30 (0, 16) rfl
  obtain ⟨y67, hy67⟩ : ∃ z : Int32, z = pj_fi G63 171 5 := ⟨_, rfl⟩
  have ey67 : (pj_fi G63 171 5).toInt = y67.toInt := by rw [hy67]
  have ry67 : (0 : Int) ≤ y67.toInt ∧ y67.toInt ≤ 6 := by rw [hy67]; exact iG63.2.1 171 5 (0, 6) rfl
  obtain ⟨y68, hy68⟩ : ∃ z : Int32, z = pj_fi G63 171 22 := ⟨_, rfl⟩
  have ey68 : (pj_fi G63 171 22).toInt = y68.toInt := by rw [hy68]
  have ry68 : (0 : Int) ≤ y68.toInt ∧ y68.toInt ≤ 10 := by rw [hy68]; exact iG63.2.1 171 22 (0, 10) rfl
  obtain ⟨y69, hy69⟩ : ∃ z : Int32, z = pj_fi G63 171 16 := ⟨_, rfl⟩
  have ey69 : (pj_fi G63 171 16).toInt = y69.toInt := by rw [hy69]
  have ry69 : (0 : Int) ≤ y69.toInt ∧ y69.toInt ≤ 80 := by rw [hy69]; exact iG63.2.1 171 16 (0, 80) rfl
  show pj_X _ _ G63 10 [(0, .ref 171)] [.int y62] _
  refine pj_X_of (fun r h => pj_R_to (G63, 12, [(1, .int y62), (0, .ref 171)], [.int y62], 0, 0) 12 3 (fun _ => rfl) h) ?_
  cases b70 : pj_c1 .ge y62 0 with
  | true =>
    have ub70 := pj_u0_geT b70
    refine pj_X_of (fun r h => pj_R_ifT 17 rfl rfl b70 h) ?_
    refine pj_X_of (fun r h => pj_R_to (G63, 19, [(2, .int (Int32.ofInt 0)), (1, .int y62), (0, .ref 171)], [], 0, 0) 19 3 (fun _ => rfl) h) ?_
    have q71 : (pj_fi G63 171 30).toInt = y66.toInt := by rw [show pj_fi G63 171 30 = y66 from hy66.symm]
    have q72 : (pj_fi G63 171 5).toInt = y67.toInt := by rw [show pj_fi G63 171 5 = y67 from hy67.symm]
    have q73 : (pj_fi G63 171 22).toInt = y68.toInt := by rw [show pj_fi G63 171 22 = y68 from hy68.symm]
    have q74 : (pj_fi G63 171 16).toInt = y69.toInt := by rw [show pj_fi G63 171 16 = y69 from hy69.symm]
    exact pj_X_sub [(0, .ref 171), (1, .int y62), (2, .int (Int32.ofInt 0))] (show List.Nodup [0, 1, 2] by decide) ⟨rfl, rfl, rfl, trivial⟩ ((lp_ct_195t G0 hI   p0_ 7) G63 iG63 kG63 y62 (Int32.ofInt 0) ⟨by omega, by omega⟩ ⟨by omega, by omega⟩ (by omega) (by omega) (by omega) (by omega) (by omega) (by omega))
  | false =>
    have ub70 := pj_u0_geF b70
    refine pj_X_of (fun r h => pj_R_ifF rfl b70 h) ?_
    refine pj_X_of (fun r h => pj_R_to (G63, 16, [(1, .int y62), (0, .ref 171)], [.int y62], 0, 0) 16 2 (fun _ => rfl) h) ?_
    have q75 : (pj_fi G63 171 30).toInt = y66.toInt := by rw [show pj_fi G63 171 30 = y66 from hy66.symm]
    have q76 : (pj_fi G63 171 5).toInt = y67.toInt := by rw [show pj_fi G63 171 5 = y67 from hy67.symm]
    have q77 : (pj_fi G63 171 22).toInt = y68.toInt := by rw [show pj_fi G63 171 22 = y68 from hy68.symm]
    have q78 : (pj_fi G63 171 16).toInt = y69.toInt := by rw [show pj_fi G63 171 16 = y69 from hy69.symm]
    exact pj_X_rt rfl rfl ⟨_, rfl, iG63, kG63, pj_i32 _, by omega⟩
def kc_196t : pj_KT := ([(171, 0), (171, 6), (171, 7), (171, 16), (171, 17), (171, 18), (171, 19), (171, 22), (171, 30)], [171, 178, 179, 181], [178, 179, 181])
theorem lp_ct_196t (G0 : pj_G) (hI0 : pj_Inv G0) (p0_ : (pj_fi G0 171 30).toInt ≤ 15) : ∀ mn : Nat, (∀ (G : pj_G) (hI : pj_Inv G) (hK : pj_kpt kc_196t G0 G) (v1 : Int32) (v2 : Int32), ((-81 : Int) ≤ v1.toInt ∧ v1.toInt ≤ 0) → ((0 : Int) ≤ v2.toInt ∧ v2.toInt ≤ 6) → (pj_re G (pj_fi G 171 22).toInt) → ((pj_fi G 171 30).toInt ≤ 15) → ((pj_fi G 171 6).toInt + (pj_fi G 171 22).toInt - v2.toInt ≤ 6) → (v2.toInt ≤ (pj_fi G 171 22).toInt) → ((pj_fi G 171 22).toInt ≤ 6) → ((pj_fi G 171 16).toInt = 0) → 6 - v2.toInt < (mn : Int) → pj_X 20 pj_m196 G 19 [(0, .ref 171), (1, .int v1), (2, .int v2)] [] (fun v G' => ∃ y : Int32, v = some (.int y) ∧ pj_Inv G' ∧ pj_kpt kc_196t G0 G' ∧ ((-2147483648 : Int) ≤ y.toInt ∧ y.toInt ≤ 2147483647) ∧ (((pj_fi G' 171 30).toInt ≤ 15) ∧ (pj_fi G' 171 16).toInt = 0))) := by
  have c0_ : ((Int8.ofInt 24).toInt32).toInt = 24 := by decide
  have c1_ : (Int32.ofInt 0).toInt = 0 := by decide
  have c2_ : (Int32.ofInt 1).toInt = 1 := by decide
  have c3_ : (Int32.ofInt 2).toInt = 2 := by decide
  intro mn
  induction mn with
  | zero =>
    intro G hI hK v1 v2 rv1 rv2 x0_ x1_ x2_ x3_ x4_ x5_ hm
    exfalso
    omega
  | succ mn ih =>
    intro G hI hK v1 v2 rv1 rv2 x0_ x1_ x2_ x3_ x4_ x5_ hm
    obtain ⟨y1, hy1⟩ : ∃ z : Int32, z = pj_fi G 171 30 := ⟨_, rfl⟩
    have ey1 : (pj_fi G 171 30).toInt = y1.toInt := by rw [hy1]
    have ry1 : (0 : Int) ≤ y1.toInt ∧ y1.toInt ≤ 16 := by rw [hy1]; exact hI.2.1 171 30 (0, 16) rfl
    obtain ⟨y2, hy2⟩ : ∃ z : Int32, z = pj_fi G 171 6 := ⟨_, rfl⟩
    have ey2 : (pj_fi G 171 6).toInt = y2.toInt := by rw [hy2]
    have ry2 : (0 : Int) ≤ y2.toInt ∧ y2.toInt ≤ 6 := by rw [hy2]; exact hI.2.1 171 6 (0, 6) rfl
    obtain ⟨y3, hy3⟩ : ∃ z : Int32, z = pj_fi G 171 22 := ⟨_, rfl⟩
    have ey3 : (pj_fi G 171 22).toInt = y3.toInt := by rw [hy3]
    have ry3 : (0 : Int) ≤ y3.toInt ∧ y3.toInt ≤ 10 := by rw [hy3]; exact hI.2.1 171 22 (0, 10) rfl
    obtain ⟨y4, hy4⟩ : ∃ z : Int32, z = pj_fi G 171 16 := ⟨_, rfl⟩
    have ey4 : (pj_fi G 171 16).toInt = y4.toInt := by rw [hy4]
    have ry4 : (0 : Int) ≤ y4.toInt ∧ y4.toInt ≤ 80 := by rw [hy4]; exact hI.2.1 171 16 (0, 80) rfl
    refine pj_X_of (fun r h => pj_R_to (G, 21, [(0, .ref 171), (1, .int v1), (2, .int v2)], [.ref 171, .int v2], 0, 0) 21 3 (fun _ => rfl) h) ?_
    refine pj_X_of (fun r h => pj_T_gi hI rfl rfl h) ?_
    show pj_X _ _ G 24 [(0, .ref 171), (1, .int v1), (2, .int v2)] [.int (pj_fi G 171 22), .int v2] _
    refine pj_X_eqi (show pj_fi G 171 22 = y3 from hy3.symm) ?_
    cases b5 : pj_c1 .ge v2 y3 with
    | true =>
      have ub5 := pj_u_geT b5
      refine pj_X_of (fun r h => pj_R_icT 82 rfl rfl b5 h) ?_
      refine pj_X_of (fun r h => pj_R_to (G, 83, [(0, .ref 171), (1, .int v1), (2, .int v2)], [.ref 171], 0, 0) 83 2 (fun _ => rfl) h) ?_
      refine pj_X_of (fun r h => pj_T_gi hI rfl rfl h) ?_
      show pj_X _ _ G 86 [(0, .ref 171), (1, .int v1), (2, .int v2)] [.int (pj_fi G 171 22)] _
      refine pj_X_eqi (show pj_fi G 171 22 = y3 from hy3.symm) ?_
      cases b6 : pj_c1 .le y3 0 with
      | true =>
        have ub6 := pj_u0_leT b6
        refine pj_X_of (fun r h => pj_R_ifT 93 rfl rfl b6 h) ?_
        refine pj_X_of (fun r h => pj_R_to (G, 94, [(0, .ref 171), (1, .int v1), (2, .int v2)], [.ref 171], 0, 0) 94 2 (fun _ => rfl) h) ?_
        refine pj_X_of (fun r h => pj_T_gi hI rfl rfl h) ?_
        show pj_X _ _ G 97 [(0, .ref 171), (1, .int v1), (2, .int v2)] [.int (pj_fi G 171 22)] _
        refine pj_X_eqi (show pj_fi G 171 22 = y3 from hy3.symm) ?_
        have q7 : (pj_fi G 171 30).toInt = y1.toInt := by rw [show pj_fi G 171 30 = y1 from hy1.symm]
        have q8 : (pj_fi G 171 6).toInt = y2.toInt := by rw [show pj_fi G 171 6 = y2 from hy2.symm]
        have q9 : (pj_fi G 171 22).toInt = y3.toInt := by rw [show pj_fi G 171 22 = y3 from hy3.symm]
        have q10 : (pj_fi G 171 16).toInt = y4.toInt := by rw [show pj_fi G 171 16 = y4 from hy4.symm]
        exact pj_X_rt rfl rfl ⟨_, rfl, hI, hK, pj_i32 _, by omega⟩
      | false =>
        have ub6 := pj_u0_leF b6
        refine pj_X_of (fun r h => pj_R_ifF rfl b6 h) ?_
        refine pj_X_of (fun r h => pj_R_to (G, 90, [(0, .ref 171), (1, .int v1), (2, .int v2)], [.ref 171], 0, 0) 90 2 (fun _ => rfl) h) ?_
        have q11 : (pj_fi G 171 30).toInt = y1.toInt := by rw [show pj_fi G 171 30 = y1 from hy1.symm]
        have q12 : (pj_fi G 171 6).toInt = y2.toInt := by rw [show pj_fi G 171 6 = y2 from hy2.symm]
        have q13 : (pj_fi G 171 22).toInt = y3.toInt := by rw [show pj_fi G 171 22 = y3 from hy3.symm]
        have q14 : (pj_fi G 171 16).toInt = y4.toInt := by rw [show pj_fi G 171 16 = y4 from hy4.symm]
        refine pj_X_ca (vs := [.ref 171]) rfl (fun _ => rfl) ⟨Nat.le_of_ble_eq_true rfl, Nat.le_of_ble_eq_true rfl, pj_T_rcv hI rfl⟩ ⟨rfl, rfl⟩ (pj_Y_up (by decide) (ct_192 G hI)) ?_
        rintro _ G16 ⟨rfl, iG16, jG16, eG16⟩
        have kG16 : pj_kpt kc_196t G0 G16 := pj_kpt_t hK (pj_kpt_s jG16 rfl)
        have q17 : (pj_fi G16 171 6).toInt = (pj_fi G 171 6).toInt := by rw [jG16.1 (171, 6) (by decide)]
        have q18 : (pj_fi G16 171 22).toInt = (pj_fi G 171 22).toInt := by rw [jG16.1 (171, 22) (by decide)]
        have q19 : (pj_fi G16 171 16).toInt = (pj_fi G 171 16).toInt := by rw [jG16.1 (171, 16) (by decide)]
        obtain ⟨y20, hy20⟩ : ∃ z : Int32, z = pj_fi G16 171 30 := ⟨_, rfl⟩
        have ey20 : (pj_fi G16 171 30).toInt = y20.toInt := by rw [hy20]
        have ry20 : (0 : Int) ≤ y20.toInt ∧ y20.toInt ≤ 16 := by rw [hy20]; exact iG16.2.1 171 30 (0, 16) rfl
        obtain ⟨y21, hy21⟩ : ∃ z : Int32, z = pj_fi G16 171 6 := ⟨_, rfl⟩
        have ey21 : (pj_fi G16 171 6).toInt = y21.toInt := by rw [hy21]
        have ry21 : (0 : Int) ≤ y21.toInt ∧ y21.toInt ≤ 6 := by rw [hy21]; exact iG16.2.1 171 6 (0, 6) rfl
        obtain ⟨y22, hy22⟩ : ∃ z : Int32, z = pj_fi G16 171 22 := ⟨_, rfl⟩
        have ey22 : (pj_fi G16 171 22).toInt = y22.toInt := by rw [hy22]
        have ry22 : (0 : Int) ≤ y22.toInt ∧ y22.toInt ≤ 10 := by rw [hy22]; exact iG16.2.1 171 22 (0, 10) rfl
        obtain ⟨y23, hy23⟩ : ∃ z : Int32, z = pj_fi G16 171 16 := ⟨_, rfl⟩
        have ey23 : (pj_fi G16 171 16).toInt = y23.toInt := by rw [hy23]
        have ry23 : (0 : Int) ≤ y23.toInt ∧ y23.toInt ≤ 80 := by rw [hy23]; exact iG16.2.1 171 16 (0, 80) rfl
        show pj_X _ _ G16 93 [(0, .ref 171), (1, .int v1), (2, .int v2)] [] _
        refine pj_X_of (fun r h => pj_R_to (G16, 94, [(0, .ref 171), (1, .int v1), (2, .int v2)], [.ref 171], 0, 0) 94 2 (fun _ => rfl) h) ?_
        refine pj_X_of (fun r h => pj_T_gi iG16 rfl rfl h) ?_
        show pj_X _ _ G16 97 [(0, .ref 171), (1, .int v1), (2, .int v2)] [.int (pj_fi G16 171 22)] _
        refine pj_X_eqi (show pj_fi G16 171 22 = y22 from hy22.symm) ?_
        have q24 : (pj_fi G16 171 30).toInt = y20.toInt := by rw [show pj_fi G16 171 30 = y20 from hy20.symm]
        have q25 : (pj_fi G16 171 6).toInt = y21.toInt := by rw [show pj_fi G16 171 6 = y21 from hy21.symm]
        have q26 : (pj_fi G16 171 22).toInt = y22.toInt := by rw [show pj_fi G16 171 22 = y22 from hy22.symm]
        have q27 : (pj_fi G16 171 16).toInt = y23.toInt := by rw [show pj_fi G16 171 16 = y23 from hy23.symm]
        exact pj_X_rt rfl rfl ⟨_, rfl, iG16, kG16, pj_i32 _, by omega⟩
    | false =>
      have ub5 := pj_u_geF b5
      refine pj_X_of (fun r h => pj_R_icF rfl b5 h) ?_
      have hq := x0_ v2.toInt.toNat (by omega)
      refine pj_X_of (fun r h => pj_R_to (G, 28, [(0, .ref 171), (1, .int v1), (2, .int v2)], [.ref 171], 0, 0) 28 2 (fun _ => rfl) h) ?_
      refine pj_X_of (fun r h => pj_T_gr hI rfl rfl rfl h) ?_
      refine pj_X_of (fun r h => pj_R_to (G, 34, [(0, .ref 171), (1, .int v1), (2, .int v2)], [.ref 171, .int ((Int8.ofInt 24).toInt32), .ref 179], 0, 0) 34 3 (fun _ => rfl) h) ?_
      refine pj_X_of (fun r h => pj_T_gi hI rfl rfl h) ?_
      show pj_X _ _ G 37 [(0, .ref 171), (1, .int v1), (2, .int v2)] [.int (pj_fi G 171 6), .int ((Int8.ofInt 24).toInt32), .ref 179] _
      refine pj_X_eqi (show pj_fi G 171 6 = y2 from hy2.symm) ?_
      refine pj_X_of (fun r h => pj_R_to (G, 38, [(0, .ref 171), (1, .int v1), (2, .int v2)], [.int (((Int8.ofInt 24).toInt32) + y2), .ref 179], 0, 0) 38 2 (fun _ => rfl) h) ?_
      obtain ⟨z28, hz28⟩ : ∃ z : Int32, z = ((Int8.ofInt 24).toInt32) + y2 := ⟨_, rfl⟩
      refine pj_X_eqi hz28.symm ?_
      have fz28_0 : z28.toInt = ((Int8.ofInt 24).toInt32).toInt + y2.toInt := by rw [hz28]; exact pj_addI (by have := pj_i32 ((Int8.ofInt 24).toInt32); have := pj_i32 y2; omega) (by have := pj_i32 ((Int8.ofInt 24).toInt32); have := pj_i32 y2; omega)
      refine pj_X_of (fun r h => pj_R_to (G, 39, [(0, .ref 171), (1, .int v1), (2, .int v2)], [.ref 171, .int z28, .ref 179], 0, 0) 39 2 (fun _ => rfl) h) ?_
      refine pj_X_of (fun r h => pj_T_gr hI rfl rfl rfl h) ?_
      refine pj_X_of (fun r h => pj_R_to (G, 45, [(0, .ref 171), (1, .int v1), (2, .int v2)], [.int ((Int32.ofInt 2) * v2), .ref 181, .int z28, .ref 179], 0, 0) 45 4 (fun _ => rfl) h) ?_
      obtain ⟨z29, hz29⟩ : ∃ z : Int32, z = (Int32.ofInt 2) * v2 := ⟨_, rfl⟩
      refine pj_X_eqi hz29.symm ?_
      have fz29_0 : z29.toInt = 2 * v2.toInt := by rw [hz29]; exact pj_mulL (by decide) (by omega) (by omega)
      refine pj_X_of (fun r h => pj_T_il hI rfl rfl (by omega) (by omega) h) ?_
      show pj_X _ _ G 46 [(0, .ref 171), (1, .int v1), (2, .int v2)] [.int (pj_ai G 181 z29.toInt.toNat), .int z28, .ref 179] _
      obtain ⟨z30, hz30⟩ : ∃ z : Int32, z = pj_ai G 181 z29.toInt.toNat := ⟨_, rfl⟩
      refine pj_X_eqi hz30.symm ?_
      have ez30 : (pj_ai G 181 z29.toInt.toNat).toInt = z30.toInt := by rw [hz30]
      have fz30_0 : (-1 : Int) ≤ z30.toInt ∧ z30.toInt ≤ 99 ∧ (z30.toInt ≤ -1 ∨ -1 ≤ z30.toInt) := by rw [hz30]; exact hI.2.2.1 181 (40, -1, 99, -1, -1) rfl _ (by show _ < 40; omega)
      have k31 : z30.toInt = (pj_ai G 181 (2 * v2.toInt.toNat)).toInt := by rw [hz30, show z29.toInt.toNat = 2 * v2.toInt.toNat by omega]
      refine pj_X_of (fun r h => pj_T_is hI rfl rfl (by omega) (by omega) h) ?_
      show pj_X _ _ (pj_wa G 179 z28.toInt.toNat z30) 47 [(0, .ref 171), (1, .int v1), (2, .int v2)] [] _
      obtain ⟨G32, hG32⟩ : ∃ H, H = pj_wa G 179 z28.toInt.toNat z30 := ⟨_, rfl⟩
      have iG32 : pj_Inv G32 := by rw [hG32]; exact pj_Inv_wa hI rfl (fun q hq => by cases hq) (fun n hn => ⟨fun h1 => ⟨fun h2 => by omega, fun h2 => by omega⟩, fun h1 => by omega⟩)
      have kG32 : pj_kpt kc_196t G0 G32 := by rw [hG32]; exact pj_kpt_a hK rfl
      rw [← hG32]
      refine pj_X_of (fun r h => pj_R_to (G32, 48, [(0, .ref 171), (1, .int v1), (2, .int v2)], [.ref 171], 0, 0) 48 2 (fun _ => rfl) h) ?_
      refine pj_X_of (fun r h => pj_T_gr iG32 rfl rfl rfl h) ?_
      refine pj_X_of (fun r h => pj_R_to (G32, 52, [(0, .ref 171), (1, .int v1), (2, .int v2)], [.ref 171, .ref 178], 0, 0) 52 2 (fun _ => rfl) h) ?_
      refine pj_X_of (fun r h => pj_T_gi iG32 rfl rfl h) ?_
      show pj_X _ _ G32 55 [(0, .ref 171), (1, .int v1), (2, .int v2)] [.int (pj_fi G32 171 6), .ref 178] _
      refine pj_X_eqi (show pj_fi G32 171 6 = y2 from by rw [hG32, pj_fi_wa]; exact hy2.symm) ?_
      refine pj_X_of (fun r h => pj_R_to (G32, 56, [(0, .ref 171), (1, .int v1), (2, .int v2)], [.ref 171, .int y2, .ref 178], 0, 0) 56 2 (fun _ => rfl) h) ?_
      refine pj_X_of (fun r h => pj_T_gr iG32 rfl rfl rfl h) ?_
      refine pj_X_of (fun r h => pj_R_to (G32, 62, [(0, .ref 171), (1, .int v1), (2, .int v2)], [.int ((Int32.ofInt 2) * v2), .ref 181, .int y2, .ref 178], 0, 0) 62 4 (fun _ => rfl) h) ?_
      obtain ⟨z33, hz33⟩ : ∃ z : Int32, z = (Int32.ofInt 2) * v2 := ⟨_, rfl⟩
      refine pj_X_eqi hz33.symm ?_
      have fz33_0 : z33.toInt = 2 * v2.toInt := by rw [hz33]; exact pj_mulL (by decide) (by omega) (by omega)
      refine pj_X_of (fun r h => pj_R_to (G32, 64, [(0, .ref 171), (1, .int v1), (2, .int v2)], [.int (z33 + (Int32.ofInt 1)), .ref 181, .int y2, .ref 178], 0, 0) 64 3 (fun _ => rfl) h) ?_
      obtain ⟨z34, hz34⟩ : ∃ z : Int32, z = z33 + (Int32.ofInt 1) := ⟨_, rfl⟩
      refine pj_X_eqi hz34.symm ?_
      have fz34_0 : z34.toInt = z33.toInt + (Int32.ofInt 1).toInt := by rw [hz34]; exact pj_addI (by have := pj_i32 z33; have := pj_i32 (Int32.ofInt 1); omega) (by have := pj_i32 z33; have := pj_i32 (Int32.ofInt 1); omega)
      refine pj_X_of (fun r h => pj_T_il iG32 rfl rfl (by omega) (by omega) h) ?_
      show pj_X _ _ G32 65 [(0, .ref 171), (1, .int v1), (2, .int v2)] [.int (pj_ai G32 181 z34.toInt.toNat), .int y2, .ref 178] _
      obtain ⟨z35, hz35⟩ : ∃ z : Int32, z = pj_ai G32 181 z34.toInt.toNat := ⟨_, rfl⟩
      refine pj_X_eqi hz35.symm ?_
      have ez35 : (pj_ai G32 181 z34.toInt.toNat).toInt = z35.toInt := by rw [hz35]
      have fz35_0 : (-1 : Int) ≤ z35.toInt ∧ z35.toInt ≤ 99 ∧ (z35.toInt ≤ -1 ∨ -1 ≤ z35.toInt) := by rw [hz35]; exact iG32.2.2.1 181 (40, -1, 99, -1, -1) rfl _ (by show _ < 40; omega)
      refine pj_X_of (fun r h => pj_T_is iG32 rfl rfl (by omega) (by omega) h) ?_
      show pj_X _ _ (pj_wa G32 178 y2.toInt.toNat z35) 66 [(0, .ref 171), (1, .int v1), (2, .int v2)] [] _
      obtain ⟨G36, hG36⟩ : ∃ H, H = pj_wa G32 178 y2.toInt.toNat z35 := ⟨_, rfl⟩
      have iG36 : pj_Inv G36 := by rw [hG36]; exact pj_Inv_wa iG32 rfl (fun q hq => by cases hq) (fun n hn => by cases hn)
      have kG36 : pj_kpt kc_196t G0 G36 := by rw [hG36]; exact pj_kpt_a kG32 rfl
      rw [← hG36]
      refine pj_X_of (fun r h => pj_R_to (G36, 68, [(0, .ref 171), (1, .int v1), (2, .int v2)], [.ref 171, .ref 171], 0, 0) 68 3 (fun _ => rfl) h) ?_
      refine pj_X_of (fun r h => pj_T_gi iG36 rfl rfl h) ?_
      show pj_X _ _ G36 71 [(0, .ref 171), (1, .int v1), (2, .int v2)] [.int (pj_fi G36 171 6), .ref 171] _
      refine pj_X_eqi (show pj_fi G36 171 6 = y2 from by rw [hG36, pj_fi_wa]; exact (by rw [hG32, pj_fi_wa]; exact hy2.symm)) ?_
      refine pj_X_of (fun r h => pj_R_to (G36, 73, [(0, .ref 171), (1, .int v1), (2, .int v2)], [.int (y2 + (Int32.ofInt 1)), .ref 171], 0, 0) 73 3 (fun _ => rfl) h) ?_
      obtain ⟨z37, hz37⟩ : ∃ z : Int32, z = y2 + (Int32.ofInt 1) := ⟨_, rfl⟩
      refine pj_X_eqi hz37.symm ?_
      have fz37_0 : z37.toInt = y2.toInt + (Int32.ofInt 1).toInt := by rw [hz37]; exact pj_addI (by have := pj_i32 y2; have := pj_i32 (Int32.ofInt 1); omega) (by have := pj_i32 y2; have := pj_i32 (Int32.ofInt 1); omega)
      refine pj_X_of (fun r h => pj_T_pf iG36 rfl rfl rfl h) ?_
      show pj_X _ _ (pj_wv G36 171 6 (.int z37)) 76 [(0, .ref 171), (1, .int v1), (2, .int v2)] [] _
      obtain ⟨G38, hG38⟩ : ∃ H, H = pj_wv G36 171 6 (.int z37) := ⟨_, rfl⟩
      have iG38 : pj_Inv G38 := by rw [hG38]; exact pj_Inv_wi iG36 (ci := 12) rfl (fun q hq => by cases hq; exact ⟨by show (0 : Int) ≤ _; omega, by show _ ≤ (6 : Int); omega⟩)
      have kG38 : pj_kpt kc_196t G0 G38 := by rw [hG38]; exact pj_kpt_v kG36 rfl
      rw [← hG38]
      refine pj_X_of (fun r h => pj_R_to (G38, 79, [(2, .int (v2 + Int32.ofInt 1)), (0, .ref 171), (1, .int v1)], [], 0, 0) 79 2 (fun _ => rfl) h) ?_
      obtain ⟨z39, hz39⟩ : ∃ z : Int32, z = v2 + Int32.ofInt 1 := ⟨_, rfl⟩
      rw [← hz39]
      have fz39_0 : z39.toInt = v2.toInt + (Int32.ofInt 1).toInt := by rw [hz39]; exact pj_addI (by have := pj_i32 v2; have := pj_i32 (Int32.ofInt 1); omega) (by have := pj_i32 v2; have := pj_i32 (Int32.ofInt 1); omega)
      refine pj_X_of (fun r h => pj_R_to (G38, 19, [(2, .int z39), (0, .ref 171), (1, .int v1)], [], 0, 0) 19 2 (fun _ => rfl) h) ?_
      have q40 : (pj_fi G38 171 30).toInt = y1.toInt := by rw [show pj_fi G38 171 30 = y1 from by rw [hG38, pj_fi_wv_ne _ _ _ _ _ _ (by decide)]; exact (by rw [hG36, pj_fi_wa]; exact (by rw [hG32, pj_fi_wa]; exact hy1.symm))]
      have q41 : (pj_fi G38 171 6).toInt = z37.toInt := by rw [show pj_fi G38 171 6 = z37 from by rw [hG38]; exact pj_fi_wi iG36.1 (ci := 12) rfl _]
      have q42 : (pj_fi G38 171 22).toInt = y3.toInt := by rw [show pj_fi G38 171 22 = y3 from by rw [hG38, pj_fi_wv_ne _ _ _ _ _ _ (by decide)]; exact (by rw [hG36, pj_fi_wa]; exact (by rw [hG32, pj_fi_wa]; exact hy3.symm))]
      have q43 : (pj_fi G38 171 16).toInt = y4.toInt := by rw [show pj_fi G38 171 16 = y4 from by rw [hG38, pj_fi_wv_ne _ _ _ _ _ _ (by decide)]; exact (by rw [hG36, pj_fi_wa]; exact (by rw [hG32, pj_fi_wa]; exact hy4.symm))]
      exact pj_X_sub [(0, .ref 171), (1, .int v1), (2, .int z39)] (show List.Nodup [0, 1, 2] by decide) ⟨rfl, rfl, rfl, trivial⟩ (ih G38 iG38 kG38 v1 z39 ⟨by omega, by omega⟩ ⟨by omega, by omega⟩ (by rw [show pj_fi G38 171 22 = pj_fi G 171 22 from by rw [hG38, pj_fi_wv_ne _ _ _ _ _ _ (by decide), hG36, pj_fi_wa, hG32, pj_fi_wa]]; exact pj_re_k (fun j => by rw [hG38, pj_ai_wv, hG36, pj_ai_wa_ne _ _ _ _ _ _ (by decide), hG32, pj_ai_wa_ne _ _ _ _ _ _ (by decide)]) x0_) (by omega) (by omega) (by omega) (by omega) (by omega) (by omega))
theorem ct_196t (G0 : pj_G) (hI : pj_Inv G0) (p0_ : (pj_fi G0 171 30).toInt ≤ 15) : pj_Y 21 196 [.ref 171] G0 (fun v G' => ∃ y : Int32, v = some (.int y) ∧ pj_Inv G' ∧ pj_kpt kc_196t G0 G' ∧ ((-2147483648 : Int) ≤ y.toInt ∧ y.toInt ≤ 2147483647) ∧ (((pj_fi G' 171 30).toInt ≤ 15) ∧ (pj_fi G' 171 16).toInt = 0)) := by
  have c0_ : ((Int8.ofInt 24).toInt32).toInt = 24 := by decide
  have c1_ : (Int32.ofInt 0).toInt = 0 := by decide
  have c2_ : (Int32.ofInt 1).toInt = 1 := by decide
  have c3_ : (Int32.ofInt 2).toInt = 2 := by decide
  refine pj_Y_X (M := pj_m196) rfl rfl (Nat.le_of_ble_eq_true rfl) ?_
  have hK : pj_kpt kc_196t G0 G0 := pj_kpt_r _ _
  show pj_X _ _ G0 0 [(0, .ref 171)] [] _
  obtain ⟨y44, hy44⟩ : ∃ z : Int32, z = pj_fi G0 171 30 := ⟨_, rfl⟩
  have ey44 : (pj_fi G0 171 30).toInt = y44.toInt := by rw [hy44]
  have ry44 : (0 : Int) ≤ y44.toInt ∧ y44.toInt ≤ 16 := by rw [hy44]; exact hI.2.1 171 30 (0, 16) rfl
  obtain ⟨y45, hy45⟩ : ∃ z : Int32, z = pj_fi G0 171 6 := ⟨_, rfl⟩
  have ey45 : (pj_fi G0 171 6).toInt = y45.toInt := by rw [hy45]
  have ry45 : (0 : Int) ≤ y45.toInt ∧ y45.toInt ≤ 6 := by rw [hy45]; exact hI.2.1 171 6 (0, 6) rfl
  obtain ⟨y46, hy46⟩ : ∃ z : Int32, z = pj_fi G0 171 22 := ⟨_, rfl⟩
  have ey46 : (pj_fi G0 171 22).toInt = y46.toInt := by rw [hy46]
  have ry46 : (0 : Int) ≤ y46.toInt ∧ y46.toInt ≤ 10 := by rw [hy46]; exact hI.2.1 171 22 (0, 10) rfl
  obtain ⟨y47, hy47⟩ : ∃ z : Int32, z = pj_fi G0 171 16 := ⟨_, rfl⟩
  have ey47 : (pj_fi G0 171 16).toInt = y47.toInt := by rw [hy47]
  have ry47 : (0 : Int) ≤ y47.toInt ∧ y47.toInt ≤ 80 := by rw [hy47]; exact hI.2.1 171 16 (0, 80) rfl
  refine pj_X_of (fun r h => pj_R_to (G0, 2, [(0, .ref 171)], [.int (Int32.ofInt 0), .ref 171], 0, 0) 2 3 (fun _ => rfl) h) ?_
  refine pj_X_of (fun r h => pj_T_pf hI rfl rfl rfl h) ?_
  show pj_X _ _ (pj_wv G0 171 0 (.int (Int32.ofInt 0))) 5 [(0, .ref 171)] [] _
  obtain ⟨G48, hG48⟩ : ∃ H, H = pj_wv G0 171 0 (.int (Int32.ofInt 0)) := ⟨_, rfl⟩
  have iG48 : pj_Inv G48 := by rw [hG48]; exact pj_Inv_wi hI (ci := 12) rfl (fun q hq => by cases hq)
  have kG48 : pj_kpt kc_196t G0 G48 := by rw [hG48]; exact pj_kpt_v hK rfl
  rw [← hG48]
  refine pj_X_of (fun r h => pj_R_to (G48, 7, [(0, .ref 171)], [.int (Int32.ofInt 0), .ref 171], 0, 0) 7 3 (fun _ => rfl) h) ?_
  have q49 : (pj_fi G48 171 30).toInt = y44.toInt := by rw [show pj_fi G48 171 30 = y44 from by rw [hG48, pj_fi_wv_ne _ _ _ _ _ _ (by decide)]; exact hy44.symm]
  have q50 : (pj_fi G48 171 6).toInt = y45.toInt := by rw [show pj_fi G48 171 6 = y45 from by rw [hG48, pj_fi_wv_ne _ _ _ _ _ _ (by decide)]; exact hy45.symm]
  have q51 : (pj_fi G48 171 22).toInt = y46.toInt := by rw [show pj_fi G48 171 22 = y46 from by rw [hG48, pj_fi_wv_ne _ _ _ _ _ _ (by decide)]; exact hy46.symm]
  have q52 : (pj_fi G48 171 16).toInt = y47.toInt := by rw [show pj_fi G48 171 16 = y47 from by rw [hG48, pj_fi_wv_ne _ _ _ _ _ _ (by decide)]; exact hy47.symm]
  refine pj_X_ca (vs := [.ref 171, .int (Int32.ofInt 0)]) rfl (fun _ => rfl) ⟨Nat.le_of_ble_eq_true rfl, Nat.le_of_ble_eq_true rfl, pj_T_rcv iG48 rfl⟩ ⟨rfl, rfl⟩ (pj_Y_up (by decide) (ct_194_0t G48 iG48 (Int32.ofInt 0) ⟨by omega, by omega⟩)) ?_
  rintro _ G54 ⟨y53, rfl, iG54, jG54, ry53, ey53⟩
  have kG54 : pj_kpt kc_196t G0 G54 := pj_kpt_t kG48 (pj_kpt_s jG54 rfl)
  have q55 : (pj_fi G54 171 30).toInt = (pj_fi G48 171 30).toInt := by rw [jG54.1 (171, 30) (by decide)]
  have q56 : (pj_fi G54 171 6).toInt = (pj_fi G48 171 6).toInt := by rw [jG54.1 (171, 6) (by decide)]
  obtain ⟨y57, hy57⟩ : ∃ z : Int32, z = pj_fi G54 171 30 := ⟨_, rfl⟩
  have ey57 : (pj_fi G54 171 30).toInt = y57.toInt := by rw [hy57]
  have ry57 : (0 : Int) ≤ y57.toInt ∧ y57.toInt ≤ 16 := by rw [hy57]; exact iG54.2.1 171 30 (0, 16) rfl
  obtain ⟨y58, hy58⟩ : ∃ z : Int32, z = pj_fi G54 171 6 := ⟨_, rfl⟩
  have ey58 : (pj_fi G54 171 6).toInt = y58.toInt := by rw [hy58]
  have ry58 : (0 : Int) ≤ y58.toInt ∧ y58.toInt ≤ 6 := by rw [hy58]; exact iG54.2.1 171 6 (0, 6) rfl
  obtain ⟨y59, hy59⟩ : ∃ z : Int32, z = pj_fi G54 171 22 := ⟨_, rfl⟩
  have ey59 : (pj_fi G54 171 22).toInt = y59.toInt := by rw [hy59]
  have ry59 : (0 : Int) ≤ y59.toInt ∧ y59.toInt ≤ 10 := by rw [hy59]; exact iG54.2.1 171 22 (0, 10) rfl
  obtain ⟨y60, hy60⟩ : ∃ z : Int32, z = pj_fi G54 171 16 := ⟨_, rfl⟩
  have ey60 : (pj_fi G54 171 16).toInt = y60.toInt := by rw [hy60]
  have ry60 : (0 : Int) ≤ y60.toInt ∧ y60.toInt ≤ 80 := by rw [hy60]; exact iG54.2.1 171 16 (0, 80) rfl
  show pj_X _ _ G54 10 [(0, .ref 171)] [.int y53] _
  refine pj_X_of (fun r h => pj_R_to (G54, 12, [(1, .int y53), (0, .ref 171)], [.int y53], 0, 0) 12 3 (fun _ => rfl) h) ?_
  cases b61 : pj_c1 .ge y53 0 with
  | true =>
    have ub61 := pj_u0_geT b61
    refine pj_X_of (fun r h => pj_R_ifT 17 rfl rfl b61 h) ?_
    refine pj_X_of (fun r h => pj_R_to (G54, 19, [(2, .int (Int32.ofInt 0)), (1, .int y53), (0, .ref 171)], [], 0, 0) 19 3 (fun _ => rfl) h) ?_
    have q62 : (pj_fi G54 171 30).toInt = y57.toInt := by rw [show pj_fi G54 171 30 = y57 from hy57.symm]
    have q63 : (pj_fi G54 171 6).toInt = y58.toInt := by rw [show pj_fi G54 171 6 = y58 from hy58.symm]
    have q64 : (pj_fi G54 171 22).toInt = y59.toInt := by rw [show pj_fi G54 171 22 = y59 from hy59.symm]
    have q65 : (pj_fi G54 171 16).toInt = y60.toInt := by rw [show pj_fi G54 171 16 = y60 from hy60.symm]
    exact pj_X_sub [(0, .ref 171), (1, .int y53), (2, .int (Int32.ofInt 0))] (show List.Nodup [0, 1, 2] by decide) ⟨rfl, rfl, rfl, trivial⟩ ((lp_ct_196t G0 hI   p0_ 7) G54 iG54 kG54 y53 (Int32.ofInt 0) ⟨by omega, by omega⟩ ⟨by omega, by omega⟩ (ey53.2.2 (by omega)) (by omega) (by omega) (by omega) (by omega) (by omega) (by omega))
  | false =>
    have ub61 := pj_u0_geF b61
    refine pj_X_of (fun r h => pj_R_ifF rfl b61 h) ?_
    refine pj_X_of (fun r h => pj_R_to (G54, 16, [(1, .int y53), (0, .ref 171)], [.int y53], 0, 0) 16 2 (fun _ => rfl) h) ?_
    have q66 : (pj_fi G54 171 30).toInt = y57.toInt := by rw [show pj_fi G54 171 30 = y57 from hy57.symm]
    have q67 : (pj_fi G54 171 6).toInt = y58.toInt := by rw [show pj_fi G54 171 6 = y58 from hy58.symm]
    have q68 : (pj_fi G54 171 22).toInt = y59.toInt := by rw [show pj_fi G54 171 22 = y59 from hy59.symm]
    have q69 : (pj_fi G54 171 16).toInt = y60.toInt := by rw [show pj_fi G54 171 16 = y60 from hy60.symm]
    exact pj_X_rt rfl rfl ⟨_, rfl, iG54, kG54, pj_i32 _, by omega⟩
def kc_191t : pj_KT := ([(171, 0), (171, 3), (171, 4), (171, 5), (171, 6), (171, 7), (171, 16), (171, 17), (171, 18), (171, 19), (171, 21), (171, 22), (171, 23), (171, 30)], [171, 173, 174, 175, 176, 179, 181], [173, 174, 175, 176, 179, 181])
theorem lp_ct_191t (G0 : pj_G) (hI0 : pj_Inv G0) (p0_ : pj_RI G0) (p1_ : (pj_fi G0 171 30).toInt ≤ 15) : ∀ mn : Nat, (∀ (G : pj_G) (hI : pj_Inv G) (hK : pj_kpt kc_191t G0 G) (v1 : Int32) (v2 : Int32), ((0 : Int) ≤ v1.toInt ∧ v1.toInt ≤ 80) → ((0 : Int) ≤ v2.toInt ∧ v2.toInt ≤ 1) → (pj_RI G) → (1 ≤ v2.toInt → pj_rd G (pj_fi G 171 22).toInt (pj_fi G 171 21).toInt) → ((pj_fi G 171 30).toInt ≤ 15) → ((pj_fi G 171 22).toInt ≤ 10) → ((pj_fi G 171 16).toInt = 0) → 1000 + 20 * (11 - (pj_fi G 171 22).toInt) + 10 * v2.toInt < (mn : Int) → pj_X 18 pj_m191 G 43 [(0, .ref 171), (1, .int v1), (2, .int v2)] [] (fun v G' => ∃ y : Int32, v = some (.int y) ∧ pj_Inv G' ∧ pj_kpt kc_191t G0 G' ∧ ((-2147483648 : Int) ≤ y.toInt ∧ y.toInt ≤ 2147483647) ∧ (pj_RI G' ∧ ((pj_fi G' 171 30).toInt ≤ 15 ∧ (pj_fi G' 171 16).toInt = 0)))) ∧ (∀ (G : pj_G) (hI : pj_Inv G) (hK : pj_kpt kc_191t G0 G) (v1 : Int32) (v2 : Int32) (v3 : Int32) (v4 : Int32), ((0 : Int) ≤ v1.toInt ∧ v1.toInt ≤ 80) → ((0 : Int) ≤ v2.toInt ∧ v2.toInt ≤ 1) → ((-2147483648 : Int) ≤ v3.toInt ∧ v3.toInt ≤ 2147483647) → ((0 : Int) ≤ v4.toInt ∧ v4.toInt ≤ 10) → (pj_rd G (pj_fi G 171 4).toInt (pj_fi G 171 3).toInt) → (pj_ro G v4.toInt (pj_fi G 171 3).toInt) → ((pj_fi G 171 30).toInt ≤ 15) → (v4.toInt ≤ (pj_fi G 171 4).toInt) → ((pj_fi G 171 16).toInt = 0) → 10 - v4.toInt < (mn : Int) → pj_X 18 pj_m191 G 107 [(0, .ref 171), (1, .int v1), (2, .int v2), (3, .int v3), (4, .int v4)] [] (fun v G' => ∃ y : Int32, v = some (.int y) ∧ pj_Inv G' ∧ pj_kpt kc_191t G0 G' ∧ ((-2147483648 : Int) ≤ y.toInt ∧ y.toInt ≤ 2147483647) ∧ (pj_RI G' ∧ ((pj_fi G' 171 30).toInt ≤ 15 ∧ (pj_fi G' 171 16).toInt = 0)))) := by
  have c0_ : ((Int8.ofInt 10).toInt32).toInt = 10 := by decide
  have c1_ : ((Int8.ofInt 30).toInt32).toInt = 30 := by decide
  have c2_ : ((Int8.ofInt 31).toInt32).toInt = 31 := by decide
  have c3_ : ((Int8.ofInt 59).toInt32).toInt = 59 := by decide
  have c4_ : ((Int8.ofInt 72).toInt32).toInt = 72 := by decide
  have c5_ : (Int32.ofInt 0).toInt = 0 := by decide
  have c6_ : (Int32.ofInt 1).toInt = 1 := by decide
  have c7_ : (Int32.ofInt 2).toInt = 2 := by decide
  have c8_ : (Int32.ofInt 3).toInt = 3 := by decide
  have c9_ : (Int32.ofInt 4).toInt = 4 := by decide
  intro mn
  induction mn with
  | zero =>
    refine ⟨?_, ?_⟩
    · intro G hI hK v1 v2 rv1 rv2 x0_ x1_ x2_ x3_ x4_ hm
      exfalso
      omega
    · intro G hI hK v1 v2 v3 v4 rv1 rv2 rv3 rv4 x0_ x1_ x2_ x3_ x4_ hm
      exfalso
      omega
  | succ mn ih =>
    refine ⟨?_, ?_⟩
    · intro G hI hK v1 v2 rv1 rv2 x0_ x1_ x2_ x3_ x4_ hm
      obtain ⟨y1, hy1⟩ : ∃ z : Int32, z = pj_fi G 171 30 := ⟨_, rfl⟩
      have ey1 : (pj_fi G 171 30).toInt = y1.toInt := by rw [hy1]
      have ry1 : (0 : Int) ≤ y1.toInt ∧ y1.toInt ≤ 16 := by rw [hy1]; exact hI.2.1 171 30 (0, 16) rfl
      obtain ⟨y2, hy2⟩ : ∃ z : Int32, z = pj_fi G 171 22 := ⟨_, rfl⟩
      have ey2 : (pj_fi G 171 22).toInt = y2.toInt := by rw [hy2]
      have ry2 : (0 : Int) ≤ y2.toInt ∧ y2.toInt ≤ 10 := by rw [hy2]; exact hI.2.1 171 22 (0, 10) rfl
      obtain ⟨y3, hy3⟩ : ∃ z : Int32, z = pj_fi G 171 21 := ⟨_, rfl⟩
      have ey3 : (pj_fi G 171 21).toInt = y3.toInt := by rw [hy3]
      have ry3 : (0 : Int) ≤ y3.toInt ∧ y3.toInt ≤ 8 := by rw [hy3]; exact hI.2.1 171 21 (0, 8) rfl
      obtain ⟨y4, hy4⟩ : ∃ z : Int32, z = pj_fi G 171 3 := ⟨_, rfl⟩
      have ey4 : (pj_fi G 171 3).toInt = y4.toInt := by rw [hy4]
      have ry4 : (0 : Int) ≤ y4.toInt ∧ y4.toInt ≤ 8 := by rw [hy4]; exact hI.2.1 171 3 (0, 8) rfl
      obtain ⟨y5, hy5⟩ : ∃ z : Int32, z = pj_fi G 171 4 := ⟨_, rfl⟩
      have ey5 : (pj_fi G 171 4).toInt = y5.toInt := by rw [hy5]
      have ry5 : (0 : Int) ≤ y5.toInt ∧ y5.toInt ≤ 10 := by rw [hy5]; exact hI.2.1 171 4 (0, 10) rfl
      obtain ⟨y6, hy6⟩ : ∃ z : Int32, z = pj_fi G 171 16 := ⟨_, rfl⟩
      have ey6 : (pj_fi G 171 16).toInt = y6.toInt := by rw [hy6]
      have ry6 : (0 : Int) ≤ y6.toInt ∧ y6.toInt ≤ 80 := by rw [hy6]; exact hI.2.1 171 16 (0, 80) rfl
      refine pj_X_of (fun r h => pj_R_to (G, 44, [(0, .ref 171), (1, .int v1), (2, .int v2)], [.int v2], 0, 0) 44 2 (fun _ => rfl) h) ?_
      cases b7 : pj_c1 .eq v2 0 with
      | true =>
        have ub7 := pj_u0_eqT b7
        refine pj_X_of (fun r h => pj_R_ifT 73 rfl rfl b7 h) ?_
        refine pj_X_of (fun r h => pj_R_to (G, 78, [(0, .ref 171), (1, .int v1), (2, .int v2)], [.int v2, .int ((Int8.ofInt 72).toInt32), .int v1, .ref 171], 0, 0) 78 5 (fun _ => rfl) h) ?_
        have q8 : (pj_fi G 171 30).toInt = y1.toInt := by rw [show pj_fi G 171 30 = y1 from hy1.symm]
        have q9 : (pj_fi G 171 22).toInt = y2.toInt := by rw [show pj_fi G 171 22 = y2 from hy2.symm]
        have q10 : (pj_fi G 171 21).toInt = y3.toInt := by rw [show pj_fi G 171 21 = y3 from hy3.symm]
        have q11 : (pj_fi G 171 3).toInt = y4.toInt := by rw [show pj_fi G 171 3 = y4 from hy4.symm]
        have q12 : (pj_fi G 171 4).toInt = y5.toInt := by rw [show pj_fi G 171 4 = y5 from hy5.symm]
        have q13 : (pj_fi G 171 16).toInt = y6.toInt := by rw [show pj_fi G 171 16 = y6 from hy6.symm]
        refine pj_X_ca (vs := [.ref 171, .int v1, .int ((Int8.ofInt 72).toInt32), .int v2]) rfl (fun _ => rfl) ⟨Nat.le_of_ble_eq_true rfl, Nat.le_of_ble_eq_true rfl, pj_T_rcv hI rfl⟩ ⟨rfl, rfl⟩ (pj_Y_up (by decide) (ct_188 G hI v1 ((Int8.ofInt 72).toInt32) v2 ⟨by omega, by omega⟩ ⟨by omega, by omega⟩ ⟨by omega, by omega⟩)) ?_
        rintro _ _ ⟨y14, rfl, rfl, ry14, ey14⟩
        show pj_X _ _ G 81 [(0, .ref 171), (1, .int v1), (2, .int v2)] [.int y14] _
        refine pj_X_of (fun r h => pj_R_to (G, 83, [(3, .int y14), (0, .ref 171), (1, .int v1), (2, .int v2)], [.int y14], 0, 0) 83 3 (fun _ => rfl) h) ?_
        cases b15 : pj_c1 .ge y14 0 with
        | true =>
          have ub15 := pj_u0_geT b15
          refine pj_X_of (fun r h => pj_R_ifT 88 rfl rfl b15 h) ?_
          refine pj_X_of (fun r h => pj_R_to (G, 90, [(3, .int y14), (0, .ref 171), (1, .int v1), (2, .int v2)], [.ref 171, .ref 171], 0, 0) 90 3 (fun _ => rfl) h) ?_
          have rd16 : pj_rd G (pj_fi G 171 22).toInt (pj_fi G 171 21).toInt := by rw [show pj_fi G 171 22 = pj_fi G 171 22 from by rfl, show pj_fi G 171 21 = pj_fi G 171 21 from by rfl]; exact pj_rd_k (fun j => by rfl) (x1_ (by omega))
          refine pj_X_of (fun r h => pj_T_gi hI rfl rfl h) ?_
          show pj_X _ _ G 93 [(3, .int y14), (0, .ref 171), (1, .int v1), (2, .int v2)] [.int (pj_fi G 171 21), .ref 171] _
          refine pj_X_eqi (show pj_fi G 171 21 = y3 from hy3.symm) ?_
          refine pj_X_of (fun r h => pj_T_pf hI rfl rfl rfl h) ?_
          show pj_X _ _ (pj_wv G 171 3 (.int y3)) 96 [(3, .int y14), (0, .ref 171), (1, .int v1), (2, .int v2)] [] _
          obtain ⟨G17, hG17⟩ : ∃ H, H = pj_wv G 171 3 (.int y3) := ⟨_, rfl⟩
          have iG17 : pj_Inv G17 := by rw [hG17]; exact pj_Inv_wi hI (ci := 12) rfl (fun q hq => by cases hq; exact ⟨by show (0 : Int) ≤ _; omega, by show _ ≤ (8 : Int); omega⟩)
          have kG17 : pj_kpt kc_191t G0 G17 := by rw [hG17]; exact pj_kpt_v hK rfl
          rw [← hG17]
          refine pj_X_of (fun r h => pj_R_to (G17, 98, [(3, .int y14), (0, .ref 171), (1, .int v1), (2, .int v2)], [.ref 171, .ref 171], 0, 0) 98 3 (fun _ => rfl) h) ?_
          refine pj_X_of (fun r h => pj_T_gi iG17 rfl rfl h) ?_
          show pj_X _ _ G17 101 [(3, .int y14), (0, .ref 171), (1, .int v1), (2, .int v2)] [.int (pj_fi G17 171 22), .ref 171] _
          refine pj_X_eqi (show pj_fi G17 171 22 = y2 from by rw [hG17, pj_fi_wv_ne _ _ _ _ _ _ (by decide)]; exact hy2.symm) ?_
          refine pj_X_of (fun r h => pj_T_pf iG17 rfl rfl rfl h) ?_
          show pj_X _ _ (pj_wv G17 171 4 (.int y2)) 104 [(3, .int y14), (0, .ref 171), (1, .int v1), (2, .int v2)] [] _
          obtain ⟨G18, hG18⟩ : ∃ H, H = pj_wv G17 171 4 (.int y2) := ⟨_, rfl⟩
          have iG18 : pj_Inv G18 := by rw [hG18]; exact pj_Inv_wi iG17 (ci := 12) rfl (fun q hq => by cases hq; exact ⟨by show (0 : Int) ≤ _; omega, by show _ ≤ (10 : Int); omega⟩)
          have kG18 : pj_kpt kc_191t G0 G18 := by rw [hG18]; exact pj_kpt_v kG17 rfl
          rw [← hG18]
          refine pj_X_of (fun r h => pj_R_to (G18, 107, [(4, .int (Int32.ofInt 0)), (3, .int y14), (0, .ref 171), (1, .int v1), (2, .int v2)], [], 0, 0) 107 3 (fun _ => rfl) h) ?_
          have q19 : (pj_fi G18 171 30).toInt = y1.toInt := by rw [show pj_fi G18 171 30 = y1 from by rw [hG18, pj_fi_wv_ne _ _ _ _ _ _ (by decide)]; exact (by rw [hG17, pj_fi_wv_ne _ _ _ _ _ _ (by decide)]; exact hy1.symm)]
          have q20 : (pj_fi G18 171 22).toInt = y2.toInt := by rw [show pj_fi G18 171 22 = y2 from by rw [hG18, pj_fi_wv_ne _ _ _ _ _ _ (by decide)]; exact (by rw [hG17, pj_fi_wv_ne _ _ _ _ _ _ (by decide)]; exact hy2.symm)]
          have q21 : (pj_fi G18 171 21).toInt = y3.toInt := by rw [show pj_fi G18 171 21 = y3 from by rw [hG18, pj_fi_wv_ne _ _ _ _ _ _ (by decide)]; exact (by rw [hG17, pj_fi_wv_ne _ _ _ _ _ _ (by decide)]; exact hy3.symm)]
          have q22 : (pj_fi G18 171 3).toInt = y3.toInt := by rw [show pj_fi G18 171 3 = y3 from by rw [hG18, pj_fi_wv_ne _ _ _ _ _ _ (by decide)]; exact (by rw [hG17]; exact pj_fi_wi hI.1 (ci := 12) rfl _)]
          have q23 : (pj_fi G18 171 4).toInt = y2.toInt := by rw [show pj_fi G18 171 4 = y2 from by rw [hG18]; exact pj_fi_wi iG17.1 (ci := 12) rfl _]
          have q24 : (pj_fi G18 171 16).toInt = y6.toInt := by rw [show pj_fi G18 171 16 = y6 from by rw [hG18, pj_fi_wv_ne _ _ _ _ _ _ (by decide)]; exact (by rw [hG17, pj_fi_wv_ne _ _ _ _ _ _ (by decide)]; exact hy6.symm)]
          have q25 : (pj_fi G18 171 30).toInt = y1.toInt := by rw [show pj_fi G18 171 30 = y1 from by rw [hG18, pj_fi_wv_ne _ _ _ _ _ _ (by decide)]; exact (by rw [hG17, pj_fi_wv_ne _ _ _ _ _ _ (by decide)]; exact hy1.symm)]
          have q26 : (pj_fi G18 171 22).toInt = y2.toInt := by rw [show pj_fi G18 171 22 = y2 from by rw [hG18, pj_fi_wv_ne _ _ _ _ _ _ (by decide)]; exact (by rw [hG17, pj_fi_wv_ne _ _ _ _ _ _ (by decide)]; exact hy2.symm)]
          have q27 : (pj_fi G18 171 21).toInt = y3.toInt := by rw [show pj_fi G18 171 21 = y3 from by rw [hG18, pj_fi_wv_ne _ _ _ _ _ _ (by decide)]; exact (by rw [hG17, pj_fi_wv_ne _ _ _ _ _ _ (by decide)]; exact hy3.symm)]
          have q28 : (pj_fi G18 171 3).toInt = y3.toInt := by rw [show pj_fi G18 171 3 = y3 from by rw [hG18, pj_fi_wv_ne _ _ _ _ _ _ (by decide)]; exact (by rw [hG17]; exact pj_fi_wi hI.1 (ci := 12) rfl _)]
          have q29 : (pj_fi G18 171 4).toInt = y2.toInt := by rw [show pj_fi G18 171 4 = y2 from by rw [hG18]; exact pj_fi_wi iG17.1 (ci := 12) rfl _]
          have q30 : (pj_fi G18 171 16).toInt = y6.toInt := by rw [show pj_fi G18 171 16 = y6 from by rw [hG18, pj_fi_wv_ne _ _ _ _ _ _ (by decide)]; exact (by rw [hG17, pj_fi_wv_ne _ _ _ _ _ _ (by decide)]; exact hy6.symm)]
          have c31 : (pj_fi G18 171 4).toInt = (pj_fi G 171 22).toInt := by omega
          have c32 : (pj_fi G18 171 3).toInt = (pj_fi G 171 21).toInt := by omega
          exact pj_X_sub [(0, .ref 171), (1, .int v1), (2, .int v2), (3, .int y14), (4, .int (Int32.ofInt 0))] (show List.Nodup [0, 1, 2, 3, 4] by decide) ⟨rfl, rfl, rfl, rfl, rfl, trivial⟩ (ih.2 G18 iG18 kG18 v1 v2 y14 (Int32.ofInt 0) ⟨by omega, by omega⟩ ⟨by omega, by omega⟩ (pj_i32 _) ⟨by omega, by omega⟩ (by rw [c31, c32]; exact pj_rd_k (fun j => by rw [hG18, pj_ai_wv, hG17, pj_ai_wv]) rd16) (pj_ro_0 (by omega)) (by omega) (by omega) (by omega) (by omega))
        | false =>
          have ub15 := pj_u0_geF b15
          refine pj_X_of (fun r h => pj_R_ifF rfl b15 h) ?_
          refine pj_X_of (fun r h => pj_R_to (G, 87, [(3, .int y14), (0, .ref 171), (1, .int v1), (2, .int v2)], [.int y14], 0, 0) 87 2 (fun _ => rfl) h) ?_
          have q33 : (pj_fi G 171 30).toInt = y1.toInt := by rw [show pj_fi G 171 30 = y1 from hy1.symm]
          have q34 : (pj_fi G 171 22).toInt = y2.toInt := by rw [show pj_fi G 171 22 = y2 from hy2.symm]
          have q35 : (pj_fi G 171 21).toInt = y3.toInt := by rw [show pj_fi G 171 21 = y3 from hy3.symm]
          have q36 : (pj_fi G 171 3).toInt = y4.toInt := by rw [show pj_fi G 171 3 = y4 from hy4.symm]
          have q37 : (pj_fi G 171 4).toInt = y5.toInt := by rw [show pj_fi G 171 4 = y5 from hy5.symm]
          have q38 : (pj_fi G 171 16).toInt = y6.toInt := by rw [show pj_fi G 171 16 = y6 from hy6.symm]
          have t39 : pj_kpt ([], [], []) G G := pj_kpt_r _ _
          exact pj_X_rt rfl rfl ⟨_, rfl, hI, hK, pj_i32 _, ⟨pj_RI_k x0_ t39 rfl, by omega⟩⟩
      | false =>
        have ub7 := pj_u0_eqF b7
        refine pj_X_of (fun r h => pj_R_ifF rfl b7 h) ?_
        refine pj_X_of (fun r h => pj_R_to (G, 48, [(0, .ref 171), (1, .int v1), (2, .int v2)], [.ref 171], 0, 0) 48 2 (fun _ => rfl) h) ?_
        refine pj_X_of (fun r h => pj_T_gi hI rfl rfl h) ?_
        show pj_X _ _ G 51 [(0, .ref 171), (1, .int v1), (2, .int v2)] [.int (pj_fi G 171 22)] _
        refine pj_X_eqi (show pj_fi G 171 22 = y2 from hy2.symm) ?_
        refine pj_X_of (fun r h => pj_R_to (G, 53, [(0, .ref 171), (1, .int v1), (2, .int v2)], [.int ((Int8.ofInt 10).toInt32), .int y2], 0, 0) 53 2 (fun _ => rfl) h) ?_
        cases b40 : pj_c1 .ge y2 ((Int8.ofInt 10).toInt32) with
        | true =>
          have ub40 := pj_u_geT b40
          refine pj_X_of (fun r h => pj_R_icT 73 rfl rfl b40 h) ?_
          refine pj_X_of (fun r h => pj_R_to (G, 78, [(0, .ref 171), (1, .int v1), (2, .int v2)], [.int v2, .int ((Int8.ofInt 72).toInt32), .int v1, .ref 171], 0, 0) 78 5 (fun _ => rfl) h) ?_
          have q41 : (pj_fi G 171 30).toInt = y1.toInt := by rw [show pj_fi G 171 30 = y1 from hy1.symm]
          have q42 : (pj_fi G 171 22).toInt = y2.toInt := by rw [show pj_fi G 171 22 = y2 from hy2.symm]
          have q43 : (pj_fi G 171 21).toInt = y3.toInt := by rw [show pj_fi G 171 21 = y3 from hy3.symm]
          have q44 : (pj_fi G 171 3).toInt = y4.toInt := by rw [show pj_fi G 171 3 = y4 from hy4.symm]
          have q45 : (pj_fi G 171 4).toInt = y5.toInt := by rw [show pj_fi G 171 4 = y5 from hy5.symm]
          have q46 : (pj_fi G 171 16).toInt = y6.toInt := by rw [show pj_fi G 171 16 = y6 from hy6.symm]
          refine pj_X_ca (vs := [.ref 171, .int v1, .int ((Int8.ofInt 72).toInt32), .int v2]) rfl (fun _ => rfl) ⟨Nat.le_of_ble_eq_true rfl, Nat.le_of_ble_eq_true rfl, pj_T_rcv hI rfl⟩ ⟨rfl, rfl⟩ (pj_Y_up (by decide) (ct_188 G hI v1 ((Int8.ofInt 72).toInt32) v2 ⟨by omega, by omega⟩ ⟨by omega, by omega⟩ ⟨by omega, by omega⟩)) ?_
          rintro _ _ ⟨y47, rfl, rfl, ry47, ey47⟩
          show pj_X _ _ G 81 [(0, .ref 171), (1, .int v1), (2, .int v2)] [.int y47] _
          refine pj_X_of (fun r h => pj_R_to (G, 83, [(3, .int y47), (0, .ref 171), (1, .int v1), (2, .int v2)], [.int y47], 0, 0) 83 3 (fun _ => rfl) h) ?_
          cases b48 : pj_c1 .ge y47 0 with
          | true =>
            have ub48 := pj_u0_geT b48
            refine pj_X_of (fun r h => pj_R_ifT 88 rfl rfl b48 h) ?_
            refine pj_X_of (fun r h => pj_R_to (G, 90, [(3, .int y47), (0, .ref 171), (1, .int v1), (2, .int v2)], [.ref 171, .ref 171], 0, 0) 90 3 (fun _ => rfl) h) ?_
            have rd49 : pj_rd G (pj_fi G 171 22).toInt (pj_fi G 171 21).toInt := by rw [show pj_fi G 171 22 = pj_fi G 171 22 from by rfl, show pj_fi G 171 21 = pj_fi G 171 21 from by rfl]; exact pj_rd_k (fun j => by rfl) (x1_ (by omega))
            refine pj_X_of (fun r h => pj_T_gi hI rfl rfl h) ?_
            show pj_X _ _ G 93 [(3, .int y47), (0, .ref 171), (1, .int v1), (2, .int v2)] [.int (pj_fi G 171 21), .ref 171] _
            refine pj_X_eqi (show pj_fi G 171 21 = y3 from hy3.symm) ?_
            refine pj_X_of (fun r h => pj_T_pf hI rfl rfl rfl h) ?_
            show pj_X _ _ (pj_wv G 171 3 (.int y3)) 96 [(3, .int y47), (0, .ref 171), (1, .int v1), (2, .int v2)] [] _
            obtain ⟨G50, hG50⟩ : ∃ H, H = pj_wv G 171 3 (.int y3) := ⟨_, rfl⟩
            have iG50 : pj_Inv G50 := by rw [hG50]; exact pj_Inv_wi hI (ci := 12) rfl (fun q hq => by cases hq; exact ⟨by show (0 : Int) ≤ _; omega, by show _ ≤ (8 : Int); omega⟩)
            have kG50 : pj_kpt kc_191t G0 G50 := by rw [hG50]; exact pj_kpt_v hK rfl
            rw [← hG50]
            refine pj_X_of (fun r h => pj_R_to (G50, 98, [(3, .int y47), (0, .ref 171), (1, .int v1), (2, .int v2)], [.ref 171, .ref 171], 0, 0) 98 3 (fun _ => rfl) h) ?_
            refine pj_X_of (fun r h => pj_T_gi iG50 rfl rfl h) ?_
            show pj_X _ _ G50 101 [(3, .int y47), (0, .ref 171), (1, .int v1), (2, .int v2)] [.int (pj_fi G50 171 22), .ref 171] _
            refine pj_X_eqi (show pj_fi G50 171 22 = y2 from by rw [hG50, pj_fi_wv_ne _ _ _ _ _ _ (by decide)]; exact hy2.symm) ?_
            refine pj_X_of (fun r h => pj_T_pf iG50 rfl rfl rfl h) ?_
            show pj_X _ _ (pj_wv G50 171 4 (.int y2)) 104 [(3, .int y47), (0, .ref 171), (1, .int v1), (2, .int v2)] [] _
            obtain ⟨G51, hG51⟩ : ∃ H, H = pj_wv G50 171 4 (.int y2) := ⟨_, rfl⟩
            have iG51 : pj_Inv G51 := by rw [hG51]; exact pj_Inv_wi iG50 (ci := 12) rfl (fun q hq => by cases hq; exact ⟨by show (0 : Int) ≤ _; omega, by show _ ≤ (10 : Int); omega⟩)
            have kG51 : pj_kpt kc_191t G0 G51 := by rw [hG51]; exact pj_kpt_v kG50 rfl
            rw [← hG51]
            refine pj_X_of (fun r h => pj_R_to (G51, 107, [(4, .int (Int32.ofInt 0)), (3, .int y47), (0, .ref 171), (1, .int v1), (2, .int v2)], [], 0, 0) 107 3 (fun _ => rfl) h) ?_
            have q52 : (pj_fi G51 171 30).toInt = y1.toInt := by rw [show pj_fi G51 171 30 = y1 from by rw [hG51, pj_fi_wv_ne _ _ _ _ _ _ (by decide)]; exact (by rw [hG50, pj_fi_wv_ne _ _ _ _ _ _ (by decide)]; exact hy1.symm)]
            have q53 : (pj_fi G51 171 22).toInt = y2.toInt := by rw [show pj_fi G51 171 22 = y2 from by rw [hG51, pj_fi_wv_ne _ _ _ _ _ _ (by decide)]; exact (by rw [hG50, pj_fi_wv_ne _ _ _ _ _ _ (by decide)]; exact hy2.symm)]
            have q54 : (pj_fi G51 171 21).toInt = y3.toInt := by rw [show pj_fi G51 171 21 = y3 from by rw [hG51, pj_fi_wv_ne _ _ _ _ _ _ (by decide)]; exact (by rw [hG50, pj_fi_wv_ne _ _ _ _ _ _ (by decide)]; exact hy3.symm)]
            have q55 : (pj_fi G51 171 3).toInt = y3.toInt := by rw [show pj_fi G51 171 3 = y3 from by rw [hG51, pj_fi_wv_ne _ _ _ _ _ _ (by decide)]; exact (by rw [hG50]; exact pj_fi_wi hI.1 (ci := 12) rfl _)]
            have q56 : (pj_fi G51 171 4).toInt = y2.toInt := by rw [show pj_fi G51 171 4 = y2 from by rw [hG51]; exact pj_fi_wi iG50.1 (ci := 12) rfl _]
            have q57 : (pj_fi G51 171 16).toInt = y6.toInt := by rw [show pj_fi G51 171 16 = y6 from by rw [hG51, pj_fi_wv_ne _ _ _ _ _ _ (by decide)]; exact (by rw [hG50, pj_fi_wv_ne _ _ _ _ _ _ (by decide)]; exact hy6.symm)]
            have q58 : (pj_fi G51 171 30).toInt = y1.toInt := by rw [show pj_fi G51 171 30 = y1 from by rw [hG51, pj_fi_wv_ne _ _ _ _ _ _ (by decide)]; exact (by rw [hG50, pj_fi_wv_ne _ _ _ _ _ _ (by decide)]; exact hy1.symm)]
            have q59 : (pj_fi G51 171 22).toInt = y2.toInt := by rw [show pj_fi G51 171 22 = y2 from by rw [hG51, pj_fi_wv_ne _ _ _ _ _ _ (by decide)]; exact (by rw [hG50, pj_fi_wv_ne _ _ _ _ _ _ (by decide)]; exact hy2.symm)]
            have q60 : (pj_fi G51 171 21).toInt = y3.toInt := by rw [show pj_fi G51 171 21 = y3 from by rw [hG51, pj_fi_wv_ne _ _ _ _ _ _ (by decide)]; exact (by rw [hG50, pj_fi_wv_ne _ _ _ _ _ _ (by decide)]; exact hy3.symm)]
            have q61 : (pj_fi G51 171 3).toInt = y3.toInt := by rw [show pj_fi G51 171 3 = y3 from by rw [hG51, pj_fi_wv_ne _ _ _ _ _ _ (by decide)]; exact (by rw [hG50]; exact pj_fi_wi hI.1 (ci := 12) rfl _)]
            have q62 : (pj_fi G51 171 4).toInt = y2.toInt := by rw [show pj_fi G51 171 4 = y2 from by rw [hG51]; exact pj_fi_wi iG50.1 (ci := 12) rfl _]
            have q63 : (pj_fi G51 171 16).toInt = y6.toInt := by rw [show pj_fi G51 171 16 = y6 from by rw [hG51, pj_fi_wv_ne _ _ _ _ _ _ (by decide)]; exact (by rw [hG50, pj_fi_wv_ne _ _ _ _ _ _ (by decide)]; exact hy6.symm)]
            have c64 : (pj_fi G51 171 4).toInt = (pj_fi G 171 22).toInt := by omega
            have c65 : (pj_fi G51 171 3).toInt = (pj_fi G 171 21).toInt := by omega
            exact pj_X_sub [(0, .ref 171), (1, .int v1), (2, .int v2), (3, .int y47), (4, .int (Int32.ofInt 0))] (show List.Nodup [0, 1, 2, 3, 4] by decide) ⟨rfl, rfl, rfl, rfl, rfl, trivial⟩ (ih.2 G51 iG51 kG51 v1 v2 y47 (Int32.ofInt 0) ⟨by omega, by omega⟩ ⟨by omega, by omega⟩ (pj_i32 _) ⟨by omega, by omega⟩ (by rw [c64, c65]; exact pj_rd_k (fun j => by rw [hG51, pj_ai_wv, hG50, pj_ai_wv]) rd49) (pj_ro_0 (by omega)) (by omega) (by omega) (by omega) (by omega))
          | false =>
            have ub48 := pj_u0_geF b48
            refine pj_X_of (fun r h => pj_R_ifF rfl b48 h) ?_
            refine pj_X_of (fun r h => pj_R_to (G, 87, [(3, .int y47), (0, .ref 171), (1, .int v1), (2, .int v2)], [.int y47], 0, 0) 87 2 (fun _ => rfl) h) ?_
            have q66 : (pj_fi G 171 30).toInt = y1.toInt := by rw [show pj_fi G 171 30 = y1 from hy1.symm]
            have q67 : (pj_fi G 171 22).toInt = y2.toInt := by rw [show pj_fi G 171 22 = y2 from hy2.symm]
            have q68 : (pj_fi G 171 21).toInt = y3.toInt := by rw [show pj_fi G 171 21 = y3 from hy3.symm]
            have q69 : (pj_fi G 171 3).toInt = y4.toInt := by rw [show pj_fi G 171 3 = y4 from hy4.symm]
            have q70 : (pj_fi G 171 4).toInt = y5.toInt := by rw [show pj_fi G 171 4 = y5 from hy5.symm]
            have q71 : (pj_fi G 171 16).toInt = y6.toInt := by rw [show pj_fi G 171 16 = y6 from hy6.symm]
            have t72 : pj_kpt ([], [], []) G G := pj_kpt_r _ _
            exact pj_X_rt rfl rfl ⟨_, rfl, hI, hK, pj_i32 _, ⟨pj_RI_k x0_ t72 rfl, by omega⟩⟩
        | false =>
          have ub40 := pj_u_geF b40
          refine pj_X_of (fun r h => pj_R_icF rfl b40 h) ?_
          refine pj_X_of (fun r h => pj_R_to (G, 59, [(0, .ref 171), (1, .int v1), (2, .int v2)], [.int ((Int8.ofInt 59).toInt32), .ref 171], 0, 0) 59 3 (fun _ => rfl) h) ?_
          have q73 : (pj_fi G 171 30).toInt = y1.toInt := by rw [show pj_fi G 171 30 = y1 from hy1.symm]
          have q74 : (pj_fi G 171 22).toInt = y2.toInt := by rw [show pj_fi G 171 22 = y2 from hy2.symm]
          have q75 : (pj_fi G 171 21).toInt = y3.toInt := by rw [show pj_fi G 171 21 = y3 from hy3.symm]
          have q76 : (pj_fi G 171 3).toInt = y4.toInt := by rw [show pj_fi G 171 3 = y4 from hy4.symm]
          have q77 : (pj_fi G 171 4).toInt = y5.toInt := by rw [show pj_fi G 171 4 = y5 from hy5.symm]
          have q78 : (pj_fi G 171 16).toInt = y6.toInt := by rw [show pj_fi G 171 16 = y6 from hy6.symm]
          refine pj_X_ca (vs := [.ref 171, .int ((Int8.ofInt 59).toInt32)]) rfl (fun _ => rfl) ⟨Nat.le_of_ble_eq_true rfl, Nat.le_of_ble_eq_true rfl, pj_T_rcv hI rfl⟩ ⟨rfl, rfl⟩ (pj_Y_up (by decide) (ct_182 G hI ((Int8.ofInt 59).toInt32) ⟨by omega, by omega⟩)) ?_
          rintro _ G80 ⟨y79, rfl, iG80, jG80, ry79, ey79⟩
          have kG80 : pj_kpt kc_191t G0 G80 := pj_kpt_t hK (pj_kpt_s jG80 rfl)
          have q81 : (pj_fi G80 171 30).toInt = (pj_fi G 171 30).toInt := by rw [jG80.1 (171, 30) (by decide)]
          have q82 : (pj_fi G80 171 22).toInt = (pj_fi G 171 22).toInt := by rw [jG80.1 (171, 22) (by decide)]
          have q83 : (pj_fi G80 171 21).toInt = (pj_fi G 171 21).toInt := by rw [jG80.1 (171, 21) (by decide)]
          have q84 : (pj_fi G80 171 3).toInt = (pj_fi G 171 3).toInt := by rw [jG80.1 (171, 3) (by decide)]
          have q85 : (pj_fi G80 171 4).toInt = (pj_fi G 171 4).toInt := by rw [jG80.1 (171, 4) (by decide)]
          have q86 : (pj_fi G80 171 16).toInt = (pj_fi G 171 16).toInt := by rw [jG80.1 (171, 16) (by decide)]
          obtain ⟨y87, hy87⟩ : ∃ z : Int32, z = pj_fi G80 171 30 := ⟨_, rfl⟩
          have ey87 : (pj_fi G80 171 30).toInt = y87.toInt := by rw [hy87]
          have ry87 : (0 : Int) ≤ y87.toInt ∧ y87.toInt ≤ 16 := by rw [hy87]; exact iG80.2.1 171 30 (0, 16) rfl
          obtain ⟨y88, hy88⟩ : ∃ z : Int32, z = pj_fi G80 171 22 := ⟨_, rfl⟩
          have ey88 : (pj_fi G80 171 22).toInt = y88.toInt := by rw [hy88]
          have ry88 : (0 : Int) ≤ y88.toInt ∧ y88.toInt ≤ 10 := by rw [hy88]; exact iG80.2.1 171 22 (0, 10) rfl
          obtain ⟨y89, hy89⟩ : ∃ z : Int32, z = pj_fi G80 171 21 := ⟨_, rfl⟩
          have ey89 : (pj_fi G80 171 21).toInt = y89.toInt := by rw [hy89]
          have ry89 : (0 : Int) ≤ y89.toInt ∧ y89.toInt ≤ 8 := by rw [hy89]; exact iG80.2.1 171 21 (0, 8) rfl
          obtain ⟨y90, hy90⟩ : ∃ z : Int32, z = pj_fi G80 171 3 := ⟨_, rfl⟩
          have ey90 : (pj_fi G80 171 3).toInt = y90.toInt := by rw [hy90]
          have ry90 : (0 : Int) ≤ y90.toInt ∧ y90.toInt ≤ 8 := by rw [hy90]; exact iG80.2.1 171 3 (0, 8) rfl
          obtain ⟨y91, hy91⟩ : ∃ z : Int32, z = pj_fi G80 171 4 := ⟨_, rfl⟩
          have ey91 : (pj_fi G80 171 4).toInt = y91.toInt := by rw [hy91]
          have ry91 : (0 : Int) ≤ y91.toInt ∧ y91.toInt ≤ 10 := by rw [hy91]; exact iG80.2.1 171 4 (0, 10) rfl
          obtain ⟨y92, hy92⟩ : ∃ z : Int32, z = pj_fi G80 171 16 := ⟨_, rfl⟩
          have ey92 : (pj_fi G80 171 16).toInt = y92.toInt := by rw [hy92]
          have ry92 : (0 : Int) ≤ y92.toInt ∧ y92.toInt ≤ 80 := by rw [hy92]; exact iG80.2.1 171 16 (0, 80) rfl
          show pj_X _ _ G80 62 [(0, .ref 171), (1, .int v1), (2, .int v2)] [.int y79] _
          cases b93 : pj_c1 .eq y79 0 with
          | true =>
            have ub93 := pj_u0_eqT b93
            refine pj_X_of (fun r h => pj_R_ifT 73 rfl rfl b93 h) ?_
            refine pj_X_of (fun r h => pj_R_to (G80, 78, [(0, .ref 171), (1, .int v1), (2, .int v2)], [.int v2, .int ((Int8.ofInt 72).toInt32), .int v1, .ref 171], 0, 0) 78 5 (fun _ => rfl) h) ?_
            have q94 : (pj_fi G80 171 30).toInt = y87.toInt := by rw [show pj_fi G80 171 30 = y87 from hy87.symm]
            have q95 : (pj_fi G80 171 22).toInt = y88.toInt := by rw [show pj_fi G80 171 22 = y88 from hy88.symm]
            have q96 : (pj_fi G80 171 21).toInt = y89.toInt := by rw [show pj_fi G80 171 21 = y89 from hy89.symm]
            have q97 : (pj_fi G80 171 3).toInt = y90.toInt := by rw [show pj_fi G80 171 3 = y90 from hy90.symm]
            have q98 : (pj_fi G80 171 4).toInt = y91.toInt := by rw [show pj_fi G80 171 4 = y91 from hy91.symm]
            have q99 : (pj_fi G80 171 16).toInt = y92.toInt := by rw [show pj_fi G80 171 16 = y92 from hy92.symm]
            refine pj_X_ca (vs := [.ref 171, .int v1, .int ((Int8.ofInt 72).toInt32), .int v2]) rfl (fun _ => rfl) ⟨Nat.le_of_ble_eq_true rfl, Nat.le_of_ble_eq_true rfl, pj_T_rcv iG80 rfl⟩ ⟨rfl, rfl⟩ (pj_Y_up (by decide) (ct_188 G80 iG80 v1 ((Int8.ofInt 72).toInt32) v2 ⟨by omega, by omega⟩ ⟨by omega, by omega⟩ ⟨by omega, by omega⟩)) ?_
            rintro _ _ ⟨y100, rfl, rfl, ry100, ey100⟩
            show pj_X _ _ G80 81 [(0, .ref 171), (1, .int v1), (2, .int v2)] [.int y100] _
            refine pj_X_of (fun r h => pj_R_to (G80, 83, [(3, .int y100), (0, .ref 171), (1, .int v1), (2, .int v2)], [.int y100], 0, 0) 83 3 (fun _ => rfl) h) ?_
            cases b101 : pj_c1 .ge y100 0 with
            | true =>
              have ub101 := pj_u0_geT b101
              refine pj_X_of (fun r h => pj_R_ifT 88 rfl rfl b101 h) ?_
              refine pj_X_of (fun r h => pj_R_to (G80, 90, [(3, .int y100), (0, .ref 171), (1, .int v1), (2, .int v2)], [.ref 171, .ref 171], 0, 0) 90 3 (fun _ => rfl) h) ?_
              have rd102 : pj_rd G80 (pj_fi G80 171 22).toInt (pj_fi G80 171 21).toInt := by rw [show pj_fi G80 171 22 = pj_fi G 171 22 from by rw [jG80.1 (171, 22) (by decide)], show pj_fi G80 171 21 = pj_fi G 171 21 from by rw [jG80.1 (171, 21) (by decide)]]; exact pj_rd_k (fun j => by rw [jG80.2.2 181 (by decide)]) (x1_ (by omega))
              refine pj_X_of (fun r h => pj_T_gi iG80 rfl rfl h) ?_
              show pj_X _ _ G80 93 [(3, .int y100), (0, .ref 171), (1, .int v1), (2, .int v2)] [.int (pj_fi G80 171 21), .ref 171] _
              refine pj_X_eqi (show pj_fi G80 171 21 = y89 from hy89.symm) ?_
              refine pj_X_of (fun r h => pj_T_pf iG80 rfl rfl rfl h) ?_
              show pj_X _ _ (pj_wv G80 171 3 (.int y89)) 96 [(3, .int y100), (0, .ref 171), (1, .int v1), (2, .int v2)] [] _
              obtain ⟨G103, hG103⟩ : ∃ H, H = pj_wv G80 171 3 (.int y89) := ⟨_, rfl⟩
              have iG103 : pj_Inv G103 := by rw [hG103]; exact pj_Inv_wi iG80 (ci := 12) rfl (fun q hq => by cases hq; exact ⟨by show (0 : Int) ≤ _; omega, by show _ ≤ (8 : Int); omega⟩)
              have kG103 : pj_kpt kc_191t G0 G103 := by rw [hG103]; exact pj_kpt_v kG80 rfl
              rw [← hG103]
              refine pj_X_of (fun r h => pj_R_to (G103, 98, [(3, .int y100), (0, .ref 171), (1, .int v1), (2, .int v2)], [.ref 171, .ref 171], 0, 0) 98 3 (fun _ => rfl) h) ?_
              refine pj_X_of (fun r h => pj_T_gi iG103 rfl rfl h) ?_
              show pj_X _ _ G103 101 [(3, .int y100), (0, .ref 171), (1, .int v1), (2, .int v2)] [.int (pj_fi G103 171 22), .ref 171] _
              refine pj_X_eqi (show pj_fi G103 171 22 = y88 from by rw [hG103, pj_fi_wv_ne _ _ _ _ _ _ (by decide)]; exact hy88.symm) ?_
              refine pj_X_of (fun r h => pj_T_pf iG103 rfl rfl rfl h) ?_
              show pj_X _ _ (pj_wv G103 171 4 (.int y88)) 104 [(3, .int y100), (0, .ref 171), (1, .int v1), (2, .int v2)] [] _
              obtain ⟨G104, hG104⟩ : ∃ H, H = pj_wv G103 171 4 (.int y88) := ⟨_, rfl⟩
              have iG104 : pj_Inv G104 := by rw [hG104]; exact pj_Inv_wi iG103 (ci := 12) rfl (fun q hq => by cases hq; exact ⟨by show (0 : Int) ≤ _; omega, by show _ ≤ (10 : Int); omega⟩)
              have kG104 : pj_kpt kc_191t G0 G104 := by rw [hG104]; exact pj_kpt_v kG103 rfl
              rw [← hG104]
              refine pj_X_of (fun r h => pj_R_to (G104, 107, [(4, .int (Int32.ofInt 0)), (3, .int y100), (0, .ref 171), (1, .int v1), (2, .int v2)], [], 0, 0) 107 3 (fun _ => rfl) h) ?_
              have q105 : (pj_fi G104 171 30).toInt = y87.toInt := by rw [show pj_fi G104 171 30 = y87 from by rw [hG104, pj_fi_wv_ne _ _ _ _ _ _ (by decide)]; exact (by rw [hG103, pj_fi_wv_ne _ _ _ _ _ _ (by decide)]; exact hy87.symm)]
              have q106 : (pj_fi G104 171 22).toInt = y88.toInt := by rw [show pj_fi G104 171 22 = y88 from by rw [hG104, pj_fi_wv_ne _ _ _ _ _ _ (by decide)]; exact (by rw [hG103, pj_fi_wv_ne _ _ _ _ _ _ (by decide)]; exact hy88.symm)]
              have q107 : (pj_fi G104 171 21).toInt = y89.toInt := by rw [show pj_fi G104 171 21 = y89 from by rw [hG104, pj_fi_wv_ne _ _ _ _ _ _ (by decide)]; exact (by rw [hG103, pj_fi_wv_ne _ _ _ _ _ _ (by decide)]; exact hy89.symm)]
              have q108 : (pj_fi G104 171 3).toInt = y89.toInt := by rw [show pj_fi G104 171 3 = y89 from by rw [hG104, pj_fi_wv_ne _ _ _ _ _ _ (by decide)]; exact (by rw [hG103]; exact pj_fi_wi iG80.1 (ci := 12) rfl _)]
              have q109 : (pj_fi G104 171 4).toInt = y88.toInt := by rw [show pj_fi G104 171 4 = y88 from by rw [hG104]; exact pj_fi_wi iG103.1 (ci := 12) rfl _]
              have q110 : (pj_fi G104 171 16).toInt = y92.toInt := by rw [show pj_fi G104 171 16 = y92 from by rw [hG104, pj_fi_wv_ne _ _ _ _ _ _ (by decide)]; exact (by rw [hG103, pj_fi_wv_ne _ _ _ _ _ _ (by decide)]; exact hy92.symm)]
              have q111 : (pj_fi G104 171 30).toInt = y87.toInt := by rw [show pj_fi G104 171 30 = y87 from by rw [hG104, pj_fi_wv_ne _ _ _ _ _ _ (by decide)]; exact (by rw [hG103, pj_fi_wv_ne _ _ _ _ _ _ (by decide)]; exact hy87.symm)]
              have q112 : (pj_fi G104 171 22).toInt = y88.toInt := by rw [show pj_fi G104 171 22 = y88 from by rw [hG104, pj_fi_wv_ne _ _ _ _ _ _ (by decide)]; exact (by rw [hG103, pj_fi_wv_ne _ _ _ _ _ _ (by decide)]; exact hy88.symm)]
              have q113 : (pj_fi G104 171 21).toInt = y89.toInt := by rw [show pj_fi G104 171 21 = y89 from by rw [hG104, pj_fi_wv_ne _ _ _ _ _ _ (by decide)]; exact (by rw [hG103, pj_fi_wv_ne _ _ _ _ _ _ (by decide)]; exact hy89.symm)]
              have q114 : (pj_fi G104 171 3).toInt = y89.toInt := by rw [show pj_fi G104 171 3 = y89 from by rw [hG104, pj_fi_wv_ne _ _ _ _ _ _ (by decide)]; exact (by rw [hG103]; exact pj_fi_wi iG80.1 (ci := 12) rfl _)]
              have q115 : (pj_fi G104 171 4).toInt = y88.toInt := by rw [show pj_fi G104 171 4 = y88 from by rw [hG104]; exact pj_fi_wi iG103.1 (ci := 12) rfl _]
              have q116 : (pj_fi G104 171 16).toInt = y92.toInt := by rw [show pj_fi G104 171 16 = y92 from by rw [hG104, pj_fi_wv_ne _ _ _ _ _ _ (by decide)]; exact (by rw [hG103, pj_fi_wv_ne _ _ _ _ _ _ (by decide)]; exact hy92.symm)]
              have c117 : (pj_fi G104 171 4).toInt = (pj_fi G80 171 22).toInt := by omega
              have c118 : (pj_fi G104 171 3).toInt = (pj_fi G80 171 21).toInt := by omega
              exact pj_X_sub [(0, .ref 171), (1, .int v1), (2, .int v2), (3, .int y100), (4, .int (Int32.ofInt 0))] (show List.Nodup [0, 1, 2, 3, 4] by decide) ⟨rfl, rfl, rfl, rfl, rfl, trivial⟩ (ih.2 G104 iG104 kG104 v1 v2 y100 (Int32.ofInt 0) ⟨by omega, by omega⟩ ⟨by omega, by omega⟩ (pj_i32 _) ⟨by omega, by omega⟩ (by rw [c117, c118]; exact pj_rd_k (fun j => by rw [hG104, pj_ai_wv, hG103, pj_ai_wv]) rd102) (pj_ro_0 (by omega)) (by omega) (by omega) (by omega) (by omega))
            | false =>
              have ub101 := pj_u0_geF b101
              refine pj_X_of (fun r h => pj_R_ifF rfl b101 h) ?_
              refine pj_X_of (fun r h => pj_R_to (G80, 87, [(3, .int y100), (0, .ref 171), (1, .int v1), (2, .int v2)], [.int y100], 0, 0) 87 2 (fun _ => rfl) h) ?_
              have q119 : (pj_fi G80 171 30).toInt = y87.toInt := by rw [show pj_fi G80 171 30 = y87 from hy87.symm]
              have q120 : (pj_fi G80 171 22).toInt = y88.toInt := by rw [show pj_fi G80 171 22 = y88 from hy88.symm]
              have q121 : (pj_fi G80 171 21).toInt = y89.toInt := by rw [show pj_fi G80 171 21 = y89 from hy89.symm]
              have q122 : (pj_fi G80 171 3).toInt = y90.toInt := by rw [show pj_fi G80 171 3 = y90 from hy90.symm]
              have q123 : (pj_fi G80 171 4).toInt = y91.toInt := by rw [show pj_fi G80 171 4 = y91 from hy91.symm]
              have q124 : (pj_fi G80 171 16).toInt = y92.toInt := by rw [show pj_fi G80 171 16 = y92 from hy92.symm]
              have t125 : pj_kpt ([(171, 17)], [171], []) G G := pj_kpt_r _ _
              have t126 : pj_kpt ([(171, 17)], [171], []) G G80 := pj_kpt_t t125 (pj_kpt_s jG80 rfl)
              exact pj_X_rt rfl rfl ⟨_, rfl, iG80, kG80, pj_i32 _, ⟨pj_RI_k x0_ t126 rfl, by omega⟩⟩
          | false =>
            have ub93 := pj_u0_eqF b93
            refine pj_X_of (fun r h => pj_R_ifF rfl b93 h) ?_
            refine pj_X_of (fun r h => pj_R_to (G80, 66, [(0, .ref 171), (1, .int v1), (2, .int v2)], [.ref 171], 0, 0) 66 2 (fun _ => rfl) h) ?_
            have q127 : (pj_fi G80 171 30).toInt = y87.toInt := by rw [show pj_fi G80 171 30 = y87 from hy87.symm]
            have q128 : (pj_fi G80 171 22).toInt = y88.toInt := by rw [show pj_fi G80 171 22 = y88 from hy88.symm]
            have q129 : (pj_fi G80 171 21).toInt = y89.toInt := by rw [show pj_fi G80 171 21 = y89 from hy89.symm]
            have q130 : (pj_fi G80 171 3).toInt = y90.toInt := by rw [show pj_fi G80 171 3 = y90 from hy90.symm]
            have q131 : (pj_fi G80 171 4).toInt = y91.toInt := by rw [show pj_fi G80 171 4 = y91 from hy91.symm]
            have q132 : (pj_fi G80 171 16).toInt = y92.toInt := by rw [show pj_fi G80 171 16 = y92 from hy92.symm]
            refine pj_X_ca (vs := [.ref 171]) rfl (fun _ => rfl) ⟨Nat.le_of_ble_eq_true rfl, Nat.le_of_ble_eq_true rfl, pj_T_rcv iG80 rfl⟩ ⟨rfl, rfl⟩ (pj_Y_up (by decide) (ct_190 G80 iG80 (by omega))) ?_
            rintro _ G134 ⟨y133, rfl, iG134, jG134, ry133, ey133⟩
            have kG134 : pj_kpt kc_191t G0 G134 := pj_kpt_t kG80 (pj_kpt_s jG134 rfl)
            have q135 : (pj_fi G134 171 30).toInt = (pj_fi G80 171 30).toInt := by rw [jG134.1 (171, 30) (by decide)]
            have q136 : (pj_fi G134 171 21).toInt = (pj_fi G80 171 21).toInt := by rw [jG134.1 (171, 21) (by decide)]
            have q137 : (pj_fi G134 171 3).toInt = (pj_fi G80 171 3).toInt := by rw [jG134.1 (171, 3) (by decide)]
            have q138 : (pj_fi G134 171 4).toInt = (pj_fi G80 171 4).toInt := by rw [jG134.1 (171, 4) (by decide)]
            have q139 : (pj_fi G134 171 16).toInt = (pj_fi G80 171 16).toInt := by rw [jG134.1 (171, 16) (by decide)]
            obtain ⟨y140, hy140⟩ : ∃ z : Int32, z = pj_fi G134 171 30 := ⟨_, rfl⟩
            have ey140 : (pj_fi G134 171 30).toInt = y140.toInt := by rw [hy140]
            have ry140 : (0 : Int) ≤ y140.toInt ∧ y140.toInt ≤ 16 := by rw [hy140]; exact iG134.2.1 171 30 (0, 16) rfl
            obtain ⟨y141, hy141⟩ : ∃ z : Int32, z = pj_fi G134 171 22 := ⟨_, rfl⟩
            have ey141 : (pj_fi G134 171 22).toInt = y141.toInt := by rw [hy141]
            have ry141 : (0 : Int) ≤ y141.toInt ∧ y141.toInt ≤ 10 := by rw [hy141]; exact iG134.2.1 171 22 (0, 10) rfl
            obtain ⟨y142, hy142⟩ : ∃ z : Int32, z = pj_fi G134 171 21 := ⟨_, rfl⟩
            have ey142 : (pj_fi G134 171 21).toInt = y142.toInt := by rw [hy142]
            have ry142 : (0 : Int) ≤ y142.toInt ∧ y142.toInt ≤ 8 := by rw [hy142]; exact iG134.2.1 171 21 (0, 8) rfl
            obtain ⟨y143, hy143⟩ : ∃ z : Int32, z = pj_fi G134 171 3 := ⟨_, rfl⟩
            have ey143 : (pj_fi G134 171 3).toInt = y143.toInt := by rw [hy143]
            have ry143 : (0 : Int) ≤ y143.toInt ∧ y143.toInt ≤ 8 := by rw [hy143]; exact iG134.2.1 171 3 (0, 8) rfl
            obtain ⟨y144, hy144⟩ : ∃ z : Int32, z = pj_fi G134 171 4 := ⟨_, rfl⟩
            have ey144 : (pj_fi G134 171 4).toInt = y144.toInt := by rw [hy144]
            have ry144 : (0 : Int) ≤ y144.toInt ∧ y144.toInt ≤ 10 := by rw [hy144]; exact iG134.2.1 171 4 (0, 10) rfl
            obtain ⟨y145, hy145⟩ : ∃ z : Int32, z = pj_fi G134 171 16 := ⟨_, rfl⟩
            have ey145 : (pj_fi G134 171 16).toInt = y145.toInt := by rw [hy145]
            have ry145 : (0 : Int) ≤ y145.toInt ∧ y145.toInt ≤ 80 := by rw [hy145]; exact iG134.2.1 171 16 (0, 80) rfl
            show pj_X _ _ G134 69 [(0, .ref 171), (1, .int v1), (2, .int v2)] [.int y133] _
            refine pj_X_of (fun r h => pj_R_to (G134, 43, [(2, .int y133), (0, .ref 171), (1, .int v1)], [], 0, 0) 43 3 (fun _ => rfl) h) ?_
            have q146 : (pj_fi G134 171 30).toInt = y140.toInt := by rw [show pj_fi G134 171 30 = y140 from hy140.symm]
            have q147 : (pj_fi G134 171 22).toInt = y141.toInt := by rw [show pj_fi G134 171 22 = y141 from hy141.symm]
            have q148 : (pj_fi G134 171 21).toInt = y142.toInt := by rw [show pj_fi G134 171 21 = y142 from hy142.symm]
            have q149 : (pj_fi G134 171 3).toInt = y143.toInt := by rw [show pj_fi G134 171 3 = y143 from hy143.symm]
            have q150 : (pj_fi G134 171 4).toInt = y144.toInt := by rw [show pj_fi G134 171 4 = y144 from hy144.symm]
            have q151 : (pj_fi G134 171 16).toInt = y145.toInt := by rw [show pj_fi G134 171 16 = y145 from hy145.symm]
            have t152 : pj_kpt ([(171, 17), (171, 22), (171, 23)], [171, 181], [181]) G G := pj_kpt_r _ _
            have t153 : pj_kpt ([(171, 17), (171, 22), (171, 23)], [171, 181], [181]) G G80 := pj_kpt_t t152 (pj_kpt_s jG80 rfl)
            have t154 : pj_kpt ([(171, 17), (171, 22), (171, 23)], [171, 181], [181]) G G134 := pj_kpt_t t153 (pj_kpt_s jG134 rfl)
            have rd155 : 1 ≤ v2.toInt → pj_rd G80 (pj_fi G80 171 22).toInt (pj_fi G80 171 21).toInt := fun q => by rw [show pj_fi G80 171 22 = pj_fi G 171 22 from by rw [jG80.1 (171, 22) (by decide)], show pj_fi G80 171 21 = pj_fi G 171 21 from by rw [jG80.1 (171, 21) (by decide)]]; exact pj_rd_k (fun j => by rw [jG80.2.2 181 (by decide)]) (x1_ q)
            exact pj_X_sub [(0, .ref 171), (1, .int v1), (2, .int y133)] (show List.Nodup [0, 1, 2] by decide) ⟨rfl, rfl, rfl, trivial⟩ (ih.1 G134 iG134 kG134 v1 y133 ⟨by omega, by omega⟩ ⟨by omega, by omega⟩ (pj_RI_k x0_ t154 rfl) (fun q => (ey133.2 q).2 (rd155 (by omega))) (by omega) (by omega) (by omega) (by omega))
    · intro G hI hK v1 v2 v3 v4 rv1 rv2 rv3 rv4 x0_ x1_ x2_ x3_ x4_ hm
      obtain ⟨y156, hy156⟩ : ∃ z : Int32, z = pj_fi G 171 30 := ⟨_, rfl⟩
      have ey156 : (pj_fi G 171 30).toInt = y156.toInt := by rw [hy156]
      have ry156 : (0 : Int) ≤ y156.toInt ∧ y156.toInt ≤ 16 := by rw [hy156]; exact hI.2.1 171 30 (0, 16) rfl
      obtain ⟨y157, hy157⟩ : ∃ z : Int32, z = pj_fi G 171 22 := ⟨_, rfl⟩
      have ey157 : (pj_fi G 171 22).toInt = y157.toInt := by rw [hy157]
      have ry157 : (0 : Int) ≤ y157.toInt ∧ y157.toInt ≤ 10 := by rw [hy157]; exact hI.2.1 171 22 (0, 10) rfl
      obtain ⟨y158, hy158⟩ : ∃ z : Int32, z = pj_fi G 171 21 := ⟨_, rfl⟩
      have ey158 : (pj_fi G 171 21).toInt = y158.toInt := by rw [hy158]
      have ry158 : (0 : Int) ≤ y158.toInt ∧ y158.toInt ≤ 8 := by rw [hy158]; exact hI.2.1 171 21 (0, 8) rfl
      obtain ⟨y159, hy159⟩ : ∃ z : Int32, z = pj_fi G 171 3 := ⟨_, rfl⟩
      have ey159 : (pj_fi G 171 3).toInt = y159.toInt := by rw [hy159]
      have ry159 : (0 : Int) ≤ y159.toInt ∧ y159.toInt ≤ 8 := by rw [hy159]; exact hI.2.1 171 3 (0, 8) rfl
      obtain ⟨y160, hy160⟩ : ∃ z : Int32, z = pj_fi G 171 4 := ⟨_, rfl⟩
      have ey160 : (pj_fi G 171 4).toInt = y160.toInt := by rw [hy160]
      have ry160 : (0 : Int) ≤ y160.toInt ∧ y160.toInt ≤ 10 := by rw [hy160]; exact hI.2.1 171 4 (0, 10) rfl
      obtain ⟨y161, hy161⟩ : ∃ z : Int32, z = pj_fi G 171 16 := ⟨_, rfl⟩
      have ey161 : (pj_fi G 171 16).toInt = y161.toInt := by rw [hy161]
      have ry161 : (0 : Int) ≤ y161.toInt ∧ y161.toInt ≤ 80 := by rw [hy161]; exact hI.2.1 171 16 (0, 80) rfl
      refine pj_X_of (fun r h => pj_R_to (G, 110, [(0, .ref 171), (1, .int v1), (2, .int v2), (3, .int v3), (4, .int v4)], [.ref 171, .int v4], 0, 0) 110 3 (fun _ => rfl) h) ?_
      refine pj_X_of (fun r h => pj_T_gi hI rfl rfl h) ?_
      show pj_X _ _ G 113 [(0, .ref 171), (1, .int v1), (2, .int v2), (3, .int v3), (4, .int v4)] [.int (pj_fi G 171 4), .int v4] _
      refine pj_X_eqi (show pj_fi G 171 4 = y160 from hy160.symm) ?_
      cases b162 : pj_c1 .ge v4 y160 with
      | true =>
        have ub162 := pj_u_geT b162
        refine pj_X_of (fun r h => pj_R_icT 192 rfl rfl b162 h) ?_
        refine pj_X_of (fun r h => pj_R_to (G, 194, [(0, .ref 171), (1, .int v1), (2, .int v2), (3, .int v3), (4, .int v4)], [.int (Int32.ofInt 0), .ref 171], 0, 0) 194 3 (fun _ => rfl) h) ?_
        refine pj_X_of (fun r h => pj_T_pf hI rfl rfl rfl h) ?_
        show pj_X _ _ (pj_wv G 171 5 (.int (Int32.ofInt 0))) 197 [(0, .ref 171), (1, .int v1), (2, .int v2), (3, .int v3), (4, .int v4)] [] _
        obtain ⟨G163, hG163⟩ : ∃ H, H = pj_wv G 171 5 (.int (Int32.ofInt 0)) := ⟨_, rfl⟩
        have iG163 : pj_Inv G163 := by rw [hG163]; exact pj_Inv_wi hI (ci := 12) rfl (fun q hq => by cases hq; exact ⟨by show (0 : Int) ≤ _; omega, by show _ ≤ (6 : Int); omega⟩)
        have kG163 : pj_kpt kc_191t G0 G163 := by rw [hG163]; exact pj_kpt_v hK rfl
        rw [← hG163]
        refine pj_X_of (fun r h => pj_R_to (G163, 199, [(0, .ref 171), (1, .int v1), (2, .int v2), (3, .int v3), (4, .int v4)], [.int (Int32.ofInt 0), .ref 171], 0, 0) 199 3 (fun _ => rfl) h) ?_
        refine pj_X_of (fun r h => pj_T_pf iG163 rfl rfl rfl h) ?_
        show pj_X _ _ (pj_wv G163 171 6 (.int (Int32.ofInt 0))) 202 [(0, .ref 171), (1, .int v1), (2, .int v2), (3, .int v3), (4, .int v4)] [] _
        obtain ⟨G164, hG164⟩ : ∃ H, H = pj_wv G163 171 6 (.int (Int32.ofInt 0)) := ⟨_, rfl⟩
        have iG164 : pj_Inv G164 := by rw [hG164]; exact pj_Inv_wi iG163 (ci := 12) rfl (fun q hq => by cases hq; exact ⟨by show (0 : Int) ≤ _; omega, by show _ ≤ (6 : Int); omega⟩)
        have kG164 : pj_kpt kc_191t G0 G164 := by rw [hG164]; exact pj_kpt_v kG163 rfl
        rw [← hG164]
        refine pj_X_of (fun r h => pj_R_to (G164, 203, [(0, .ref 171), (1, .int v1), (2, .int v2), (3, .int v3), (4, .int v4)], [.ref 171], 0, 0) 203 2 (fun _ => rfl) h) ?_
        refine pj_X_of (fun r h => pj_T_gr iG164 rfl rfl rfl h) ?_
        refine pj_X_of (fun r h => pj_R_to (G164, 209, [(0, .ref 171), (1, .int v1), (2, .int v2), (3, .int v3), (4, .int v4)], [.int (Int32.ofInt 0), .int ((Int8.ofInt 30).toInt32), .ref 179], 0, 0) 209 3 (fun _ => rfl) h) ?_
        refine pj_X_of (fun r h => pj_T_is iG164 rfl rfl (by omega) (by omega) h) ?_
        show pj_X _ _ (pj_wa G164 179 ((Int8.ofInt 30).toInt32).toInt.toNat (Int32.ofInt 0)) 210 [(0, .ref 171), (1, .int v1), (2, .int v2), (3, .int v3), (4, .int v4)] [] _
        obtain ⟨G165, hG165⟩ : ∃ H, H = pj_wa G164 179 ((Int8.ofInt 30).toInt32).toInt.toNat (Int32.ofInt 0) := ⟨_, rfl⟩
        have iG165 : pj_Inv G165 := by rw [hG165]; exact pj_Inv_wa iG164 rfl (fun q hq => by cases hq) (fun n hn => ⟨fun h1 => ⟨fun h2 => by omega, fun h2 => by omega⟩, fun h1 => by omega⟩)
        have kG165 : pj_kpt kc_191t G0 G165 := by rw [hG165]; exact pj_kpt_a kG164 rfl
        rw [← hG165]
        refine pj_X_of (fun r h => pj_R_to (G165, 211, [(0, .ref 171), (1, .int v1), (2, .int v2), (3, .int v3), (4, .int v4)], [.ref 171], 0, 0) 211 2 (fun _ => rfl) h) ?_
        refine pj_X_of (fun r h => pj_T_gr iG165 rfl rfl rfl h) ?_
        refine pj_X_of (fun r h => pj_R_to (G165, 217, [(0, .ref 171), (1, .int v1), (2, .int v2), (3, .int v3), (4, .int v4)], [.int (Int32.ofInt 0), .int ((Int8.ofInt 31).toInt32), .ref 179], 0, 0) 217 3 (fun _ => rfl) h) ?_
        refine pj_X_of (fun r h => pj_T_is iG165 rfl rfl (by omega) (by omega) h) ?_
        show pj_X _ _ (pj_wa G165 179 ((Int8.ofInt 31).toInt32).toInt.toNat (Int32.ofInt 0)) 218 [(0, .ref 171), (1, .int v1), (2, .int v2), (3, .int v3), (4, .int v4)] [] _
        obtain ⟨G166, hG166⟩ : ∃ H, H = pj_wa G165 179 ((Int8.ofInt 31).toInt32).toInt.toNat (Int32.ofInt 0) := ⟨_, rfl⟩
        have iG166 : pj_Inv G166 := by rw [hG166]; exact pj_Inv_wa iG165 rfl (fun q hq => by cases hq) (fun n hn => ⟨fun h1 => ⟨fun h2 => by omega, fun h2 => by omega⟩, fun h1 => by omega⟩)
        have kG166 : pj_kpt kc_191t G0 G166 := by rw [hG166]; exact pj_kpt_a kG165 rfl
        rw [← hG166]
        refine pj_X_of (fun r h => pj_R_to (G166, 219, [(0, .ref 171), (1, .int v1), (2, .int v2), (3, .int v3), (4, .int v4)], [.ref 171], 0, 0) 219 2 (fun _ => rfl) h) ?_
        have q167 : (pj_fi G166 171 30).toInt = y156.toInt := by rw [show pj_fi G166 171 30 = y156 from by rw [hG166, pj_fi_wa]; exact (by rw [hG165, pj_fi_wa]; exact (by rw [hG164, pj_fi_wv_ne _ _ _ _ _ _ (by decide)]; exact (by rw [hG163, pj_fi_wv_ne _ _ _ _ _ _ (by decide)]; exact hy156.symm)))]
        have q168 : (pj_fi G166 171 22).toInt = y157.toInt := by rw [show pj_fi G166 171 22 = y157 from by rw [hG166, pj_fi_wa]; exact (by rw [hG165, pj_fi_wa]; exact (by rw [hG164, pj_fi_wv_ne _ _ _ _ _ _ (by decide)]; exact (by rw [hG163, pj_fi_wv_ne _ _ _ _ _ _ (by decide)]; exact hy157.symm)))]
        have q169 : (pj_fi G166 171 21).toInt = y158.toInt := by rw [show pj_fi G166 171 21 = y158 from by rw [hG166, pj_fi_wa]; exact (by rw [hG165, pj_fi_wa]; exact (by rw [hG164, pj_fi_wv_ne _ _ _ _ _ _ (by decide)]; exact (by rw [hG163, pj_fi_wv_ne _ _ _ _ _ _ (by decide)]; exact hy158.symm)))]
        have q170 : (pj_fi G166 171 3).toInt = y159.toInt := by rw [show pj_fi G166 171 3 = y159 from by rw [hG166, pj_fi_wa]; exact (by rw [hG165, pj_fi_wa]; exact (by rw [hG164, pj_fi_wv_ne _ _ _ _ _ _ (by decide)]; exact (by rw [hG163, pj_fi_wv_ne _ _ _ _ _ _ (by decide)]; exact hy159.symm)))]
        have q171 : (pj_fi G166 171 4).toInt = y160.toInt := by rw [show pj_fi G166 171 4 = y160 from by rw [hG166, pj_fi_wa]; exact (by rw [hG165, pj_fi_wa]; exact (by rw [hG164, pj_fi_wv_ne _ _ _ _ _ _ (by decide)]; exact (by rw [hG163, pj_fi_wv_ne _ _ _ _ _ _ (by decide)]; exact hy160.symm)))]
        have q172 : (pj_fi G166 171 16).toInt = y161.toInt := by rw [show pj_fi G166 171 16 = y161 from by rw [hG166, pj_fi_wa]; exact (by rw [hG165, pj_fi_wa]; exact (by rw [hG164, pj_fi_wv_ne _ _ _ _ _ _ (by decide)]; exact (by rw [hG163, pj_fi_wv_ne _ _ _ _ _ _ (by decide)]; exact hy161.symm)))]
        refine pj_X_ca (vs := [.ref 171]) rfl (fun _ => rfl) ⟨Nat.le_of_ble_eq_true rfl, Nat.le_of_ble_eq_true rfl, pj_T_rcv iG166 rfl⟩ ⟨rfl, rfl⟩ (pj_Y_up (by decide) (ct_192 G166 iG166)) ?_
        rintro _ G174 ⟨rfl, iG174, jG174, eG174⟩
        have kG174 : pj_kpt kc_191t G0 G174 := pj_kpt_t kG166 (pj_kpt_s jG174 rfl)
        have q175 : (pj_fi G174 171 22).toInt = (pj_fi G166 171 22).toInt := by rw [jG174.1 (171, 22) (by decide)]
        have q176 : (pj_fi G174 171 21).toInt = (pj_fi G166 171 21).toInt := by rw [jG174.1 (171, 21) (by decide)]
        have q177 : (pj_fi G174 171 3).toInt = (pj_fi G166 171 3).toInt := by rw [jG174.1 (171, 3) (by decide)]
        have q178 : (pj_fi G174 171 4).toInt = (pj_fi G166 171 4).toInt := by rw [jG174.1 (171, 4) (by decide)]
        have q179 : (pj_fi G174 171 16).toInt = (pj_fi G166 171 16).toInt := by rw [jG174.1 (171, 16) (by decide)]
        obtain ⟨y180, hy180⟩ : ∃ z : Int32, z = pj_fi G174 171 30 := ⟨_, rfl⟩
        have ey180 : (pj_fi G174 171 30).toInt = y180.toInt := by rw [hy180]
        have ry180 : (0 : Int) ≤ y180.toInt ∧ y180.toInt ≤ 16 := by rw [hy180]; exact iG174.2.1 171 30 (0, 16) rfl
        obtain ⟨y181, hy181⟩ : ∃ z : Int32, z = pj_fi G174 171 22 := ⟨_, rfl⟩
        have ey181 : (pj_fi G174 171 22).toInt = y181.toInt := by rw [hy181]
        have ry181 : (0 : Int) ≤ y181.toInt ∧ y181.toInt ≤ 10 := by rw [hy181]; exact iG174.2.1 171 22 (0, 10) rfl
        obtain ⟨y182, hy182⟩ : ∃ z : Int32, z = pj_fi G174 171 21 := ⟨_, rfl⟩
        have ey182 : (pj_fi G174 171 21).toInt = y182.toInt := by rw [hy182]
        have ry182 : (0 : Int) ≤ y182.toInt ∧ y182.toInt ≤ 8 := by rw [hy182]; exact iG174.2.1 171 21 (0, 8) rfl
        obtain ⟨y183, hy183⟩ : ∃ z : Int32, z = pj_fi G174 171 3 := ⟨_, rfl⟩
        have ey183 : (pj_fi G174 171 3).toInt = y183.toInt := by rw [hy183]
        have ry183 : (0 : Int) ≤ y183.toInt ∧ y183.toInt ≤ 8 := by rw [hy183]; exact iG174.2.1 171 3 (0, 8) rfl
        obtain ⟨y184, hy184⟩ : ∃ z : Int32, z = pj_fi G174 171 4 := ⟨_, rfl⟩
        have ey184 : (pj_fi G174 171 4).toInt = y184.toInt := by rw [hy184]
        have ry184 : (0 : Int) ≤ y184.toInt ∧ y184.toInt ≤ 10 := by rw [hy184]; exact iG174.2.1 171 4 (0, 10) rfl
        obtain ⟨y185, hy185⟩ : ∃ z : Int32, z = pj_fi G174 171 16 := ⟨_, rfl⟩
        have ey185 : (pj_fi G174 171 16).toInt = y185.toInt := by rw [hy185]
        have ry185 : (0 : Int) ≤ y185.toInt ∧ y185.toInt ≤ 80 := by rw [hy185]; exact iG174.2.1 171 16 (0, 80) rfl
        show pj_X _ _ G174 222 [(0, .ref 171), (1, .int v1), (2, .int v2), (3, .int v3), (4, .int v4)] [] _
        refine pj_X_of (fun r h => pj_R_to (G174, 223, [(0, .ref 171), (1, .int v1), (2, .int v2), (3, .int v3), (4, .int v4)], [.ref 171], 0, 0) 223 2 (fun _ => rfl) h) ?_
        refine pj_X_of (fun r h => pj_T_gi iG174 rfl rfl h) ?_
        show pj_X _ _ G174 226 [(0, .ref 171), (1, .int v1), (2, .int v2), (3, .int v3), (4, .int v4)] [.int (pj_fi G174 171 4)] _
        refine pj_X_eqi (show pj_fi G174 171 4 = y184 from hy184.symm) ?_
        have q186 : (pj_fi G174 171 30).toInt = y180.toInt := by rw [show pj_fi G174 171 30 = y180 from hy180.symm]
        have q187 : (pj_fi G174 171 22).toInt = y181.toInt := by rw [show pj_fi G174 171 22 = y181 from hy181.symm]
        have q188 : (pj_fi G174 171 21).toInt = y182.toInt := by rw [show pj_fi G174 171 21 = y182 from hy182.symm]
        have q189 : (pj_fi G174 171 3).toInt = y183.toInt := by rw [show pj_fi G174 171 3 = y183 from hy183.symm]
        have q190 : (pj_fi G174 171 4).toInt = y184.toInt := by rw [show pj_fi G174 171 4 = y184 from hy184.symm]
        have q191 : (pj_fi G174 171 16).toInt = y185.toInt := by rw [show pj_fi G174 171 16 = y185 from hy185.symm]
        have hro : pj_ro G174 (pj_fi G174 171 4).toInt (pj_fi G174 171 3).toInt := by rw [show pj_fi G174 171 4 = pj_fi G 171 4 from by rw [jG174.1 (171, 4) (by decide), hG166, pj_fi_wa, hG165, pj_fi_wa, hG164, pj_fi_wv_ne _ _ _ _ _ _ (by decide), hG163, pj_fi_wv_ne _ _ _ _ _ _ (by decide)], show pj_fi G174 171 3 = pj_fi G 171 3 from by rw [jG174.1 (171, 3) (by decide), hG166, pj_fi_wa, hG165, pj_fi_wa, hG164, pj_fi_wv_ne _ _ _ _ _ _ (by decide), hG163, pj_fi_wv_ne _ _ _ _ _ _ (by decide)], show (pj_fi G 171 4).toInt = v4.toInt by omega]; exact pj_ro_k (fun j => by rw [jG174.2.2 173 (by decide), hG166, pj_ai_wa_ne _ _ _ _ _ _ (by decide), hG165, pj_ai_wa_ne _ _ _ _ _ _ (by decide), hG164, pj_ai_wv, hG163, pj_ai_wv]) (fun j => by rw [jG174.2.2 174 (by decide), hG166, pj_ai_wa_ne _ _ _ _ _ _ (by decide), hG165, pj_ai_wa_ne _ _ _ _ _ _ (by decide), hG164, pj_ai_wv, hG163, pj_ai_wv]) x1_
        exact pj_X_rt rfl rfl ⟨_, rfl, iG174, kG174, pj_i32 _, ⟨pj_RI_of hro p0_ (kG174.1 (171, 26) (by decide)) (fun j => kG174.2.2 182 (by decide) j), by omega⟩⟩
      | false =>
        have ub162 := pj_u_geF b162
        refine pj_X_of (fun r h => pj_R_icF rfl b162 h) ?_
        have hq := x0_ v4.toInt.toNat (by omega)
        refine pj_X_of (fun r h => pj_R_to (G, 117, [(0, .ref 171), (1, .int v1), (2, .int v2), (3, .int v3), (4, .int v4)], [.ref 171], 0, 0) 117 2 (fun _ => rfl) h) ?_
        refine pj_X_of (fun r h => pj_T_gr hI rfl rfl rfl h) ?_
        refine pj_X_of (fun r h => pj_R_to (G, 123, [(0, .ref 171), (1, .int v1), (2, .int v2), (3, .int v3), (4, .int v4)], [.ref 171, .int v4, .ref 173], 0, 0) 123 3 (fun _ => rfl) h) ?_
        refine pj_X_of (fun r h => pj_T_gr hI rfl rfl rfl h) ?_
        refine pj_X_of (fun r h => pj_R_to (G, 130, [(0, .ref 171), (1, .int v1), (2, .int v2), (3, .int v3), (4, .int v4)], [.int ((Int32.ofInt 4) * v4), .ref 181, .int v4, .ref 173], 0, 0) 130 4 (fun _ => rfl) h) ?_
        obtain ⟨z192, hz192⟩ : ∃ z : Int32, z = (Int32.ofInt 4) * v4 := ⟨_, rfl⟩
        refine pj_X_eqi hz192.symm ?_
        have fz192_0 : z192.toInt = 4 * v4.toInt := by rw [hz192]; exact pj_mulL (by decide) (by omega) (by omega)
        refine pj_X_of (fun r h => pj_T_il hI rfl rfl (by omega) (by omega) h) ?_
        show pj_X _ _ G 131 [(0, .ref 171), (1, .int v1), (2, .int v2), (3, .int v3), (4, .int v4)] [.int (pj_ai G 181 z192.toInt.toNat), .int v4, .ref 173] _
        obtain ⟨z193, hz193⟩ : ∃ z : Int32, z = pj_ai G 181 z192.toInt.toNat := ⟨_, rfl⟩
        refine pj_X_eqi hz193.symm ?_
        have ez193 : (pj_ai G 181 z192.toInt.toNat).toInt = z193.toInt := by rw [hz193]
        have fz193_0 : (-1 : Int) ≤ z193.toInt ∧ z193.toInt ≤ 99 ∧ (z193.toInt ≤ -1 ∨ -1 ≤ z193.toInt) := by rw [hz193]; exact hI.2.2.1 181 (40, -1, 99, -1, -1) rfl _ (by show _ < 40; omega)
        have k194 : z193.toInt = (pj_ai G 181 (4 * v4.toInt.toNat)).toInt := by rw [hz193, show z192.toInt.toNat = 4 * v4.toInt.toNat by omega]
        refine pj_X_of (fun r h => pj_T_is hI rfl rfl (by omega) (by omega) h) ?_
        show pj_X _ _ (pj_wa G 173 v4.toInt.toNat z193) 132 [(0, .ref 171), (1, .int v1), (2, .int v2), (3, .int v3), (4, .int v4)] [] _
        obtain ⟨G195, hG195⟩ : ∃ H, H = pj_wa G 173 v4.toInt.toNat z193 := ⟨_, rfl⟩
        have iG195 : pj_Inv G195 := by rw [hG195]; exact pj_Inv_wa hI rfl (fun q hq => by cases hq; exact ⟨by show (0 : Int) ≤ _; omega, by show _ ≤ (7 : Int); omega, by show _ ≤ (0 : Int) ∨ (0 : Int) ≤ _; omega⟩) (fun n hn => by cases hn)
        have kG195 : pj_kpt kc_191t G0 G195 := by rw [hG195]; exact pj_kpt_a hK rfl
        rw [← hG195]
        refine pj_X_of (fun r h => pj_R_to (G195, 133, [(0, .ref 171), (1, .int v1), (2, .int v2), (3, .int v3), (4, .int v4)], [.ref 171], 0, 0) 133 2 (fun _ => rfl) h) ?_
        refine pj_X_of (fun r h => pj_T_gr iG195 rfl rfl rfl h) ?_
        refine pj_X_of (fun r h => pj_R_to (G195, 139, [(0, .ref 171), (1, .int v1), (2, .int v2), (3, .int v3), (4, .int v4)], [.ref 171, .int v4, .ref 174], 0, 0) 139 3 (fun _ => rfl) h) ?_
        refine pj_X_of (fun r h => pj_T_gr iG195 rfl rfl rfl h) ?_
        refine pj_X_of (fun r h => pj_R_to (G195, 146, [(0, .ref 171), (1, .int v1), (2, .int v2), (3, .int v3), (4, .int v4)], [.int ((Int32.ofInt 4) * v4), .ref 181, .int v4, .ref 174], 0, 0) 146 4 (fun _ => rfl) h) ?_
        obtain ⟨z196, hz196⟩ : ∃ z : Int32, z = (Int32.ofInt 4) * v4 := ⟨_, rfl⟩
        refine pj_X_eqi hz196.symm ?_
        have fz196_0 : z196.toInt = 4 * v4.toInt := by rw [hz196]; exact pj_mulL (by decide) (by omega) (by omega)
        refine pj_X_of (fun r h => pj_R_to (G195, 148, [(0, .ref 171), (1, .int v1), (2, .int v2), (3, .int v3), (4, .int v4)], [.int (z196 + (Int32.ofInt 1)), .ref 181, .int v4, .ref 174], 0, 0) 148 3 (fun _ => rfl) h) ?_
        obtain ⟨z197, hz197⟩ : ∃ z : Int32, z = z196 + (Int32.ofInt 1) := ⟨_, rfl⟩
        refine pj_X_eqi hz197.symm ?_
        have fz197_0 : z197.toInt = z196.toInt + (Int32.ofInt 1).toInt := by rw [hz197]; exact pj_addI (by have := pj_i32 z196; have := pj_i32 (Int32.ofInt 1); omega) (by have := pj_i32 z196; have := pj_i32 (Int32.ofInt 1); omega)
        refine pj_X_of (fun r h => pj_T_il iG195 rfl rfl (by omega) (by omega) h) ?_
        show pj_X _ _ G195 149 [(0, .ref 171), (1, .int v1), (2, .int v2), (3, .int v3), (4, .int v4)] [.int (pj_ai G195 181 z197.toInt.toNat), .int v4, .ref 174] _
        obtain ⟨z198, hz198⟩ : ∃ z : Int32, z = pj_ai G195 181 z197.toInt.toNat := ⟨_, rfl⟩
        refine pj_X_eqi hz198.symm ?_
        have ez198 : (pj_ai G195 181 z197.toInt.toNat).toInt = z198.toInt := by rw [hz198]
        have fz198_0 : (-1 : Int) ≤ z198.toInt ∧ z198.toInt ≤ 99 ∧ (z198.toInt ≤ -1 ∨ -1 ≤ z198.toInt) := by rw [hz198]; exact iG195.2.2.1 181 (40, -1, 99, -1, -1) rfl _ (by show _ < 40; omega)
        have k199 : z198.toInt = (pj_ai G 181 (4 * v4.toInt.toNat + 1)).toInt := by rw [hz198, hG195, pj_ai_wa_ne _ _ _ _ _ _ (by decide), show z197.toInt.toNat = 4 * v4.toInt.toNat + 1 by omega]
        refine pj_X_of (fun r h => pj_T_is iG195 rfl rfl (by omega) (by omega) h) ?_
        show pj_X _ _ (pj_wa G195 174 v4.toInt.toNat z198) 150 [(0, .ref 171), (1, .int v1), (2, .int v2), (3, .int v3), (4, .int v4)] [] _
        obtain ⟨G200, hG200⟩ : ∃ H, H = pj_wa G195 174 v4.toInt.toNat z198 := ⟨_, rfl⟩
        have iG200 : pj_Inv G200 := by rw [hG200]; exact pj_Inv_wa iG195 rfl (fun q hq => by cases hq; exact ⟨by show (0 : Int) ≤ _; omega, by show _ ≤ (7 : Int); omega, by show _ ≤ (0 : Int) ∨ (0 : Int) ≤ _; omega⟩) (fun n hn => by cases hn)
        have kG200 : pj_kpt kc_191t G0 G200 := by rw [hG200]; exact pj_kpt_a kG195 rfl
        rw [← hG200]
        refine pj_X_of (fun r h => pj_R_to (G200, 151, [(0, .ref 171), (1, .int v1), (2, .int v2), (3, .int v3), (4, .int v4)], [.ref 171], 0, 0) 151 2 (fun _ => rfl) h) ?_
        refine pj_X_of (fun r h => pj_T_gr iG200 rfl rfl rfl h) ?_
        refine pj_X_of (fun r h => pj_R_to (G200, 157, [(0, .ref 171), (1, .int v1), (2, .int v2), (3, .int v3), (4, .int v4)], [.ref 171, .int v4, .ref 175], 0, 0) 157 3 (fun _ => rfl) h) ?_
        refine pj_X_of (fun r h => pj_T_gr iG200 rfl rfl rfl h) ?_
        refine pj_X_of (fun r h => pj_R_to (G200, 164, [(0, .ref 171), (1, .int v1), (2, .int v2), (3, .int v3), (4, .int v4)], [.int ((Int32.ofInt 4) * v4), .ref 181, .int v4, .ref 175], 0, 0) 164 4 (fun _ => rfl) h) ?_
        obtain ⟨z201, hz201⟩ : ∃ z : Int32, z = (Int32.ofInt 4) * v4 := ⟨_, rfl⟩
        refine pj_X_eqi hz201.symm ?_
        have fz201_0 : z201.toInt = 4 * v4.toInt := by rw [hz201]; exact pj_mulL (by decide) (by omega) (by omega)
        refine pj_X_of (fun r h => pj_R_to (G200, 166, [(0, .ref 171), (1, .int v1), (2, .int v2), (3, .int v3), (4, .int v4)], [.int (z201 + (Int32.ofInt 2)), .ref 181, .int v4, .ref 175], 0, 0) 166 3 (fun _ => rfl) h) ?_
        obtain ⟨z202, hz202⟩ : ∃ z : Int32, z = z201 + (Int32.ofInt 2) := ⟨_, rfl⟩
        refine pj_X_eqi hz202.symm ?_
        have fz202_0 : z202.toInt = z201.toInt + (Int32.ofInt 2).toInt := by rw [hz202]; exact pj_addI (by have := pj_i32 z201; have := pj_i32 (Int32.ofInt 2); omega) (by have := pj_i32 z201; have := pj_i32 (Int32.ofInt 2); omega)
        refine pj_X_of (fun r h => pj_T_il iG200 rfl rfl (by omega) (by omega) h) ?_
        show pj_X _ _ G200 167 [(0, .ref 171), (1, .int v1), (2, .int v2), (3, .int v3), (4, .int v4)] [.int (pj_ai G200 181 z202.toInt.toNat), .int v4, .ref 175] _
        obtain ⟨z203, hz203⟩ : ∃ z : Int32, z = pj_ai G200 181 z202.toInt.toNat := ⟨_, rfl⟩
        refine pj_X_eqi hz203.symm ?_
        have ez203 : (pj_ai G200 181 z202.toInt.toNat).toInt = z203.toInt := by rw [hz203]
        have fz203_0 : (-1 : Int) ≤ z203.toInt ∧ z203.toInt ≤ 99 ∧ (z203.toInt ≤ -1 ∨ -1 ≤ z203.toInt) := by rw [hz203]; exact iG200.2.2.1 181 (40, -1, 99, -1, -1) rfl _ (by show _ < 40; omega)
        have k204 : z203.toInt = (pj_ai G 181 (4 * v4.toInt.toNat + 2)).toInt := by rw [hz203, hG200, pj_ai_wa_ne _ _ _ _ _ _ (by decide), hG195, pj_ai_wa_ne _ _ _ _ _ _ (by decide), show z202.toInt.toNat = 4 * v4.toInt.toNat + 2 by omega]
        refine pj_X_of (fun r h => pj_T_is iG200 rfl rfl (by omega) (by omega) h) ?_
        show pj_X _ _ (pj_wa G200 175 v4.toInt.toNat z203) 168 [(0, .ref 171), (1, .int v1), (2, .int v2), (3, .int v3), (4, .int v4)] [] _
        obtain ⟨G205, hG205⟩ : ∃ H, H = pj_wa G200 175 v4.toInt.toNat z203 := ⟨_, rfl⟩
        have iG205 : pj_Inv G205 := by rw [hG205]; exact pj_Inv_wa iG200 rfl (fun q hq => by cases hq; exact ⟨by show (0 : Int) ≤ _; omega, by show _ ≤ (99 : Int); omega, by show _ ≤ (0 : Int) ∨ (0 : Int) ≤ _; omega⟩) (fun n hn => by cases hn)
        have kG205 : pj_kpt kc_191t G0 G205 := by rw [hG205]; exact pj_kpt_a kG200 rfl
        rw [← hG205]
        refine pj_X_of (fun r h => pj_R_to (G205, 169, [(0, .ref 171), (1, .int v1), (2, .int v2), (3, .int v3), (4, .int v4)], [.ref 171], 0, 0) 169 2 (fun _ => rfl) h) ?_
        refine pj_X_of (fun r h => pj_T_gr iG205 rfl rfl rfl h) ?_
        refine pj_X_of (fun r h => pj_R_to (G205, 175, [(0, .ref 171), (1, .int v1), (2, .int v2), (3, .int v3), (4, .int v4)], [.ref 171, .int v4, .ref 176], 0, 0) 175 3 (fun _ => rfl) h) ?_
        refine pj_X_of (fun r h => pj_T_gr iG205 rfl rfl rfl h) ?_
        refine pj_X_of (fun r h => pj_R_to (G205, 182, [(0, .ref 171), (1, .int v1), (2, .int v2), (3, .int v3), (4, .int v4)], [.int ((Int32.ofInt 4) * v4), .ref 181, .int v4, .ref 176], 0, 0) 182 4 (fun _ => rfl) h) ?_
        obtain ⟨z206, hz206⟩ : ∃ z : Int32, z = (Int32.ofInt 4) * v4 := ⟨_, rfl⟩
        refine pj_X_eqi hz206.symm ?_
        have fz206_0 : z206.toInt = 4 * v4.toInt := by rw [hz206]; exact pj_mulL (by decide) (by omega) (by omega)
        refine pj_X_of (fun r h => pj_R_to (G205, 184, [(0, .ref 171), (1, .int v1), (2, .int v2), (3, .int v3), (4, .int v4)], [.int (z206 + (Int32.ofInt 3)), .ref 181, .int v4, .ref 176], 0, 0) 184 3 (fun _ => rfl) h) ?_
        obtain ⟨z207, hz207⟩ : ∃ z : Int32, z = z206 + (Int32.ofInt 3) := ⟨_, rfl⟩
        refine pj_X_eqi hz207.symm ?_
        have fz207_0 : z207.toInt = z206.toInt + (Int32.ofInt 3).toInt := by rw [hz207]; exact pj_addI (by have := pj_i32 z206; have := pj_i32 (Int32.ofInt 3); omega) (by have := pj_i32 z206; have := pj_i32 (Int32.ofInt 3); omega)
        refine pj_X_of (fun r h => pj_T_il iG205 rfl rfl (by omega) (by omega) h) ?_
        show pj_X _ _ G205 185 [(0, .ref 171), (1, .int v1), (2, .int v2), (3, .int v3), (4, .int v4)] [.int (pj_ai G205 181 z207.toInt.toNat), .int v4, .ref 176] _
        obtain ⟨z208, hz208⟩ : ∃ z : Int32, z = pj_ai G205 181 z207.toInt.toNat := ⟨_, rfl⟩
        refine pj_X_eqi hz208.symm ?_
        have ez208 : (pj_ai G205 181 z207.toInt.toNat).toInt = z208.toInt := by rw [hz208]
        have fz208_0 : (-1 : Int) ≤ z208.toInt ∧ z208.toInt ≤ 99 ∧ (z208.toInt ≤ -1 ∨ -1 ≤ z208.toInt) := by rw [hz208]; exact iG205.2.2.1 181 (40, -1, 99, -1, -1) rfl _ (by show _ < 40; omega)
        have k209 : z208.toInt = (pj_ai G 181 (4 * v4.toInt.toNat + 3)).toInt := by rw [hz208, hG205, pj_ai_wa_ne _ _ _ _ _ _ (by decide), hG200, pj_ai_wa_ne _ _ _ _ _ _ (by decide), hG195, pj_ai_wa_ne _ _ _ _ _ _ (by decide), show z207.toInt.toNat = 4 * v4.toInt.toNat + 3 by omega]
        refine pj_X_of (fun r h => pj_T_is iG205 rfl rfl (by omega) (by omega) h) ?_
        show pj_X _ _ (pj_wa G205 176 v4.toInt.toNat z208) 186 [(0, .ref 171), (1, .int v1), (2, .int v2), (3, .int v3), (4, .int v4)] [] _
        obtain ⟨G210, hG210⟩ : ∃ H, H = pj_wa G205 176 v4.toInt.toNat z208 := ⟨_, rfl⟩
        have iG210 : pj_Inv G210 := by rw [hG210]; exact pj_Inv_wa iG205 rfl (fun q hq => by cases hq) (fun n hn => by cases hn)
        have kG210 : pj_kpt kc_191t G0 G210 := by rw [hG210]; exact pj_kpt_a kG205 rfl
        rw [← hG210]
        refine pj_X_of (fun r h => pj_R_to (G210, 189, [(4, .int (v4 + Int32.ofInt 1)), (0, .ref 171), (1, .int v1), (2, .int v2), (3, .int v3)], [], 0, 0) 189 2 (fun _ => rfl) h) ?_
        obtain ⟨z211, hz211⟩ : ∃ z : Int32, z = v4 + Int32.ofInt 1 := ⟨_, rfl⟩
        rw [← hz211]
        have fz211_0 : z211.toInt = v4.toInt + (Int32.ofInt 1).toInt := by rw [hz211]; exact pj_addI (by have := pj_i32 v4; have := pj_i32 (Int32.ofInt 1); omega) (by have := pj_i32 v4; have := pj_i32 (Int32.ofInt 1); omega)
        refine pj_X_of (fun r h => pj_R_to (G210, 107, [(4, .int z211), (0, .ref 171), (1, .int v1), (2, .int v2), (3, .int v3)], [], 0, 0) 107 2 (fun _ => rfl) h) ?_
        have q212 : (pj_fi G210 171 30).toInt = y156.toInt := by rw [show pj_fi G210 171 30 = y156 from by rw [hG210, pj_fi_wa]; exact (by rw [hG205, pj_fi_wa]; exact (by rw [hG200, pj_fi_wa]; exact (by rw [hG195, pj_fi_wa]; exact hy156.symm)))]
        have q213 : (pj_fi G210 171 22).toInt = y157.toInt := by rw [show pj_fi G210 171 22 = y157 from by rw [hG210, pj_fi_wa]; exact (by rw [hG205, pj_fi_wa]; exact (by rw [hG200, pj_fi_wa]; exact (by rw [hG195, pj_fi_wa]; exact hy157.symm)))]
        have q214 : (pj_fi G210 171 21).toInt = y158.toInt := by rw [show pj_fi G210 171 21 = y158 from by rw [hG210, pj_fi_wa]; exact (by rw [hG205, pj_fi_wa]; exact (by rw [hG200, pj_fi_wa]; exact (by rw [hG195, pj_fi_wa]; exact hy158.symm)))]
        have q215 : (pj_fi G210 171 3).toInt = y159.toInt := by rw [show pj_fi G210 171 3 = y159 from by rw [hG210, pj_fi_wa]; exact (by rw [hG205, pj_fi_wa]; exact (by rw [hG200, pj_fi_wa]; exact (by rw [hG195, pj_fi_wa]; exact hy159.symm)))]
        have q216 : (pj_fi G210 171 4).toInt = y160.toInt := by rw [show pj_fi G210 171 4 = y160 from by rw [hG210, pj_fi_wa]; exact (by rw [hG205, pj_fi_wa]; exact (by rw [hG200, pj_fi_wa]; exact (by rw [hG195, pj_fi_wa]; exact hy160.symm)))]
        have q217 : (pj_fi G210 171 16).toInt = y161.toInt := by rw [show pj_fi G210 171 16 = y161 from by rw [hG210, pj_fi_wa]; exact (by rw [hG205, pj_fi_wa]; exact (by rw [hG200, pj_fi_wa]; exact (by rw [hG195, pj_fi_wa]; exact hy161.symm)))]
        have v218 : (pj_ai G210 173 v4.toInt.toNat).toInt = z193.toInt := by rw [hG210, pj_ai_wa_ne _ _ _ _ _ _ (by decide), hG205, pj_ai_wa_ne _ _ _ _ _ _ (by decide), hG200, pj_ai_wa_ne _ _ _ _ _ _ (by decide), hG195, pj_ai_wa_eq hI.1 rfl]
        have v219 : (pj_ai G210 174 v4.toInt.toNat).toInt = z198.toInt := by rw [hG210, pj_ai_wa_ne _ _ _ _ _ _ (by decide), hG205, pj_ai_wa_ne _ _ _ _ _ _ (by decide), hG200, pj_ai_wa_eq iG195.1 rfl]
        have hold : ∀ j : Nat, j < v4.toInt.toNat → pj_ai G210 173 j = pj_ai G 173 j ∧ pj_ai G210 174 j = pj_ai G 174 j := fun j hj => ⟨by rw [hG210, pj_ai_wa_ne _ _ _ _ _ _ (by decide), hG205, pj_ai_wa_ne _ _ _ _ _ _ (by decide), hG200, pj_ai_wa_ne _ _ _ _ _ _ (by decide), hG195, pj_ai_wa_nj _ _ _ _ _ (by omega)], by rw [hG210, pj_ai_wa_ne _ _ _ _ _ _ (by decide), hG205, pj_ai_wa_ne _ _ _ _ _ _ (by decide), hG200, pj_ai_wa_nj _ _ _ _ _ (by omega), hG195, pj_ai_wa_ne _ _ _ _ _ _ (by decide)]⟩
        have eb220 : pj_fi G210 171 3 = pj_fi G 171 3 := by rw [hG210, pj_fi_wa, hG205, pj_fi_wa, hG200, pj_fi_wa, hG195, pj_fi_wa]
        exact pj_X_sub [(0, .ref 171), (1, .int v1), (2, .int v2), (3, .int v3), (4, .int z211)] (show List.Nodup [0, 1, 2, 3, 4] by decide) ⟨rfl, rfl, rfl, rfl, rfl, trivial⟩ (ih.2 G210 iG210 kG210 v1 v2 v3 z211 ⟨by omega, by omega⟩ ⟨by omega, by omega⟩ (pj_i32 _) ⟨by omega, by omega⟩ (by rw [show pj_fi G210 171 4 = pj_fi G 171 4 from by rw [hG210, pj_fi_wa, hG205, pj_fi_wa, hG200, pj_fi_wa, hG195, pj_fi_wa], show pj_fi G210 171 3 = pj_fi G 171 3 from by rw [hG210, pj_fi_wa, hG205, pj_fi_wa, hG200, pj_fi_wa, hG195, pj_fi_wa]]; exact pj_rd_k (fun j => by rw [hG210, pj_ai_wa_ne _ _ _ _ _ _ (by decide), hG205, pj_ai_wa_ne _ _ _ _ _ _ (by decide), hG200, pj_ai_wa_ne _ _ _ _ _ _ (by decide), hG195, pj_ai_wa_ne _ _ _ _ _ _ (by decide)]) x0_) (by rw [eb220, show z211.toInt = v4.toInt + 1 by omega]; exact pj_ro_s x1_ v4.toInt.toNat (by omega) hold (by omega) (by omega)) (by omega) (by omega) (by omega) (by omega))
theorem ct_191t (G0 : pj_G) (hI : pj_Inv G0) (p0_ : pj_RI G0) (p1_ : (pj_fi G0 171 30).toInt ≤ 15) : pj_Y 19 191 [.ref 171] G0 (fun v G' => ∃ y : Int32, v = some (.int y) ∧ pj_Inv G' ∧ pj_kpt kc_191t G0 G' ∧ ((-2147483648 : Int) ≤ y.toInt ∧ y.toInt ≤ 2147483647) ∧ (pj_RI G' ∧ ((pj_fi G' 171 30).toInt ≤ 15 ∧ (pj_fi G' 171 16).toInt = 0))) := by
  have c0_ : ((Int8.ofInt 10).toInt32).toInt = 10 := by decide
  have c1_ : ((Int8.ofInt 30).toInt32).toInt = 30 := by decide
  have c2_ : ((Int8.ofInt 31).toInt32).toInt = 31 := by decide
  have c3_ : ((Int8.ofInt 59).toInt32).toInt = 59 := by decide
  have c4_ : ((Int8.ofInt 72).toInt32).toInt = 72 := by decide
  have c5_ : (Int32.ofInt 0).toInt = 0 := by decide
  have c6_ : (Int32.ofInt 1).toInt = 1 := by decide
  have c7_ : (Int32.ofInt 2).toInt = 2 := by decide
  have c8_ : (Int32.ofInt 3).toInt = 3 := by decide
  have c9_ : (Int32.ofInt 4).toInt = 4 := by decide
  refine pj_Y_X (M := pj_m191) rfl rfl (Nat.le_of_ble_eq_true rfl) ?_
  have hK : pj_kpt kc_191t G0 G0 := pj_kpt_r _ _
  show pj_X _ _ G0 0 [(0, .ref 171)] [] _
  obtain ⟨y221, hy221⟩ : ∃ z : Int32, z = pj_fi G0 171 30 := ⟨_, rfl⟩
  have ey221 : (pj_fi G0 171 30).toInt = y221.toInt := by rw [hy221]
  have ry221 : (0 : Int) ≤ y221.toInt ∧ y221.toInt ≤ 16 := by rw [hy221]; exact hI.2.1 171 30 (0, 16) rfl
  obtain ⟨y222, hy222⟩ : ∃ z : Int32, z = pj_fi G0 171 22 := ⟨_, rfl⟩
  have ey222 : (pj_fi G0 171 22).toInt = y222.toInt := by rw [hy222]
  have ry222 : (0 : Int) ≤ y222.toInt ∧ y222.toInt ≤ 10 := by rw [hy222]; exact hI.2.1 171 22 (0, 10) rfl
  obtain ⟨y223, hy223⟩ : ∃ z : Int32, z = pj_fi G0 171 21 := ⟨_, rfl⟩
  have ey223 : (pj_fi G0 171 21).toInt = y223.toInt := by rw [hy223]
  have ry223 : (0 : Int) ≤ y223.toInt ∧ y223.toInt ≤ 8 := by rw [hy223]; exact hI.2.1 171 21 (0, 8) rfl
  obtain ⟨y224, hy224⟩ : ∃ z : Int32, z = pj_fi G0 171 3 := ⟨_, rfl⟩
  have ey224 : (pj_fi G0 171 3).toInt = y224.toInt := by rw [hy224]
  have ry224 : (0 : Int) ≤ y224.toInt ∧ y224.toInt ≤ 8 := by rw [hy224]; exact hI.2.1 171 3 (0, 8) rfl
  obtain ⟨y225, hy225⟩ : ∃ z : Int32, z = pj_fi G0 171 4 := ⟨_, rfl⟩
  have ey225 : (pj_fi G0 171 4).toInt = y225.toInt := by rw [hy225]
  have ry225 : (0 : Int) ≤ y225.toInt ∧ y225.toInt ≤ 10 := by rw [hy225]; exact hI.2.1 171 4 (0, 10) rfl
  obtain ⟨y226, hy226⟩ : ∃ z : Int32, z = pj_fi G0 171 16 := ⟨_, rfl⟩
  have ey226 : (pj_fi G0 171 16).toInt = y226.toInt := by rw [hy226]
  have ry226 : (0 : Int) ≤ y226.toInt ∧ y226.toInt ≤ 80 := by rw [hy226]; exact hI.2.1 171 16 (0, 80) rfl
  refine pj_X_of (fun r h => pj_R_to (G0, 2, [(0, .ref 171)], [.int (Int32.ofInt 0), .ref 171], 0, 0) 2 3 (fun _ => rfl) h) ?_
  refine pj_X_of (fun r h => pj_T_pf hI rfl rfl rfl h) ?_
  show pj_X _ _ (pj_wv G0 171 0 (.int (Int32.ofInt 0))) 5 [(0, .ref 171)] [] _
  obtain ⟨G227, hG227⟩ : ∃ H, H = pj_wv G0 171 0 (.int (Int32.ofInt 0)) := ⟨_, rfl⟩
  have iG227 : pj_Inv G227 := by rw [hG227]; exact pj_Inv_wi hI (ci := 12) rfl (fun q hq => by cases hq)
  have kG227 : pj_kpt kc_191t G0 G227 := by rw [hG227]; exact pj_kpt_v hK rfl
  rw [← hG227]
  refine pj_X_of (fun r h => pj_R_to (G227, 8, [(0, .ref 171)], [.int ((Int8.ofInt 72).toInt32), .ref 171], 0, 0) 8 3 (fun _ => rfl) h) ?_
  have q228 : (pj_fi G227 171 30).toInt = y221.toInt := by rw [show pj_fi G227 171 30 = y221 from by rw [hG227, pj_fi_wv_ne _ _ _ _ _ _ (by decide)]; exact hy221.symm]
  have q229 : (pj_fi G227 171 22).toInt = y222.toInt := by rw [show pj_fi G227 171 22 = y222 from by rw [hG227, pj_fi_wv_ne _ _ _ _ _ _ (by decide)]; exact hy222.symm]
  have q230 : (pj_fi G227 171 21).toInt = y223.toInt := by rw [show pj_fi G227 171 21 = y223 from by rw [hG227, pj_fi_wv_ne _ _ _ _ _ _ (by decide)]; exact hy223.symm]
  have q231 : (pj_fi G227 171 3).toInt = y224.toInt := by rw [show pj_fi G227 171 3 = y224 from by rw [hG227, pj_fi_wv_ne _ _ _ _ _ _ (by decide)]; exact hy224.symm]
  have q232 : (pj_fi G227 171 4).toInt = y225.toInt := by rw [show pj_fi G227 171 4 = y225 from by rw [hG227, pj_fi_wv_ne _ _ _ _ _ _ (by decide)]; exact hy225.symm]
  have q233 : (pj_fi G227 171 16).toInt = y226.toInt := by rw [show pj_fi G227 171 16 = y226 from by rw [hG227, pj_fi_wv_ne _ _ _ _ _ _ (by decide)]; exact hy226.symm]
  refine pj_X_ca (vs := [.ref 171, .int ((Int8.ofInt 72).toInt32)]) rfl (fun _ => rfl) ⟨Nat.le_of_ble_eq_true rfl, Nat.le_of_ble_eq_true rfl, pj_T_rcv iG227 rfl⟩ ⟨rfl, rfl⟩ (pj_Y_up (by decide) (ct_181et G227 iG227 ((Int8.ofInt 72).toInt32) ⟨by omega, by omega⟩)) ?_
  rintro _ G235 ⟨y234, rfl, iG235, jG235, ry234, ey234⟩
  have kG235 : pj_kpt kc_191t G0 G235 := pj_kpt_t kG227 (pj_kpt_s jG235 rfl)
  have q236 : (pj_fi G235 171 30).toInt = (pj_fi G227 171 30).toInt := by rw [jG235.1 (171, 30) (by decide)]
  have q237 : (pj_fi G235 171 22).toInt = (pj_fi G227 171 22).toInt := by rw [jG235.1 (171, 22) (by decide)]
  have q238 : (pj_fi G235 171 21).toInt = (pj_fi G227 171 21).toInt := by rw [jG235.1 (171, 21) (by decide)]
  have q239 : (pj_fi G235 171 3).toInt = (pj_fi G227 171 3).toInt := by rw [jG235.1 (171, 3) (by decide)]
  have q240 : (pj_fi G235 171 4).toInt = (pj_fi G227 171 4).toInt := by rw [jG235.1 (171, 4) (by decide)]
  obtain ⟨y241, hy241⟩ : ∃ z : Int32, z = pj_fi G235 171 30 := ⟨_, rfl⟩
  have ey241 : (pj_fi G235 171 30).toInt = y241.toInt := by rw [hy241]
  have ry241 : (0 : Int) ≤ y241.toInt ∧ y241.toInt ≤ 16 := by rw [hy241]; exact iG235.2.1 171 30 (0, 16) rfl
  obtain ⟨y242, hy242⟩ : ∃ z : Int32, z = pj_fi G235 171 22 := ⟨_, rfl⟩
  have ey242 : (pj_fi G235 171 22).toInt = y242.toInt := by rw [hy242]
  have ry242 : (0 : Int) ≤ y242.toInt ∧ y242.toInt ≤ 10 := by rw [hy242]; exact iG235.2.1 171 22 (0, 10) rfl
  obtain ⟨y243, hy243⟩ : ∃ z : Int32, z = pj_fi G235 171 21 := ⟨_, rfl⟩
  have ey243 : (pj_fi G235 171 21).toInt = y243.toInt := by rw [hy243]
  have ry243 : (0 : Int) ≤ y243.toInt ∧ y243.toInt ≤ 8 := by rw [hy243]; exact iG235.2.1 171 21 (0, 8) rfl
  obtain ⟨y244, hy244⟩ : ∃ z : Int32, z = pj_fi G235 171 3 := ⟨_, rfl⟩
  have ey244 : (pj_fi G235 171 3).toInt = y244.toInt := by rw [hy244]
  have ry244 : (0 : Int) ≤ y244.toInt ∧ y244.toInt ≤ 8 := by rw [hy244]; exact iG235.2.1 171 3 (0, 8) rfl
  obtain ⟨y245, hy245⟩ : ∃ z : Int32, z = pj_fi G235 171 4 := ⟨_, rfl⟩
  have ey245 : (pj_fi G235 171 4).toInt = y245.toInt := by rw [hy245]
  have ry245 : (0 : Int) ≤ y245.toInt ∧ y245.toInt ≤ 10 := by rw [hy245]; exact iG235.2.1 171 4 (0, 10) rfl
  obtain ⟨y246, hy246⟩ : ∃ z : Int32, z = pj_fi G235 171 16 := ⟨_, rfl⟩
  have ey246 : (pj_fi G235 171 16).toInt = y246.toInt := by rw [hy246]
  have ry246 : (0 : Int) ≤ y246.toInt ∧ y246.toInt ≤ 80 := by rw [hy246]; exact iG235.2.1 171 16 (0, 80) rfl
  show pj_X _ _ G235 11 [(0, .ref 171)] [.int y234] _
  refine pj_X_of (fun r h => pj_R_to (G235, 14, [(1, .int y234), (0, .ref 171)], [.int (Int32.ofInt 0), .ref 171], 0, 0) 14 4 (fun _ => rfl) h) ?_
  refine pj_X_of (fun r h => pj_T_pf iG235 rfl rfl rfl h) ?_
  show pj_X _ _ (pj_wv G235 171 22 (.int (Int32.ofInt 0))) 17 [(1, .int y234), (0, .ref 171)] [] _
  obtain ⟨G247, hG247⟩ : ∃ H, H = pj_wv G235 171 22 (.int (Int32.ofInt 0)) := ⟨_, rfl⟩
  have iG247 : pj_Inv G247 := by rw [hG247]; exact pj_Inv_wi iG235 (ci := 12) rfl (fun q hq => by cases hq; exact ⟨by show (0 : Int) ≤ _; omega, by show _ ≤ (10 : Int); omega⟩)
  have kG247 : pj_kpt kc_191t G0 G247 := by rw [hG247]; exact pj_kpt_v kG235 rfl
  rw [← hG247]
  refine pj_X_of (fun r h => pj_R_to (G247, 22, [(1, .int y234), (0, .ref 171)], [.retAddr 10, .ref 171, .int (Int32.ofInt 2), .ref 171], 0, 0) 22 5 (fun _ => rfl) h) ?_
  have q248 : (pj_fi G247 171 30).toInt = y241.toInt := by rw [show pj_fi G247 171 30 = y241 from by rw [hG247, pj_fi_wv_ne _ _ _ _ _ _ (by decide)]; exact hy241.symm]
  have q249 : (pj_fi G247 171 22).toInt = (Int32.ofInt 0).toInt := by rw [show pj_fi G247 171 22 = Int32.ofInt 0 from by rw [hG247]; exact pj_fi_wi iG235.1 (ci := 12) rfl _]
  have q250 : (pj_fi G247 171 21).toInt = y243.toInt := by rw [show pj_fi G247 171 21 = y243 from by rw [hG247, pj_fi_wv_ne _ _ _ _ _ _ (by decide)]; exact hy243.symm]
  have q251 : (pj_fi G247 171 3).toInt = y244.toInt := by rw [show pj_fi G247 171 3 = y244 from by rw [hG247, pj_fi_wv_ne _ _ _ _ _ _ (by decide)]; exact hy244.symm]
  have q252 : (pj_fi G247 171 4).toInt = y245.toInt := by rw [show pj_fi G247 171 4 = y245 from by rw [hG247, pj_fi_wv_ne _ _ _ _ _ _ (by decide)]; exact hy245.symm]
  have q253 : (pj_fi G247 171 16).toInt = y246.toInt := by rw [show pj_fi G247 171 16 = y246 from by rw [hG247, pj_fi_wv_ne _ _ _ _ _ _ (by decide)]; exact hy246.symm]
  refine pj_X_ca (vs := [.ref 171, .retAddr 10]) rfl (fun _ => rfl) ⟨Nat.le_of_ble_eq_true rfl, Nat.le_of_ble_eq_true rfl, pj_T_rcv iG247 rfl⟩ ⟨rfl, rfl⟩ (pj_Y_up (by decide) (ct_185_s10 G247 iG247)) ?_
  rintro _ G255 ⟨y254, rfl, iG255, jG255, ry254, ey254⟩
  have kG255 : pj_kpt kc_191t G0 G255 := pj_kpt_t kG247 (pj_kpt_s jG255 rfl)
  have q256 : (pj_fi G255 171 30).toInt = (pj_fi G247 171 30).toInt := by rw [jG255.1 (171, 30) (by decide)]
  have q257 : (pj_fi G255 171 22).toInt = (pj_fi G247 171 22).toInt := by rw [jG255.1 (171, 22) (by decide)]
  have q258 : (pj_fi G255 171 21).toInt = (pj_fi G247 171 21).toInt := by rw [jG255.1 (171, 21) (by decide)]
  have q259 : (pj_fi G255 171 3).toInt = (pj_fi G247 171 3).toInt := by rw [jG255.1 (171, 3) (by decide)]
  have q260 : (pj_fi G255 171 4).toInt = (pj_fi G247 171 4).toInt := by rw [jG255.1 (171, 4) (by decide)]
  have q261 : (pj_fi G255 171 16).toInt = (pj_fi G247 171 16).toInt := by rw [jG255.1 (171, 16) (by decide)]
  obtain ⟨y262, hy262⟩ : ∃ z : Int32, z = pj_fi G255 171 30 := ⟨_, rfl⟩
  have ey262 : (pj_fi G255 171 30).toInt = y262.toInt := by rw [hy262]
  have ry262 : (0 : Int) ≤ y262.toInt ∧ y262.toInt ≤ 16 := by rw [hy262]; exact iG255.2.1 171 30 (0, 16) rfl
  obtain ⟨y263, hy263⟩ : ∃ z : Int32, z = pj_fi G255 171 22 := ⟨_, rfl⟩
  have ey263 : (pj_fi G255 171 22).toInt = y263.toInt := by rw [hy263]
  have ry263 : (0 : Int) ≤ y263.toInt ∧ y263.toInt ≤ 10 := by rw [hy263]; exact iG255.2.1 171 22 (0, 10) rfl
  obtain ⟨y264, hy264⟩ : ∃ z : Int32, z = pj_fi G255 171 21 := ⟨_, rfl⟩
  have ey264 : (pj_fi G255 171 21).toInt = y264.toInt := by rw [hy264]
  have ry264 : (0 : Int) ≤ y264.toInt ∧ y264.toInt ≤ 8 := by rw [hy264]; exact iG255.2.1 171 21 (0, 8) rfl
  obtain ⟨y265, hy265⟩ : ∃ z : Int32, z = pj_fi G255 171 3 := ⟨_, rfl⟩
  have ey265 : (pj_fi G255 171 3).toInt = y265.toInt := by rw [hy265]
  have ry265 : (0 : Int) ≤ y265.toInt ∧ y265.toInt ≤ 8 := by rw [hy265]; exact iG255.2.1 171 3 (0, 8) rfl
  obtain ⟨y266, hy266⟩ : ∃ z : Int32, z = pj_fi G255 171 4 := ⟨_, rfl⟩
  have ey266 : (pj_fi G255 171 4).toInt = y266.toInt := by rw [hy266]
  have ry266 : (0 : Int) ≤ y266.toInt ∧ y266.toInt ≤ 10 := by rw [hy266]; exact iG255.2.1 171 4 (0, 10) rfl
  obtain ⟨y267, hy267⟩ : ∃ z : Int32, z = pj_fi G255 171 16 := ⟨_, rfl⟩
  have ey267 : (pj_fi G255 171 16).toInt = y267.toInt := by rw [hy267]
  have ry267 : (0 : Int) ≤ y267.toInt ∧ y267.toInt ≤ 80 := by rw [hy267]; exact iG255.2.1 171 16 (0, 80) rfl
  show pj_X _ _ G255 25 [(1, .int y234), (0, .ref 171)] [.int y254, .int (Int32.ofInt 2), .ref 171] _
  refine pj_X_of (fun r h => pj_R_to (G255, 26, [(1, .int y234), (0, .ref 171)], [.int ((Int32.ofInt 2) + y254), .ref 171], 0, 0) 26 2 (fun _ => rfl) h) ?_
  obtain ⟨z268, hz268⟩ : ∃ z : Int32, z = (Int32.ofInt 2) + y254 := ⟨_, rfl⟩
  refine pj_X_eqi hz268.symm ?_
  have fz268_0 : z268.toInt = (Int32.ofInt 2).toInt + y254.toInt := by rw [hz268]; exact pj_addI (by have := pj_i32 (Int32.ofInt 2); have := pj_i32 y254; omega) (by have := pj_i32 (Int32.ofInt 2); have := pj_i32 y254; omega)
  refine pj_X_of (fun r h => pj_T_pf iG255 rfl rfl rfl h) ?_
  show pj_X _ _ (pj_wv G255 171 21 (.int z268)) 29 [(1, .int y234), (0, .ref 171)] [] _
  obtain ⟨G269, hG269⟩ : ∃ H, H = pj_wv G255 171 21 (.int z268) := ⟨_, rfl⟩
  have iG269 : pj_Inv G269 := by rw [hG269]; exact pj_Inv_wi iG255 (ci := 12) rfl (fun q hq => by cases hq; exact ⟨by show (0 : Int) ≤ _; omega, by show _ ≤ (8 : Int); omega⟩)
  have kG269 : pj_kpt kc_191t G0 G269 := by rw [hG269]; exact pj_kpt_v kG255 rfl
  rw [← hG269]
  refine pj_X_of (fun r h => pj_R_to (G269, 30, [(1, .int y234), (0, .ref 171)], [.ref 171], 0, 0) 30 2 (fun _ => rfl) h) ?_
  refine pj_X_of (fun r h => pj_T_gi iG269 rfl rfl h) ?_
  show pj_X _ _ G269 33 [(1, .int y234), (0, .ref 171)] [.int (pj_fi G269 171 21)] _
  refine pj_X_eqi (show pj_fi G269 171 21 = z268 from by rw [hG269]; exact pj_fi_wi iG255.1 (ci := 12) rfl _) ?_
  refine pj_X_of (fun r h => pj_R_to (G269, 34, [(1, .int y234), (0, .ref 171)], [.int (Int32.ofInt 1), .int z268], 0, 0) 34 2 (fun _ => rfl) h) ?_
  cases b270 : pj_c1 .le z268 (Int32.ofInt 1) with
  | true =>
    have ub270 := pj_u_leT b270
    refine pj_X_of (fun r h => pj_R_icT 41 rfl rfl b270 h) ?_
    refine pj_X_of (fun r h => pj_R_to (G269, 43, [(2, .int (Int32.ofInt 0)), (1, .int y234), (0, .ref 171)], [], 0, 0) 43 3 (fun _ => rfl) h) ?_
    have q271 : (pj_fi G269 171 30).toInt = y262.toInt := by rw [show pj_fi G269 171 30 = y262 from by rw [hG269, pj_fi_wv_ne _ _ _ _ _ _ (by decide)]; exact hy262.symm]
    have q272 : (pj_fi G269 171 22).toInt = y263.toInt := by rw [show pj_fi G269 171 22 = y263 from by rw [hG269, pj_fi_wv_ne _ _ _ _ _ _ (by decide)]; exact hy263.symm]
    have q273 : (pj_fi G269 171 21).toInt = z268.toInt := by rw [show pj_fi G269 171 21 = z268 from by rw [hG269]; exact pj_fi_wi iG255.1 (ci := 12) rfl _]
    have q274 : (pj_fi G269 171 3).toInt = y265.toInt := by rw [show pj_fi G269 171 3 = y265 from by rw [hG269, pj_fi_wv_ne _ _ _ _ _ _ (by decide)]; exact hy265.symm]
    have q275 : (pj_fi G269 171 4).toInt = y266.toInt := by rw [show pj_fi G269 171 4 = y266 from by rw [hG269, pj_fi_wv_ne _ _ _ _ _ _ (by decide)]; exact hy266.symm]
    have q276 : (pj_fi G269 171 16).toInt = y267.toInt := by rw [show pj_fi G269 171 16 = y267 from by rw [hG269, pj_fi_wv_ne _ _ _ _ _ _ (by decide)]; exact hy267.symm]
    have t277 : pj_kpt ([(171, 0), (171, 16), (171, 17), (171, 18), (171, 19), (171, 21), (171, 22)], [171], []) G0 G0 := pj_kpt_r _ _
    have t278 : pj_kpt ([(171, 0), (171, 16), (171, 17), (171, 18), (171, 19), (171, 21), (171, 22)], [171], []) G0 G227 := by rw [hG227]; exact pj_kpt_v t277 rfl
    have t279 : pj_kpt ([(171, 0), (171, 16), (171, 17), (171, 18), (171, 19), (171, 21), (171, 22)], [171], []) G0 G235 := pj_kpt_t t278 (pj_kpt_s jG235 rfl)
    have t280 : pj_kpt ([(171, 0), (171, 16), (171, 17), (171, 18), (171, 19), (171, 21), (171, 22)], [171], []) G0 G247 := by rw [hG247]; exact pj_kpt_v t279 rfl
    have t281 : pj_kpt ([(171, 0), (171, 16), (171, 17), (171, 18), (171, 19), (171, 21), (171, 22)], [171], []) G0 G255 := pj_kpt_t t280 (pj_kpt_s jG255 rfl)
    have t282 : pj_kpt ([(171, 0), (171, 16), (171, 17), (171, 18), (171, 19), (171, 21), (171, 22)], [171], []) G0 G269 := by rw [hG269]; exact pj_kpt_v t281 rfl
    exact pj_X_sub [(0, .ref 171), (1, .int y234), (2, .int (Int32.ofInt 0))] (show List.Nodup [0, 1, 2] by decide) ⟨rfl, rfl, rfl, trivial⟩ ((lp_ct_191t G0 hI   p0_ p1_ 2001).1 G269 iG269 kG269 y234 (Int32.ofInt 0) ⟨by omega, by omega⟩ ⟨by omega, by omega⟩ (pj_RI_k p0_ t282 rfl) (fun _ => pj_rd_0 (by omega)) (by omega) (by omega) (by omega) (by omega))
  | false =>
    have ub270 := pj_u_leF b270
    refine pj_X_of (fun r h => pj_R_icF rfl b270 h) ?_
    refine pj_X_of (fun r h => pj_R_to (G269, 43, [(2, .int (Int32.ofInt 1)), (1, .int y234), (0, .ref 171)], [], 0, 0) 43 4 (fun _ => rfl) h) ?_
    have q283 : (pj_fi G269 171 30).toInt = y262.toInt := by rw [show pj_fi G269 171 30 = y262 from by rw [hG269, pj_fi_wv_ne _ _ _ _ _ _ (by decide)]; exact hy262.symm]
    have q284 : (pj_fi G269 171 22).toInt = y263.toInt := by rw [show pj_fi G269 171 22 = y263 from by rw [hG269, pj_fi_wv_ne _ _ _ _ _ _ (by decide)]; exact hy263.symm]
    have q285 : (pj_fi G269 171 21).toInt = z268.toInt := by rw [show pj_fi G269 171 21 = z268 from by rw [hG269]; exact pj_fi_wi iG255.1 (ci := 12) rfl _]
    have q286 : (pj_fi G269 171 3).toInt = y265.toInt := by rw [show pj_fi G269 171 3 = y265 from by rw [hG269, pj_fi_wv_ne _ _ _ _ _ _ (by decide)]; exact hy265.symm]
    have q287 : (pj_fi G269 171 4).toInt = y266.toInt := by rw [show pj_fi G269 171 4 = y266 from by rw [hG269, pj_fi_wv_ne _ _ _ _ _ _ (by decide)]; exact hy266.symm]
    have q288 : (pj_fi G269 171 16).toInt = y267.toInt := by rw [show pj_fi G269 171 16 = y267 from by rw [hG269, pj_fi_wv_ne _ _ _ _ _ _ (by decide)]; exact hy267.symm]
    have t289 : pj_kpt ([(171, 0), (171, 16), (171, 17), (171, 18), (171, 19), (171, 21), (171, 22)], [171], []) G0 G0 := pj_kpt_r _ _
    have t290 : pj_kpt ([(171, 0), (171, 16), (171, 17), (171, 18), (171, 19), (171, 21), (171, 22)], [171], []) G0 G227 := by rw [hG227]; exact pj_kpt_v t289 rfl
    have t291 : pj_kpt ([(171, 0), (171, 16), (171, 17), (171, 18), (171, 19), (171, 21), (171, 22)], [171], []) G0 G235 := pj_kpt_t t290 (pj_kpt_s jG235 rfl)
    have t292 : pj_kpt ([(171, 0), (171, 16), (171, 17), (171, 18), (171, 19), (171, 21), (171, 22)], [171], []) G0 G247 := by rw [hG247]; exact pj_kpt_v t291 rfl
    have t293 : pj_kpt ([(171, 0), (171, 16), (171, 17), (171, 18), (171, 19), (171, 21), (171, 22)], [171], []) G0 G255 := pj_kpt_t t292 (pj_kpt_s jG255 rfl)
    have t294 : pj_kpt ([(171, 0), (171, 16), (171, 17), (171, 18), (171, 19), (171, 21), (171, 22)], [171], []) G0 G269 := by rw [hG269]; exact pj_kpt_v t293 rfl
    exact pj_X_sub [(0, .ref 171), (1, .int y234), (2, .int (Int32.ofInt 1))] (show List.Nodup [0, 1, 2] by decide) ⟨rfl, rfl, rfl, trivial⟩ ((lp_ct_191t G0 hI   p0_ p1_ 2001).1 G269 iG269 kG269 y234 (Int32.ofInt 1) ⟨by omega, by omega⟩ ⟨by omega, by omega⟩ (pj_RI_k p0_ t294 rfl) (fun _ => pj_rd_0 (by omega)) (by omega) (by omega) (by omega) (by omega))
def kc_200t : pj_KT := ([(171, 0), (171, 16), (171, 17), (171, 18), (171, 19), (171, 26), (171, 27)], [171, 182, 183], [182, 183])
theorem lp_ct_200t (G0 : pj_G) (hI0 : pj_Inv G0) (p0_ : pj_RI G0) : ∀ mn : Nat, (∀ (G : pj_G) (hI : pj_Inv G) (hK : pj_kpt kc_200t G0 G) (v1 : Int32) (v2 : Int32) (v3 : Int32) (v4 : Int32), ((0 : Int) ≤ v1.toInt ∧ v1.toInt ≤ 80) → ((0 : Int) ≤ v2.toInt ∧ v2.toInt ≤ 1) → ((-81 : Int) ≤ v3.toInt ∧ v3.toInt ≤ 0) → ((0 : Int) ≤ v4.toInt ∧ v4.toInt ≤ 80) → (pj_cq G v4.toInt) → (pj_vr G (pj_fi G 171 27).toInt) → ((pj_fi G 171 26).toInt = (pj_fi G 171 27).toInt ∧ v4.toInt ≤ (pj_fi G 171 27).toInt) → ((pj_fi G 171 16).toInt = 0) → 80 - v4.toInt < (mn : Int) → pj_X 501 pj_m200 G 61 [(0, .ref 171), (1, .int v1), (2, .int v2), (3, .int v3), (4, .int v4)] [] (fun v G' => ∃ y : Int32, v = some (.int y) ∧ pj_Inv G' ∧ pj_kpt kc_200t G0 G' ∧ ((-2147483648 : Int) ≤ y.toInt ∧ y.toInt ≤ 2147483647) ∧ (pj_RI G' ∧ (pj_fi G' 171 16).toInt = 0))) := by
  have c0_ : ((Int8.ofInt 40).toInt32).toInt = 40 := by decide
  have c1_ : (Int32.ofInt 0).toInt = 0 := by decide
  have c2_ : (Int32.ofInt 1).toInt = 1 := by decide
  intro mn
  induction mn with
  | zero =>
    intro G hI hK v1 v2 v3 v4 rv1 rv2 rv3 rv4 x0_ x1_ x2_ x3_ hm
    exfalso
    omega
  | succ mn ih =>
    intro G hI hK v1 v2 v3 v4 rv1 rv2 rv3 rv4 x0_ x1_ x2_ x3_ hm
    obtain ⟨y1, hy1⟩ : ∃ z : Int32, z = pj_fi G 171 27 := ⟨_, rfl⟩
    have ey1 : (pj_fi G 171 27).toInt = y1.toInt := by rw [hy1]
    have ry1 : (0 : Int) ≤ y1.toInt ∧ y1.toInt ≤ 80 := by rw [hy1]; exact hI.2.1 171 27 (0, 80) rfl
    obtain ⟨y2, hy2⟩ : ∃ z : Int32, z = pj_fi G 171 17 := ⟨_, rfl⟩
    have ey2 : (pj_fi G 171 17).toInt = y2.toInt := by rw [hy2]
    have ry2 : (0 : Int) ≤ y2.toInt ∧ y2.toInt ≤ 80 := by rw [hy2]; exact hI.2.1 171 17 (0, 80) rfl
    obtain ⟨y3, hy3⟩ : ∃ z : Int32, z = pj_fi G 171 18 := ⟨_, rfl⟩
    have ey3 : (pj_fi G 171 18).toInt = y3.toInt := by rw [hy3]
    have ry3 : (0 : Int) ≤ y3.toInt ∧ y3.toInt ≤ 80 := by rw [hy3]; exact hI.2.1 171 18 (0, 80) rfl
    obtain ⟨y4, hy4⟩ : ∃ z : Int32, z = pj_fi G 171 26 := ⟨_, rfl⟩
    have ey4 : (pj_fi G 171 26).toInt = y4.toInt := by rw [hy4]
    have ry4 : (0 : Int) ≤ y4.toInt ∧ y4.toInt ≤ 80 := by rw [hy4]; exact hI.2.1 171 26 (0, 80) rfl
    obtain ⟨y5, hy5⟩ : ∃ z : Int32, z = pj_fi G 171 16 := ⟨_, rfl⟩
    have ey5 : (pj_fi G 171 16).toInt = y5.toInt := by rw [hy5]
    have ry5 : (0 : Int) ≤ y5.toInt ∧ y5.toInt ≤ 80 := by rw [hy5]; exact hI.2.1 171 16 (0, 80) rfl
    refine pj_X_of (fun r h => pj_R_to (G, 64, [(0, .ref 171), (1, .int v1), (2, .int v2), (3, .int v3), (4, .int v4)], [.ref 171, .int v4], 0, 0) 64 3 (fun _ => rfl) h) ?_
    refine pj_X_of (fun r h => pj_T_gi hI rfl rfl h) ?_
    show pj_X _ _ G 67 [(0, .ref 171), (1, .int v1), (2, .int v2), (3, .int v3), (4, .int v4)] [.int (pj_fi G 171 27), .int v4] _
    refine pj_X_eqi (show pj_fi G 171 27 = y1 from hy1.symm) ?_
    cases b6 : pj_c1 .ge v4 y1 with
    | true =>
      have ub6 := pj_u_geT b6
      refine pj_X_of (fun r h => pj_R_icT 90 rfl rfl b6 h) ?_
      refine pj_X_of (fun r h => pj_R_to (G, 91, [(0, .ref 171), (1, .int v1), (2, .int v2), (3, .int v3), (4, .int v4)], [.int (Int32.ofInt 0)], 0, 0) 91 2 (fun _ => rfl) h) ?_
      have q7 : (pj_fi G 171 27).toInt = y1.toInt := by rw [show pj_fi G 171 27 = y1 from hy1.symm]
      have q8 : (pj_fi G 171 17).toInt = y2.toInt := by rw [show pj_fi G 171 17 = y2 from hy2.symm]
      have q9 : (pj_fi G 171 18).toInt = y3.toInt := by rw [show pj_fi G 171 18 = y3 from hy3.symm]
      have q10 : (pj_fi G 171 26).toInt = y4.toInt := by rw [show pj_fi G 171 26 = y4 from hy4.symm]
      have q11 : (pj_fi G 171 16).toInt = y5.toInt := by rw [show pj_fi G 171 16 = y5 from hy5.symm]
      exact pj_X_rt rfl rfl ⟨_, rfl, hI, hK, pj_i32 _, ⟨pj_RI_r p0_ (hK.1 (171, 3) (by decide)) (hK.1 (171, 4) (by decide)) (fun j => hK.2.2 173 (by decide) j) (fun j => hK.2.2 174 (by decide) j) (n := (pj_fi G 171 27).toInt) (fun j hj => x0_ j (by omega)) x1_ (by omega), by omega⟩⟩
    | false =>
      have ub6 := pj_u_geF b6
      refine pj_X_of (fun r h => pj_R_icF rfl b6 h) ?_
      refine pj_X_of (fun r h => pj_R_to (G, 71, [(0, .ref 171), (1, .int v1), (2, .int v2), (3, .int v3), (4, .int v4)], [.ref 171], 0, 0) 71 2 (fun _ => rfl) h) ?_
      refine pj_X_of (fun r h => pj_T_gr hI rfl rfl rfl h) ?_
      refine pj_X_of (fun r h => pj_R_to (G, 77, [(0, .ref 171), (1, .int v1), (2, .int v2), (3, .int v3), (4, .int v4)], [.ref 171, .int v4, .ref 182], 0, 0) 77 3 (fun _ => rfl) h) ?_
      refine pj_X_of (fun r h => pj_T_gr hI rfl rfl rfl h) ?_
      refine pj_X_of (fun r h => pj_R_to (G, 82, [(0, .ref 171), (1, .int v1), (2, .int v2), (3, .int v3), (4, .int v4)], [.int v4, .ref 183, .int v4, .ref 182], 0, 0) 82 2 (fun _ => rfl) h) ?_
      refine pj_X_of (fun r h => pj_T_il hI rfl rfl (by omega) (by omega) h) ?_
      show pj_X _ _ G 83 [(0, .ref 171), (1, .int v1), (2, .int v2), (3, .int v3), (4, .int v4)] [.int (pj_ai G 183 v4.toInt.toNat), .int v4, .ref 182] _
      obtain ⟨z12, hz12⟩ : ∃ z : Int32, z = pj_ai G 183 v4.toInt.toNat := ⟨_, rfl⟩
      refine pj_X_eqi hz12.symm ?_
      have ez12 : (pj_ai G 183 v4.toInt.toNat).toInt = z12.toInt := by rw [hz12]
      have fz12_0 : (-1 : Int) ≤ z12.toInt ∧ z12.toInt ≤ 3000 ∧ (z12.toInt ≤ 1006 ∨ 2000 ≤ z12.toInt) := by rw [hz12]; exact hI.2.2.1 183 (80, -1, 3000, 1006, 2000) rfl _ (by show _ < 80; omega)
      refine pj_X_of (fun r h => pj_T_is hI rfl rfl (by omega) (by omega) h) ?_
      show pj_X _ _ (pj_wa G 182 v4.toInt.toNat z12) 84 [(0, .ref 171), (1, .int v1), (2, .int v2), (3, .int v3), (4, .int v4)] [] _
      obtain ⟨G13, hG13⟩ : ∃ H, H = pj_wa G 182 v4.toInt.toNat z12 := ⟨_, rfl⟩
      have iG13 : pj_Inv G13 := by rw [hG13]; exact pj_Inv_wa hI rfl (fun q hq => by cases hq; exact ⟨by show (-1 : Int) ≤ _; omega, by show _ ≤ (3000 : Int); omega, by show _ ≤ (1006 : Int) ∨ (2000 : Int) ≤ _; omega⟩) (fun n hn => by cases hn)
      have kG13 : pj_kpt kc_200t G0 G13 := by rw [hG13]; exact pj_kpt_a hK rfl
      rw [← hG13]
      refine pj_X_of (fun r h => pj_R_to (G13, 87, [(4, .int (v4 + Int32.ofInt 1)), (0, .ref 171), (1, .int v1), (2, .int v2), (3, .int v3)], [], 0, 0) 87 2 (fun _ => rfl) h) ?_
      obtain ⟨z14, hz14⟩ : ∃ z : Int32, z = v4 + Int32.ofInt 1 := ⟨_, rfl⟩
      rw [← hz14]
      have fz14_0 : z14.toInt = v4.toInt + (Int32.ofInt 1).toInt := by rw [hz14]; exact pj_addI (by have := pj_i32 v4; have := pj_i32 (Int32.ofInt 1); omega) (by have := pj_i32 v4; have := pj_i32 (Int32.ofInt 1); omega)
      refine pj_X_of (fun r h => pj_R_to (G13, 61, [(4, .int z14), (0, .ref 171), (1, .int v1), (2, .int v2), (3, .int v3)], [], 0, 0) 61 2 (fun _ => rfl) h) ?_
      have q15 : (pj_fi G13 171 27).toInt = y1.toInt := by rw [show pj_fi G13 171 27 = y1 from by rw [hG13, pj_fi_wa]; exact hy1.symm]
      have q16 : (pj_fi G13 171 17).toInt = y2.toInt := by rw [show pj_fi G13 171 17 = y2 from by rw [hG13, pj_fi_wa]; exact hy2.symm]
      have q17 : (pj_fi G13 171 18).toInt = y3.toInt := by rw [show pj_fi G13 171 18 = y3 from by rw [hG13, pj_fi_wa]; exact hy3.symm]
      have q18 : (pj_fi G13 171 26).toInt = y4.toInt := by rw [show pj_fi G13 171 26 = y4 from by rw [hG13, pj_fi_wa]; exact hy4.symm]
      have q19 : (pj_fi G13 171 16).toInt = y5.toInt := by rw [show pj_fi G13 171 16 = y5 from by rw [hG13, pj_fi_wa]; exact hy5.symm]
      have h3 : pj_ai G13 182 v4.toInt.toNat = pj_ai G 183 v4.toInt.toNat := by rw [hG13, pj_ai_wa_eq hI.1 rfl, hz12]
      exact pj_X_sub [(0, .ref 171), (1, .int v1), (2, .int v2), (3, .int v3), (4, .int z14)] (show List.Nodup [0, 1, 2, 3, 4] by decide) ⟨rfl, rfl, rfl, rfl, rfl, trivial⟩ (ih G13 iG13 kG13 v1 v2 v3 z14 ⟨by omega, by omega⟩ ⟨by omega, by omega⟩ ⟨by omega, by omega⟩ ⟨by omega, by omega⟩ (by rw [show z14.toInt = v4.toInt + 1 by omega]; exact pj_cq_s x0_ v4.toInt.toNat (by omega) (fun j => by rw [hG13, pj_ai_wa_ne _ _ _ _ _ _ (by decide)]) (fun j hj => by rw [hG13, pj_ai_wa_nj _ _ _ _ _ (by omega)]) h3) (by rw [show pj_fi G13 171 27 = pj_fi G 171 27 from by rw [hG13, pj_fi_wa]]; exact pj_vr_k (fun j => by rw [hG13, pj_ai_wa_ne _ _ _ _ _ _ (by decide)]) x1_) (by omega) (by omega) (by omega))
theorem ct_200t (G0 : pj_G) (hI : pj_Inv G0) (p0_ : pj_RI G0) : pj_Y 502 200 [.ref 171] G0 (fun v G' => ∃ y : Int32, v = some (.int y) ∧ pj_Inv G' ∧ pj_kpt kc_200t G0 G' ∧ ((-2147483648 : Int) ≤ y.toInt ∧ y.toInt ≤ 2147483647) ∧ (pj_RI G' ∧ (pj_fi G' 171 16).toInt = 0)) := by
  have c0_ : ((Int8.ofInt 40).toInt32).toInt = 40 := by decide
  have c1_ : (Int32.ofInt 0).toInt = 0 := by decide
  have c2_ : (Int32.ofInt 1).toInt = 1 := by decide
  refine pj_Y_X (M := pj_m200) rfl rfl (Nat.le_of_ble_eq_true rfl) ?_
  have hK : pj_kpt kc_200t G0 G0 := pj_kpt_r _ _
  show pj_X _ _ G0 0 [(0, .ref 171)] [] _
  obtain ⟨y20, hy20⟩ : ∃ z : Int32, z = pj_fi G0 171 27 := ⟨_, rfl⟩
  have ey20 : (pj_fi G0 171 27).toInt = y20.toInt := by rw [hy20]
  have ry20 : (0 : Int) ≤ y20.toInt ∧ y20.toInt ≤ 80 := by rw [hy20]; exact hI.2.1 171 27 (0, 80) rfl
  obtain ⟨y21, hy21⟩ : ∃ z : Int32, z = pj_fi G0 171 17 := ⟨_, rfl⟩
  have ey21 : (pj_fi G0 171 17).toInt = y21.toInt := by rw [hy21]
  have ry21 : (0 : Int) ≤ y21.toInt ∧ y21.toInt ≤ 80 := by rw [hy21]; exact hI.2.1 171 17 (0, 80) rfl
  obtain ⟨y22, hy22⟩ : ∃ z : Int32, z = pj_fi G0 171 18 := ⟨_, rfl⟩
  have ey22 : (pj_fi G0 171 18).toInt = y22.toInt := by rw [hy22]
  have ry22 : (0 : Int) ≤ y22.toInt ∧ y22.toInt ≤ 80 := by rw [hy22]; exact hI.2.1 171 18 (0, 80) rfl
  obtain ⟨y23, hy23⟩ : ∃ z : Int32, z = pj_fi G0 171 26 := ⟨_, rfl⟩
  have ey23 : (pj_fi G0 171 26).toInt = y23.toInt := by rw [hy23]
  have ry23 : (0 : Int) ≤ y23.toInt ∧ y23.toInt ≤ 80 := by rw [hy23]; exact hI.2.1 171 26 (0, 80) rfl
  obtain ⟨y24, hy24⟩ : ∃ z : Int32, z = pj_fi G0 171 16 := ⟨_, rfl⟩
  have ey24 : (pj_fi G0 171 16).toInt = y24.toInt := by rw [hy24]
  have ry24 : (0 : Int) ≤ y24.toInt ∧ y24.toInt ≤ 80 := by rw [hy24]; exact hI.2.1 171 16 (0, 80) rfl
  refine pj_X_of (fun r h => pj_R_to (G0, 2, [(0, .ref 171)], [.int (Int32.ofInt 0), .ref 171], 0, 0) 2 3 (fun _ => rfl) h) ?_
  refine pj_X_of (fun r h => pj_T_pf hI rfl rfl rfl h) ?_
  show pj_X _ _ (pj_wv G0 171 0 (.int (Int32.ofInt 0))) 5 [(0, .ref 171)] [] _
  obtain ⟨G25, hG25⟩ : ∃ H, H = pj_wv G0 171 0 (.int (Int32.ofInt 0)) := ⟨_, rfl⟩
  have iG25 : pj_Inv G25 := by rw [hG25]; exact pj_Inv_wi hI (ci := 12) rfl (fun q hq => by cases hq)
  have kG25 : pj_kpt kc_200t G0 G25 := by rw [hG25]; exact pj_kpt_v hK rfl
  rw [← hG25]
  refine pj_X_of (fun r h => pj_R_to (G25, 8, [(0, .ref 171)], [.int ((Int8.ofInt 40).toInt32), .ref 171], 0, 0) 8 3 (fun _ => rfl) h) ?_
  have q26 : (pj_fi G25 171 27).toInt = y20.toInt := by rw [show pj_fi G25 171 27 = y20 from by rw [hG25, pj_fi_wv_ne _ _ _ _ _ _ (by decide)]; exact hy20.symm]
  have q27 : (pj_fi G25 171 17).toInt = y21.toInt := by rw [show pj_fi G25 171 17 = y21 from by rw [hG25, pj_fi_wv_ne _ _ _ _ _ _ (by decide)]; exact hy21.symm]
  have q28 : (pj_fi G25 171 18).toInt = y22.toInt := by rw [show pj_fi G25 171 18 = y22 from by rw [hG25, pj_fi_wv_ne _ _ _ _ _ _ (by decide)]; exact hy22.symm]
  have q29 : (pj_fi G25 171 26).toInt = y23.toInt := by rw [show pj_fi G25 171 26 = y23 from by rw [hG25, pj_fi_wv_ne _ _ _ _ _ _ (by decide)]; exact hy23.symm]
  have q30 : (pj_fi G25 171 16).toInt = y24.toInt := by rw [show pj_fi G25 171 16 = y24 from by rw [hG25, pj_fi_wv_ne _ _ _ _ _ _ (by decide)]; exact hy24.symm]
  refine pj_X_ca (vs := [.ref 171, .int ((Int8.ofInt 40).toInt32)]) rfl (fun _ => rfl) ⟨Nat.le_of_ble_eq_true rfl, Nat.le_of_ble_eq_true rfl, pj_T_rcv iG25 rfl⟩ ⟨rfl, rfl⟩ (pj_Y_up (by decide) (ct_181et G25 iG25 ((Int8.ofInt 40).toInt32) ⟨by omega, by omega⟩)) ?_
  rintro _ G32 ⟨y31, rfl, iG32, jG32, ry31, ey31⟩
  have kG32 : pj_kpt kc_200t G0 G32 := pj_kpt_t kG25 (pj_kpt_s jG32 rfl)
  have q33 : (pj_fi G32 171 27).toInt = (pj_fi G25 171 27).toInt := by rw [jG32.1 (171, 27) (by decide)]
  have q34 : (pj_fi G32 171 26).toInt = (pj_fi G25 171 26).toInt := by rw [jG32.1 (171, 26) (by decide)]
  obtain ⟨y35, hy35⟩ : ∃ z : Int32, z = pj_fi G32 171 27 := ⟨_, rfl⟩
  have ey35 : (pj_fi G32 171 27).toInt = y35.toInt := by rw [hy35]
  have ry35 : (0 : Int) ≤ y35.toInt ∧ y35.toInt ≤ 80 := by rw [hy35]; exact iG32.2.1 171 27 (0, 80) rfl
  obtain ⟨y36, hy36⟩ : ∃ z : Int32, z = pj_fi G32 171 17 := ⟨_, rfl⟩
  have ey36 : (pj_fi G32 171 17).toInt = y36.toInt := by rw [hy36]
  have ry36 : (0 : Int) ≤ y36.toInt ∧ y36.toInt ≤ 80 := by rw [hy36]; exact iG32.2.1 171 17 (0, 80) rfl
  obtain ⟨y37, hy37⟩ : ∃ z : Int32, z = pj_fi G32 171 18 := ⟨_, rfl⟩
  have ey37 : (pj_fi G32 171 18).toInt = y37.toInt := by rw [hy37]
  have ry37 : (0 : Int) ≤ y37.toInt ∧ y37.toInt ≤ 80 := by rw [hy37]; exact iG32.2.1 171 18 (0, 80) rfl
  obtain ⟨y38, hy38⟩ : ∃ z : Int32, z = pj_fi G32 171 26 := ⟨_, rfl⟩
  have ey38 : (pj_fi G32 171 26).toInt = y38.toInt := by rw [hy38]
  have ry38 : (0 : Int) ≤ y38.toInt ∧ y38.toInt ≤ 80 := by rw [hy38]; exact iG32.2.1 171 26 (0, 80) rfl
  obtain ⟨y39, hy39⟩ : ∃ z : Int32, z = pj_fi G32 171 16 := ⟨_, rfl⟩
  have ey39 : (pj_fi G32 171 16).toInt = y39.toInt := by rw [hy39]
  have ry39 : (0 : Int) ≤ y39.toInt ∧ y39.toInt ≤ 80 := by rw [hy39]; exact iG32.2.1 171 16 (0, 80) rfl
  show pj_X _ _ G32 11 [(0, .ref 171)] [.int y31] _
  refine pj_X_of (fun r h => pj_R_to (G32, 14, [(1, .int y31), (0, .ref 171)], [.int (Int32.ofInt 0), .ref 171], 0, 0) 14 4 (fun _ => rfl) h) ?_
  refine pj_X_of (fun r h => pj_T_pf iG32 rfl rfl rfl h) ?_
  show pj_X _ _ (pj_wv G32 171 27 (.int (Int32.ofInt 0))) 17 [(1, .int y31), (0, .ref 171)] [] _
  obtain ⟨G40, hG40⟩ : ∃ H, H = pj_wv G32 171 27 (.int (Int32.ofInt 0)) := ⟨_, rfl⟩
  have iG40 : pj_Inv G40 := by rw [hG40]; exact pj_Inv_wi iG32 (ci := 12) rfl (fun q hq => by cases hq; exact ⟨by show (0 : Int) ≤ _; omega, by show _ ≤ (80 : Int); omega⟩)
  have kG40 : pj_kpt kc_200t G0 G40 := by rw [hG40]; exact pj_kpt_v kG32 rfl
  rw [← hG40]
  refine pj_X_of (fun r h => pj_R_to (G40, 18, [(1, .int y31), (0, .ref 171)], [.int y31], 0, 0) 18 2 (fun _ => rfl) h) ?_
  cases b41 : pj_c1 .eq y31 0 with
  | true =>
    have ub41 := pj_u0_eqT b41
    refine pj_X_of (fun r h => pj_R_ifT 29 rfl rfl b41 h) ?_
    refine pj_X_of (fun r h => pj_R_to (G40, 40, [(2, .int (Int32.ofInt 1)), (1, .int y31), (0, .ref 171)], [.int (Int32.ofInt 1), .int ((Int8.ofInt 40).toInt32), .int y31, .ref 171], 0, 0) 40 8 (fun _ => rfl) h) ?_
    have q42 : (pj_fi G40 171 27).toInt = (Int32.ofInt 0).toInt := by rw [show pj_fi G40 171 27 = Int32.ofInt 0 from by rw [hG40]; exact pj_fi_wi iG32.1 (ci := 12) rfl _]
    have q43 : (pj_fi G40 171 17).toInt = y36.toInt := by rw [show pj_fi G40 171 17 = y36 from by rw [hG40, pj_fi_wv_ne _ _ _ _ _ _ (by decide)]; exact hy36.symm]
    have q44 : (pj_fi G40 171 18).toInt = y37.toInt := by rw [show pj_fi G40 171 18 = y37 from by rw [hG40, pj_fi_wv_ne _ _ _ _ _ _ (by decide)]; exact hy37.symm]
    have q45 : (pj_fi G40 171 26).toInt = y38.toInt := by rw [show pj_fi G40 171 26 = y38 from by rw [hG40, pj_fi_wv_ne _ _ _ _ _ _ (by decide)]; exact hy38.symm]
    have q46 : (pj_fi G40 171 16).toInt = y39.toInt := by rw [show pj_fi G40 171 16 = y39 from by rw [hG40, pj_fi_wv_ne _ _ _ _ _ _ (by decide)]; exact hy39.symm]
    refine pj_X_ca (vs := [.ref 171, .int y31, .int ((Int8.ofInt 40).toInt32), .int (Int32.ofInt 1)]) rfl (fun _ => rfl) ⟨Nat.le_of_ble_eq_true rfl, Nat.le_of_ble_eq_true rfl, pj_T_rcv iG40 rfl⟩ ⟨rfl, rfl⟩ (pj_Y_up (by decide) (ct_188 G40 iG40 y31 ((Int8.ofInt 40).toInt32) (Int32.ofInt 1) ⟨by omega, by omega⟩ ⟨by omega, by omega⟩ ⟨by omega, by omega⟩)) ?_
    rintro _ _ ⟨y47, rfl, rfl, ry47, ey47⟩
    show pj_X _ _ G40 43 [(2, .int (Int32.ofInt 1)), (1, .int y31), (0, .ref 171)] [.int y47] _
    refine pj_X_of (fun r h => pj_R_to (G40, 45, [(3, .int y47), (2, .int (Int32.ofInt 1)), (1, .int y31), (0, .ref 171)], [.int y47], 0, 0) 45 3 (fun _ => rfl) h) ?_
    cases b48 : pj_c1 .ge y47 0 with
    | true =>
      have ub48 := pj_u0_geT b48
      refine pj_X_of (fun r h => pj_R_ifT 50 rfl rfl b48 h) ?_
      refine pj_X_of (fun r h => pj_R_to (G40, 52, [(3, .int y47), (2, .int (Int32.ofInt 1)), (1, .int y31), (0, .ref 171)], [.ref 171, .ref 171], 0, 0) 52 3 (fun _ => rfl) h) ?_
      refine pj_X_of (fun r h => pj_T_gi iG40 rfl rfl h) ?_
      show pj_X _ _ G40 55 [(3, .int y47), (2, .int (Int32.ofInt 1)), (1, .int y31), (0, .ref 171)] [.int (pj_fi G40 171 27), .ref 171] _
      refine pj_X_eqi (show pj_fi G40 171 27 = Int32.ofInt 0 from by rw [hG40]; exact pj_fi_wi iG32.1 (ci := 12) rfl _) ?_
      refine pj_X_of (fun r h => pj_T_pf iG40 rfl rfl rfl h) ?_
      show pj_X _ _ (pj_wv G40 171 26 (.int (Int32.ofInt 0))) 58 [(3, .int y47), (2, .int (Int32.ofInt 1)), (1, .int y31), (0, .ref 171)] [] _
      obtain ⟨G49, hG49⟩ : ∃ H, H = pj_wv G40 171 26 (.int (Int32.ofInt 0)) := ⟨_, rfl⟩
      have iG49 : pj_Inv G49 := by rw [hG49]; exact pj_Inv_wi iG40 (ci := 12) rfl (fun q hq => by cases hq; exact ⟨by show (0 : Int) ≤ _; omega, by show _ ≤ (80 : Int); omega⟩)
      have kG49 : pj_kpt kc_200t G0 G49 := by rw [hG49]; exact pj_kpt_v kG40 rfl
      rw [← hG49]
      refine pj_X_of (fun r h => pj_R_to (G49, 61, [(4, .int (Int32.ofInt 0)), (3, .int y47), (2, .int (Int32.ofInt 1)), (1, .int y31), (0, .ref 171)], [], 0, 0) 61 3 (fun _ => rfl) h) ?_
      have q50 : (pj_fi G49 171 27).toInt = (Int32.ofInt 0).toInt := by rw [show pj_fi G49 171 27 = Int32.ofInt 0 from by rw [hG49, pj_fi_wv_ne _ _ _ _ _ _ (by decide)]; exact (by rw [hG40]; exact pj_fi_wi iG32.1 (ci := 12) rfl _)]
      have q51 : (pj_fi G49 171 17).toInt = y36.toInt := by rw [show pj_fi G49 171 17 = y36 from by rw [hG49, pj_fi_wv_ne _ _ _ _ _ _ (by decide)]; exact (by rw [hG40, pj_fi_wv_ne _ _ _ _ _ _ (by decide)]; exact hy36.symm)]
      have q52 : (pj_fi G49 171 18).toInt = y37.toInt := by rw [show pj_fi G49 171 18 = y37 from by rw [hG49, pj_fi_wv_ne _ _ _ _ _ _ (by decide)]; exact (by rw [hG40, pj_fi_wv_ne _ _ _ _ _ _ (by decide)]; exact hy37.symm)]
      have q53 : (pj_fi G49 171 26).toInt = (Int32.ofInt 0).toInt := by rw [show pj_fi G49 171 26 = Int32.ofInt 0 from by rw [hG49]; exact pj_fi_wi iG40.1 (ci := 12) rfl _]
      have q54 : (pj_fi G49 171 16).toInt = y39.toInt := by rw [show pj_fi G49 171 16 = y39 from by rw [hG49, pj_fi_wv_ne _ _ _ _ _ _ (by decide)]; exact (by rw [hG40, pj_fi_wv_ne _ _ _ _ _ _ (by decide)]; exact hy39.symm)]
      exact pj_X_sub [(0, .ref 171), (1, .int y31), (2, .int (Int32.ofInt 1)), (3, .int y47), (4, .int (Int32.ofInt 0))] (show List.Nodup [0, 1, 2, 3, 4] by decide) ⟨rfl, rfl, rfl, rfl, rfl, trivial⟩ ((lp_ct_200t G0 hI   p0_ 81) G49 iG49 kG49 y31 (Int32.ofInt 1) y47 (Int32.ofInt 0) ⟨by omega, by omega⟩ ⟨by omega, by omega⟩ ⟨by omega, by omega⟩ ⟨by omega, by omega⟩ (fun j hj => absurd hj (by omega)) (pj_vr_0 (by omega)) (by omega) (by omega) (by omega))
    | false =>
      have ub48 := pj_u0_geF b48
      refine pj_X_of (fun r h => pj_R_ifF rfl b48 h) ?_
      refine pj_X_of (fun r h => pj_R_to (G40, 49, [(3, .int y47), (2, .int (Int32.ofInt 1)), (1, .int y31), (0, .ref 171)], [.int y47], 0, 0) 49 2 (fun _ => rfl) h) ?_
      have q55 : (pj_fi G40 171 27).toInt = (Int32.ofInt 0).toInt := by rw [show pj_fi G40 171 27 = Int32.ofInt 0 from by rw [hG40]; exact pj_fi_wi iG32.1 (ci := 12) rfl _]
      have q56 : (pj_fi G40 171 17).toInt = y36.toInt := by rw [show pj_fi G40 171 17 = y36 from by rw [hG40, pj_fi_wv_ne _ _ _ _ _ _ (by decide)]; exact hy36.symm]
      have q57 : (pj_fi G40 171 18).toInt = y37.toInt := by rw [show pj_fi G40 171 18 = y37 from by rw [hG40, pj_fi_wv_ne _ _ _ _ _ _ (by decide)]; exact hy37.symm]
      have q58 : (pj_fi G40 171 26).toInt = y38.toInt := by rw [show pj_fi G40 171 26 = y38 from by rw [hG40, pj_fi_wv_ne _ _ _ _ _ _ (by decide)]; exact hy38.symm]
      have q59 : (pj_fi G40 171 16).toInt = y39.toInt := by rw [show pj_fi G40 171 16 = y39 from by rw [hG40, pj_fi_wv_ne _ _ _ _ _ _ (by decide)]; exact hy39.symm]
      have t60 : pj_kpt ([(171, 0), (171, 16), (171, 17), (171, 18), (171, 19), (171, 27)], [171], []) G0 G0 := pj_kpt_r _ _
      have t61 : pj_kpt ([(171, 0), (171, 16), (171, 17), (171, 18), (171, 19), (171, 27)], [171], []) G0 G25 := by rw [hG25]; exact pj_kpt_v t60 rfl
      have t62 : pj_kpt ([(171, 0), (171, 16), (171, 17), (171, 18), (171, 19), (171, 27)], [171], []) G0 G32 := pj_kpt_t t61 (pj_kpt_s jG32 rfl)
      have t63 : pj_kpt ([(171, 0), (171, 16), (171, 17), (171, 18), (171, 19), (171, 27)], [171], []) G0 G40 := by rw [hG40]; exact pj_kpt_v t62 rfl
      exact pj_X_rt rfl rfl ⟨_, rfl, iG40, kG40, pj_i32 _, ⟨pj_RI_k p0_ t63 rfl, by omega⟩⟩
  | false =>
    have ub41 := pj_u0_eqF b41
    refine pj_X_of (fun r h => pj_R_ifF rfl b41 h) ?_
    refine pj_X_of (fun r h => pj_R_to (G40, 23, [(1, .int y31), (0, .ref 171)], [.int (Int32.ofInt 0), .ref 171], 0, 0) 23 3 (fun _ => rfl) h) ?_
    have q64 : (pj_fi G40 171 27).toInt = (Int32.ofInt 0).toInt := by rw [show pj_fi G40 171 27 = Int32.ofInt 0 from by rw [hG40]; exact pj_fi_wi iG32.1 (ci := 12) rfl _]
    have q65 : (pj_fi G40 171 17).toInt = y36.toInt := by rw [show pj_fi G40 171 17 = y36 from by rw [hG40, pj_fi_wv_ne _ _ _ _ _ _ (by decide)]; exact hy36.symm]
    have q66 : (pj_fi G40 171 18).toInt = y37.toInt := by rw [show pj_fi G40 171 18 = y37 from by rw [hG40, pj_fi_wv_ne _ _ _ _ _ _ (by decide)]; exact hy37.symm]
    have q67 : (pj_fi G40 171 26).toInt = y38.toInt := by rw [show pj_fi G40 171 26 = y38 from by rw [hG40, pj_fi_wv_ne _ _ _ _ _ _ (by decide)]; exact hy38.symm]
    have q68 : (pj_fi G40 171 16).toInt = y39.toInt := by rw [show pj_fi G40 171 16 = y39 from by rw [hG40, pj_fi_wv_ne _ _ _ _ _ _ (by decide)]; exact hy39.symm]
    refine pj_X_ca (vs := [.ref 171, .int (Int32.ofInt 0)]) rfl (fun _ => rfl) ⟨Nat.le_of_ble_eq_true rfl, Nat.le_of_ble_eq_true rfl, pj_T_rcv iG40 rfl⟩ ⟨rfl, rfl⟩ (pj_Y_up (by decide) (ct_199r G40 iG40 (Int32.ofInt 0) ⟨by omega, by omega⟩ (by omega) (by omega))) ?_
    rintro _ G70 ⟨y69, rfl, iG70, jG70, ry69, ey69⟩
    have kG70 : pj_kpt kc_200t G0 G70 := pj_kpt_t kG40 (pj_kpt_s jG70 rfl)
    have q71 : (pj_fi G70 171 18).toInt = (pj_fi G40 171 18).toInt := by rw [jG70.1 (171, 18) (by decide)]
    have q72 : (pj_fi G70 171 26).toInt = (pj_fi G40 171 26).toInt := by rw [jG70.1 (171, 26) (by decide)]
    have q73 : (pj_fi G70 171 16).toInt = (pj_fi G40 171 16).toInt := by rw [jG70.1 (171, 16) (by decide)]
    obtain ⟨y74, hy74⟩ : ∃ z : Int32, z = pj_fi G70 171 27 := ⟨_, rfl⟩
    have ey74 : (pj_fi G70 171 27).toInt = y74.toInt := by rw [hy74]
    have ry74 : (0 : Int) ≤ y74.toInt ∧ y74.toInt ≤ 80 := by rw [hy74]; exact iG70.2.1 171 27 (0, 80) rfl
    obtain ⟨y75, hy75⟩ : ∃ z : Int32, z = pj_fi G70 171 17 := ⟨_, rfl⟩
    have ey75 : (pj_fi G70 171 17).toInt = y75.toInt := by rw [hy75]
    have ry75 : (0 : Int) ≤ y75.toInt ∧ y75.toInt ≤ 80 := by rw [hy75]; exact iG70.2.1 171 17 (0, 80) rfl
    obtain ⟨y76, hy76⟩ : ∃ z : Int32, z = pj_fi G70 171 18 := ⟨_, rfl⟩
    have ey76 : (pj_fi G70 171 18).toInt = y76.toInt := by rw [hy76]
    have ry76 : (0 : Int) ≤ y76.toInt ∧ y76.toInt ≤ 80 := by rw [hy76]; exact iG70.2.1 171 18 (0, 80) rfl
    obtain ⟨y77, hy77⟩ : ∃ z : Int32, z = pj_fi G70 171 26 := ⟨_, rfl⟩
    have ey77 : (pj_fi G70 171 26).toInt = y77.toInt := by rw [hy77]
    have ry77 : (0 : Int) ≤ y77.toInt ∧ y77.toInt ≤ 80 := by rw [hy77]; exact iG70.2.1 171 26 (0, 80) rfl
    obtain ⟨y78, hy78⟩ : ∃ z : Int32, z = pj_fi G70 171 16 := ⟨_, rfl⟩
    have ey78 : (pj_fi G70 171 16).toInt = y78.toInt := by rw [hy78]
    have ry78 : (0 : Int) ≤ y78.toInt ∧ y78.toInt ≤ 80 := by rw [hy78]; exact iG70.2.1 171 16 (0, 80) rfl
    show pj_X _ _ G70 26 [(1, .int y31), (0, .ref 171)] [.int y69] _
    cases b79 : pj_c1 .eq y69 0 with
    | true =>
      have ub79 := pj_u0_eqT b79
      refine pj_X_of (fun r h => pj_R_ifT 33 rfl rfl b79 h) ?_
      refine pj_X_of (fun r h => pj_R_to (G70, 40, [(2, .int (Int32.ofInt 0)), (1, .int y31), (0, .ref 171)], [.int (Int32.ofInt 0), .int ((Int8.ofInt 40).toInt32), .int y31, .ref 171], 0, 0) 40 7 (fun _ => rfl) h) ?_
      have q80 : (pj_fi G70 171 27).toInt = y74.toInt := by rw [show pj_fi G70 171 27 = y74 from hy74.symm]
      have q81 : (pj_fi G70 171 17).toInt = y75.toInt := by rw [show pj_fi G70 171 17 = y75 from hy75.symm]
      have q82 : (pj_fi G70 171 18).toInt = y76.toInt := by rw [show pj_fi G70 171 18 = y76 from hy76.symm]
      have q83 : (pj_fi G70 171 26).toInt = y77.toInt := by rw [show pj_fi G70 171 26 = y77 from hy77.symm]
      have q84 : (pj_fi G70 171 16).toInt = y78.toInt := by rw [show pj_fi G70 171 16 = y78 from hy78.symm]
      refine pj_X_ca (vs := [.ref 171, .int y31, .int ((Int8.ofInt 40).toInt32), .int (Int32.ofInt 0)]) rfl (fun _ => rfl) ⟨Nat.le_of_ble_eq_true rfl, Nat.le_of_ble_eq_true rfl, pj_T_rcv iG70 rfl⟩ ⟨rfl, rfl⟩ (pj_Y_up (by decide) (ct_188 G70 iG70 y31 ((Int8.ofInt 40).toInt32) (Int32.ofInt 0) ⟨by omega, by omega⟩ ⟨by omega, by omega⟩ ⟨by omega, by omega⟩)) ?_
      rintro _ _ ⟨y85, rfl, rfl, ry85, ey85⟩
      show pj_X _ _ G70 43 [(2, .int (Int32.ofInt 0)), (1, .int y31), (0, .ref 171)] [.int y85] _
      refine pj_X_of (fun r h => pj_R_to (G70, 45, [(3, .int y85), (2, .int (Int32.ofInt 0)), (1, .int y31), (0, .ref 171)], [.int y85], 0, 0) 45 3 (fun _ => rfl) h) ?_
      cases b86 : pj_c1 .ge y85 0 with
      | true =>
        have ub86 := pj_u0_geT b86
        refine pj_X_of (fun r h => pj_R_ifT 50 rfl rfl b86 h) ?_
        refine pj_X_of (fun r h => pj_R_to (G70, 52, [(3, .int y85), (2, .int (Int32.ofInt 0)), (1, .int y31), (0, .ref 171)], [.ref 171, .ref 171], 0, 0) 52 3 (fun _ => rfl) h) ?_
        refine pj_X_of (fun r h => pj_T_gi iG70 rfl rfl h) ?_
        show pj_X _ _ G70 55 [(3, .int y85), (2, .int (Int32.ofInt 0)), (1, .int y31), (0, .ref 171)] [.int (pj_fi G70 171 27), .ref 171] _
        refine pj_X_eqi (show pj_fi G70 171 27 = y74 from hy74.symm) ?_
        refine pj_X_of (fun r h => pj_T_pf iG70 rfl rfl rfl h) ?_
        show pj_X _ _ (pj_wv G70 171 26 (.int y74)) 58 [(3, .int y85), (2, .int (Int32.ofInt 0)), (1, .int y31), (0, .ref 171)] [] _
        obtain ⟨G87, hG87⟩ : ∃ H, H = pj_wv G70 171 26 (.int y74) := ⟨_, rfl⟩
        have iG87 : pj_Inv G87 := by rw [hG87]; exact pj_Inv_wi iG70 (ci := 12) rfl (fun q hq => by cases hq; exact ⟨by show (0 : Int) ≤ _; omega, by show _ ≤ (80 : Int); omega⟩)
        have kG87 : pj_kpt kc_200t G0 G87 := by rw [hG87]; exact pj_kpt_v kG70 rfl
        rw [← hG87]
        refine pj_X_of (fun r h => pj_R_to (G87, 61, [(4, .int (Int32.ofInt 0)), (3, .int y85), (2, .int (Int32.ofInt 0)), (1, .int y31), (0, .ref 171)], [], 0, 0) 61 3 (fun _ => rfl) h) ?_
        have q88 : (pj_fi G87 171 27).toInt = y74.toInt := by rw [show pj_fi G87 171 27 = y74 from by rw [hG87, pj_fi_wv_ne _ _ _ _ _ _ (by decide)]; exact hy74.symm]
        have q89 : (pj_fi G87 171 17).toInt = y75.toInt := by rw [show pj_fi G87 171 17 = y75 from by rw [hG87, pj_fi_wv_ne _ _ _ _ _ _ (by decide)]; exact hy75.symm]
        have q90 : (pj_fi G87 171 18).toInt = y76.toInt := by rw [show pj_fi G87 171 18 = y76 from by rw [hG87, pj_fi_wv_ne _ _ _ _ _ _ (by decide)]; exact hy76.symm]
        have q91 : (pj_fi G87 171 26).toInt = y74.toInt := by rw [show pj_fi G87 171 26 = y74 from by rw [hG87]; exact pj_fi_wi iG70.1 (ci := 12) rfl _]
        have q92 : (pj_fi G87 171 16).toInt = y78.toInt := by rw [show pj_fi G87 171 16 = y78 from by rw [hG87, pj_fi_wv_ne _ _ _ _ _ _ (by decide)]; exact hy78.symm]
        have hv1 : pj_vr G70 (pj_fi G70 171 27).toInt := pj_vr_q (ey69.2.2 (by omega)) (by omega)
        exact pj_X_sub [(0, .ref 171), (1, .int y31), (2, .int (Int32.ofInt 0)), (3, .int y85), (4, .int (Int32.ofInt 0))] (show List.Nodup [0, 1, 2, 3, 4] by decide) ⟨rfl, rfl, rfl, rfl, rfl, trivial⟩ ((lp_ct_200t G0 hI   p0_ 81) G87 iG87 kG87 y31 (Int32.ofInt 0) y85 (Int32.ofInt 0) ⟨by omega, by omega⟩ ⟨by omega, by omega⟩ ⟨by omega, by omega⟩ ⟨by omega, by omega⟩ (fun j hj => absurd hj (by omega)) (by rw [show pj_fi G87 171 27 = pj_fi G70 171 27 from by rw [hG87, pj_fi_wv_ne _ _ _ _ _ _ (by decide)]]; exact pj_vr_k (fun j => by rw [hG87, pj_ai_wv]) hv1) (by omega) (by omega) (by omega))
      | false =>
        have ub86 := pj_u0_geF b86
        refine pj_X_of (fun r h => pj_R_ifF rfl b86 h) ?_
        refine pj_X_of (fun r h => pj_R_to (G70, 49, [(3, .int y85), (2, .int (Int32.ofInt 0)), (1, .int y31), (0, .ref 171)], [.int y85], 0, 0) 49 2 (fun _ => rfl) h) ?_
        have q93 : (pj_fi G70 171 27).toInt = y74.toInt := by rw [show pj_fi G70 171 27 = y74 from hy74.symm]
        have q94 : (pj_fi G70 171 17).toInt = y75.toInt := by rw [show pj_fi G70 171 17 = y75 from hy75.symm]
        have q95 : (pj_fi G70 171 18).toInt = y76.toInt := by rw [show pj_fi G70 171 18 = y76 from hy76.symm]
        have q96 : (pj_fi G70 171 26).toInt = y77.toInt := by rw [show pj_fi G70 171 26 = y77 from hy77.symm]
        have q97 : (pj_fi G70 171 16).toInt = y78.toInt := by rw [show pj_fi G70 171 16 = y78 from hy78.symm]
        have t98 : pj_kpt ([(171, 0), (171, 16), (171, 17), (171, 18), (171, 19), (171, 27)], [171, 183], [183]) G0 G0 := pj_kpt_r _ _
        have t99 : pj_kpt ([(171, 0), (171, 16), (171, 17), (171, 18), (171, 19), (171, 27)], [171, 183], [183]) G0 G25 := by rw [hG25]; exact pj_kpt_v t98 rfl
        have t100 : pj_kpt ([(171, 0), (171, 16), (171, 17), (171, 18), (171, 19), (171, 27)], [171, 183], [183]) G0 G32 := pj_kpt_t t99 (pj_kpt_s jG32 rfl)
        have t101 : pj_kpt ([(171, 0), (171, 16), (171, 17), (171, 18), (171, 19), (171, 27)], [171, 183], [183]) G0 G40 := by rw [hG40]; exact pj_kpt_v t100 rfl
        have t102 : pj_kpt ([(171, 0), (171, 16), (171, 17), (171, 18), (171, 19), (171, 27)], [171, 183], [183]) G0 G70 := pj_kpt_t t101 (pj_kpt_s jG70 rfl)
        exact pj_X_rt rfl rfl ⟨_, rfl, iG70, kG70, pj_i32 _, ⟨pj_RI_k p0_ t102 rfl, by omega⟩⟩
    | false =>
      have ub79 := pj_u0_eqF b79
      refine pj_X_of (fun r h => pj_R_ifF rfl b79 h) ?_
      refine pj_X_of (fun r h => pj_R_to (G70, 40, [(2, .int (Int32.ofInt 1)), (1, .int y31), (0, .ref 171)], [.int (Int32.ofInt 1), .int ((Int8.ofInt 40).toInt32), .int y31, .ref 171], 0, 0) 40 8 (fun _ => rfl) h) ?_
      have q103 : (pj_fi G70 171 27).toInt = y74.toInt := by rw [show pj_fi G70 171 27 = y74 from hy74.symm]
      have q104 : (pj_fi G70 171 17).toInt = y75.toInt := by rw [show pj_fi G70 171 17 = y75 from hy75.symm]
      have q105 : (pj_fi G70 171 18).toInt = y76.toInt := by rw [show pj_fi G70 171 18 = y76 from hy76.symm]
      have q106 : (pj_fi G70 171 26).toInt = y77.toInt := by rw [show pj_fi G70 171 26 = y77 from hy77.symm]
      have q107 : (pj_fi G70 171 16).toInt = y78.toInt := by rw [show pj_fi G70 171 16 = y78 from hy78.symm]
      refine pj_X_ca (vs := [.ref 171, .int y31, .int ((Int8.ofInt 40).toInt32), .int (Int32.ofInt 1)]) rfl (fun _ => rfl) ⟨Nat.le_of_ble_eq_true rfl, Nat.le_of_ble_eq_true rfl, pj_T_rcv iG70 rfl⟩ ⟨rfl, rfl⟩ (pj_Y_up (by decide) (ct_188 G70 iG70 y31 ((Int8.ofInt 40).toInt32) (Int32.ofInt 1) ⟨by omega, by omega⟩ ⟨by omega, by omega⟩ ⟨by omega, by omega⟩)) ?_
      rintro _ _ ⟨y108, rfl, rfl, ry108, ey108⟩
      show pj_X _ _ G70 43 [(2, .int (Int32.ofInt 1)), (1, .int y31), (0, .ref 171)] [.int y108] _
      refine pj_X_of (fun r h => pj_R_to (G70, 45, [(3, .int y108), (2, .int (Int32.ofInt 1)), (1, .int y31), (0, .ref 171)], [.int y108], 0, 0) 45 3 (fun _ => rfl) h) ?_
      cases b109 : pj_c1 .ge y108 0 with
      | true =>
        have ub109 := pj_u0_geT b109
        refine pj_X_of (fun r h => pj_R_ifT 50 rfl rfl b109 h) ?_
        refine pj_X_of (fun r h => pj_R_to (G70, 52, [(3, .int y108), (2, .int (Int32.ofInt 1)), (1, .int y31), (0, .ref 171)], [.ref 171, .ref 171], 0, 0) 52 3 (fun _ => rfl) h) ?_
        refine pj_X_of (fun r h => pj_T_gi iG70 rfl rfl h) ?_
        show pj_X _ _ G70 55 [(3, .int y108), (2, .int (Int32.ofInt 1)), (1, .int y31), (0, .ref 171)] [.int (pj_fi G70 171 27), .ref 171] _
        refine pj_X_eqi (show pj_fi G70 171 27 = y74 from hy74.symm) ?_
        refine pj_X_of (fun r h => pj_T_pf iG70 rfl rfl rfl h) ?_
        show pj_X _ _ (pj_wv G70 171 26 (.int y74)) 58 [(3, .int y108), (2, .int (Int32.ofInt 1)), (1, .int y31), (0, .ref 171)] [] _
        obtain ⟨G110, hG110⟩ : ∃ H, H = pj_wv G70 171 26 (.int y74) := ⟨_, rfl⟩
        have iG110 : pj_Inv G110 := by rw [hG110]; exact pj_Inv_wi iG70 (ci := 12) rfl (fun q hq => by cases hq; exact ⟨by show (0 : Int) ≤ _; omega, by show _ ≤ (80 : Int); omega⟩)
        have kG110 : pj_kpt kc_200t G0 G110 := by rw [hG110]; exact pj_kpt_v kG70 rfl
        rw [← hG110]
        refine pj_X_of (fun r h => pj_R_to (G110, 61, [(4, .int (Int32.ofInt 0)), (3, .int y108), (2, .int (Int32.ofInt 1)), (1, .int y31), (0, .ref 171)], [], 0, 0) 61 3 (fun _ => rfl) h) ?_
        have q111 : (pj_fi G110 171 27).toInt = y74.toInt := by rw [show pj_fi G110 171 27 = y74 from by rw [hG110, pj_fi_wv_ne _ _ _ _ _ _ (by decide)]; exact hy74.symm]
        have q112 : (pj_fi G110 171 17).toInt = y75.toInt := by rw [show pj_fi G110 171 17 = y75 from by rw [hG110, pj_fi_wv_ne _ _ _ _ _ _ (by decide)]; exact hy75.symm]
        have q113 : (pj_fi G110 171 18).toInt = y76.toInt := by rw [show pj_fi G110 171 18 = y76 from by rw [hG110, pj_fi_wv_ne _ _ _ _ _ _ (by decide)]; exact hy76.symm]
        have q114 : (pj_fi G110 171 26).toInt = y74.toInt := by rw [show pj_fi G110 171 26 = y74 from by rw [hG110]; exact pj_fi_wi iG70.1 (ci := 12) rfl _]
        have q115 : (pj_fi G110 171 16).toInt = y78.toInt := by rw [show pj_fi G110 171 16 = y78 from by rw [hG110, pj_fi_wv_ne _ _ _ _ _ _ (by decide)]; exact hy78.symm]
        have hv1 : pj_vr G70 (pj_fi G70 171 27).toInt := pj_vr_q (ey69.2.2 (by omega)) (by omega)
        exact pj_X_sub [(0, .ref 171), (1, .int y31), (2, .int (Int32.ofInt 1)), (3, .int y108), (4, .int (Int32.ofInt 0))] (show List.Nodup [0, 1, 2, 3, 4] by decide) ⟨rfl, rfl, rfl, rfl, rfl, trivial⟩ ((lp_ct_200t G0 hI   p0_ 81) G110 iG110 kG110 y31 (Int32.ofInt 1) y108 (Int32.ofInt 0) ⟨by omega, by omega⟩ ⟨by omega, by omega⟩ ⟨by omega, by omega⟩ ⟨by omega, by omega⟩ (fun j hj => absurd hj (by omega)) (by rw [show pj_fi G110 171 27 = pj_fi G70 171 27 from by rw [hG110, pj_fi_wv_ne _ _ _ _ _ _ (by decide)]]; exact pj_vr_k (fun j => by rw [hG110, pj_ai_wv]) hv1) (by omega) (by omega) (by omega))
      | false =>
        have ub109 := pj_u0_geF b109
        refine pj_X_of (fun r h => pj_R_ifF rfl b109 h) ?_
        refine pj_X_of (fun r h => pj_R_to (G70, 49, [(3, .int y108), (2, .int (Int32.ofInt 1)), (1, .int y31), (0, .ref 171)], [.int y108], 0, 0) 49 2 (fun _ => rfl) h) ?_
        have q116 : (pj_fi G70 171 27).toInt = y74.toInt := by rw [show pj_fi G70 171 27 = y74 from hy74.symm]
        have q117 : (pj_fi G70 171 17).toInt = y75.toInt := by rw [show pj_fi G70 171 17 = y75 from hy75.symm]
        have q118 : (pj_fi G70 171 18).toInt = y76.toInt := by rw [show pj_fi G70 171 18 = y76 from hy76.symm]
        have q119 : (pj_fi G70 171 26).toInt = y77.toInt := by rw [show pj_fi G70 171 26 = y77 from hy77.symm]
        have q120 : (pj_fi G70 171 16).toInt = y78.toInt := by rw [show pj_fi G70 171 16 = y78 from hy78.symm]
        have t121 : pj_kpt ([(171, 0), (171, 16), (171, 17), (171, 18), (171, 19), (171, 27)], [171, 183], [183]) G0 G0 := pj_kpt_r _ _
        have t122 : pj_kpt ([(171, 0), (171, 16), (171, 17), (171, 18), (171, 19), (171, 27)], [171, 183], [183]) G0 G25 := by rw [hG25]; exact pj_kpt_v t121 rfl
        have t123 : pj_kpt ([(171, 0), (171, 16), (171, 17), (171, 18), (171, 19), (171, 27)], [171, 183], [183]) G0 G32 := pj_kpt_t t122 (pj_kpt_s jG32 rfl)
        have t124 : pj_kpt ([(171, 0), (171, 16), (171, 17), (171, 18), (171, 19), (171, 27)], [171, 183], [183]) G0 G40 := by rw [hG40]; exact pj_kpt_v t123 rfl
        have t125 : pj_kpt ([(171, 0), (171, 16), (171, 17), (171, 18), (171, 19), (171, 27)], [171, 183], [183]) G0 G70 := pj_kpt_t t124 (pj_kpt_s jG70 rfl)
        exact pj_X_rt rfl rfl ⟨_, rfl, iG70, kG70, pj_i32 _, ⟨pj_RI_k p0_ t125 rfl, by omega⟩⟩
def kc_250t : pj_KT := ([(171, 0), (171, 1), (171, 16), (171, 17), (171, 18), (171, 19), (171, 23), (171, 44)], [171, 172, 192, 193], [192, 193])
theorem lp_ct_250t (G0 : pj_G) (hI0 : pj_Inv G0) : ∀ mn : Nat, (∀ (G : pj_G) (hI : pj_Inv G) (hK : pj_kpt kc_250t G0 G) (v1 : Int32) (v2 : Int32), ((0 : Int) ≤ v1.toInt ∧ v1.toInt ≤ 8) → ((0 : Int) ≤ v2.toInt ∧ v2.toInt ≤ 1) → ((pj_fi G 171 16).toInt = 0) → 8 - v1.toInt < (mn : Int) → pj_X 6 pj_m250 G 16 [(0, .ref 171), (1, .int v1), (2, .int v2)] [] (fun v G' => ∃ y : Int32, v = some (.int y) ∧ pj_Inv G' ∧ pj_kpt kc_250t G0 G' ∧ ((-2147483648 : Int) ≤ y.toInt ∧ y.toInt ≤ 2147483647) ∧ ((pj_fi G' 171 16).toInt = 0))) := by
  have c0_ : ((Int8.ofInt 44).toInt32).toInt = 44 := by decide
  have c1_ : ((Int8.ofInt 8).toInt32).toInt = 8 := by decide
  have c2_ : ((Int8.ofInt 80).toInt32).toInt = 80 := by decide
  have c3_ : (Int32.ofInt (-1)).toInt = -1 := by decide
  have c4_ : (Int32.ofInt 0).toInt = 0 := by decide
  have c5_ : (Int32.ofInt 1).toInt = 1 := by decide
  intro mn
  induction mn with
  | zero =>
    intro G hI hK v1 v2 rv1 rv2 x0_ hm
    exfalso
    omega
  | succ mn ih =>
    intro G hI hK v1 v2 rv1 rv2 x0_ hm
    obtain ⟨y1, hy1⟩ : ∃ z : Int32, z = pj_fi G 171 23 := ⟨_, rfl⟩
    have ey1 : (pj_fi G 171 23).toInt = y1.toInt := by rw [hy1]
    have ry1 : (-1 : Int) ≤ y1.toInt ∧ y1.toInt ≤ 7 := by rw [hy1]; exact hI.2.1 171 23 (-1, 7) rfl
    obtain ⟨y2, hy2⟩ : ∃ z : Int32, z = pj_fi G 171 16 := ⟨_, rfl⟩
    have ey2 : (pj_fi G 171 16).toInt = y2.toInt := by rw [hy2]
    have ry2 : (0 : Int) ≤ y2.toInt ∧ y2.toInt ≤ 80 := by rw [hy2]; exact hI.2.1 171 16 (0, 80) rfl
    refine pj_X_of (fun r h => pj_R_to (G, 17, [(0, .ref 171), (1, .int v1), (2, .int v2)], [.int v2], 0, 0) 17 2 (fun _ => rfl) h) ?_
    cases b3 : pj_c1 .eq v2 0 with
    | true =>
      have ub3 := pj_u0_eqT b3
      refine pj_X_of (fun r h => pj_R_ifT 80 rfl rfl b3 h) ?_
      refine pj_X_of (fun r h => pj_R_to (G, 81, [(0, .ref 171), (1, .int v1), (2, .int v2)], [.ref 171], 0, 0) 81 2 (fun _ => rfl) h) ?_
      refine pj_X_of (fun r h => pj_T_gi hI rfl rfl h) ?_
      show pj_X _ _ G 84 [(0, .ref 171), (1, .int v1), (2, .int v2)] [.int (pj_fi G 171 17)] _
      obtain ⟨y4, hy4⟩ : ∃ z : Int32, z = pj_fi G 171 17 := ⟨_, rfl⟩
      refine pj_X_eqi hy4.symm ?_
      have ey4 : (pj_fi G 171 17).toInt = y4.toInt := by rw [hy4]
      have ry4 : (0 : Int) ≤ y4.toInt ∧ y4.toInt ≤ 80 := by rw [hy4]; exact hI.2.1 171 17 (0, 80) rfl
      refine pj_X_of (fun r h => pj_R_to (G, 85, [(0, .ref 171), (1, .int v1), (2, .int v2)], [.ref 171, .int y4], 0, 0) 85 2 (fun _ => rfl) h) ?_
      refine pj_X_of (fun r h => pj_T_gi hI rfl rfl h) ?_
      show pj_X _ _ G 88 [(0, .ref 171), (1, .int v1), (2, .int v2)] [.int (pj_fi G 171 18), .int y4] _
      obtain ⟨y5, hy5⟩ : ∃ z : Int32, z = pj_fi G 171 18 := ⟨_, rfl⟩
      refine pj_X_eqi hy5.symm ?_
      have ey5 : (pj_fi G 171 18).toInt = y5.toInt := by rw [hy5]
      have ry5 : (0 : Int) ≤ y5.toInt ∧ y5.toInt ≤ 80 := by rw [hy5]; exact hI.2.1 171 18 (0, 80) rfl
      cases b6 : pj_c1 .ge y4 y5 with
      | true =>
        have ub6 := pj_u_geT b6
        refine pj_X_of (fun r h => pj_R_icT 98 rfl rfl b6 h) ?_
        refine pj_X_of (fun r h => pj_R_to (G, 100, [(0, .ref 171), (1, .int v1), (2, .int v2)], [.int v1, .ref 171], 0, 0) 100 3 (fun _ => rfl) h) ?_
        refine pj_X_of (fun r h => pj_T_pf hI rfl rfl rfl h) ?_
        show pj_X _ _ (pj_wv G 171 44 (.int v1)) 103 [(0, .ref 171), (1, .int v1), (2, .int v2)] [] _
        obtain ⟨G7, hG7⟩ : ∃ H, H = pj_wv G 171 44 (.int v1) := ⟨_, rfl⟩
        have iG7 : pj_Inv G7 := by rw [hG7]; exact pj_Inv_wi hI (ci := 12) rfl (fun q hq => by cases hq; exact ⟨by show (0 : Int) ≤ _; omega, by show _ ≤ (16 : Int); omega⟩)
        have kG7 : pj_kpt kc_250t G0 G7 := by rw [hG7]; exact pj_kpt_v hK rfl
        rw [← hG7]
        refine pj_X_of (fun r h => pj_R_to (G7, 104, [(0, .ref 171), (1, .int v1), (2, .int v2)], [.ref 171], 0, 0) 104 2 (fun _ => rfl) h) ?_
        have q8 : (pj_fi G7 171 23).toInt = y1.toInt := by rw [show pj_fi G7 171 23 = y1 from by rw [hG7, pj_fi_wv_ne _ _ _ _ _ _ (by decide)]; exact hy1.symm]
        have q9 : (pj_fi G7 171 16).toInt = y2.toInt := by rw [show pj_fi G7 171 16 = y2 from by rw [hG7, pj_fi_wv_ne _ _ _ _ _ _ (by decide)]; exact hy2.symm]
        refine pj_X_ca (vs := [.ref 171]) rfl (fun _ => rfl) ⟨Nat.le_of_ble_eq_true rfl, Nat.le_of_ble_eq_true rfl, pj_T_rcv iG7 rfl⟩ ⟨rfl, rfl⟩ (pj_Y_up (by decide) (ct_247 G7 iG7)) ?_
        rintro _ G11 ⟨y10, rfl, iG11, jG11, ry10⟩
        have kG11 : pj_kpt kc_250t G0 G11 := pj_kpt_t kG7 (pj_kpt_s jG11 rfl)
        have q12 : (pj_fi G11 171 23).toInt = (pj_fi G7 171 23).toInt := by rw [jG11.1 (171, 23) (by decide)]
        have q13 : (pj_fi G11 171 16).toInt = (pj_fi G7 171 16).toInt := by rw [jG11.1 (171, 16) (by decide)]
        obtain ⟨y14, hy14⟩ : ∃ z : Int32, z = pj_fi G11 171 23 := ⟨_, rfl⟩
        have ey14 : (pj_fi G11 171 23).toInt = y14.toInt := by rw [hy14]
        have ry14 : (-1 : Int) ≤ y14.toInt ∧ y14.toInt ≤ 7 := by rw [hy14]; exact iG11.2.1 171 23 (-1, 7) rfl
        obtain ⟨y15, hy15⟩ : ∃ z : Int32, z = pj_fi G11 171 16 := ⟨_, rfl⟩
        have ey15 : (pj_fi G11 171 16).toInt = y15.toInt := by rw [hy15]
        have ry15 : (0 : Int) ≤ y15.toInt ∧ y15.toInt ≤ 80 := by rw [hy15]; exact iG11.2.1 171 16 (0, 80) rfl
        show pj_X _ _ G11 107 [(0, .ref 171), (1, .int v1), (2, .int v2)] [.int y10] _
        have q16 : (pj_fi G11 171 23).toInt = y14.toInt := by rw [show pj_fi G11 171 23 = y14 from hy14.symm]
        have q17 : (pj_fi G11 171 16).toInt = y15.toInt := by rw [show pj_fi G11 171 16 = y15 from hy15.symm]
        exact pj_X_rt rfl rfl ⟨_, rfl, iG11, kG11, pj_i32 _, by omega⟩
      | false =>
        have ub6 := pj_u_geF b6
        refine pj_X_of (fun r h => pj_R_icF rfl b6 h) ?_
        refine pj_X_of (fun r h => pj_R_to (G, 93, [(0, .ref 171), (1, .int v1), (2, .int v2)], [.ref 171, .int (Int32.ofInt (-1))], 0, 0) 93 3 (fun _ => rfl) h) ?_
        refine pj_X_of (fun r h => pj_T_gi hI rfl rfl h) ?_
        show pj_X _ _ G 96 [(0, .ref 171), (1, .int v1), (2, .int v2)] [.int (pj_fi G 171 17), .int (Int32.ofInt (-1))] _
        refine pj_X_eqi (show pj_fi G 171 17 = y4 from hy4.symm) ?_
        refine pj_X_of (fun r h => pj_R_to (G, 97, [(0, .ref 171), (1, .int v1), (2, .int v2)], [.int ((Int32.ofInt (-1)) - y4)], 0, 0) 97 2 (fun _ => rfl) h) ?_
        obtain ⟨z18, hz18⟩ : ∃ z : Int32, z = (Int32.ofInt (-1)) - y4 := ⟨_, rfl⟩
        refine pj_X_eqi hz18.symm ?_
        have fz18_0 : z18.toInt = (Int32.ofInt (-1)).toInt - y4.toInt := by rw [hz18]; exact pj_subI (by have := pj_i32 (Int32.ofInt (-1)); have := pj_i32 y4; omega) (by have := pj_i32 (Int32.ofInt (-1)); have := pj_i32 y4; omega)
        have q19 : (pj_fi G 171 23).toInt = y1.toInt := by rw [show pj_fi G 171 23 = y1 from hy1.symm]
        have q20 : (pj_fi G 171 16).toInt = y2.toInt := by rw [show pj_fi G 171 16 = y2 from hy2.symm]
        exact pj_X_rt rfl rfl ⟨_, rfl, hI, hK, pj_i32 _, by omega⟩
    | false =>
      have ub3 := pj_u0_eqF b3
      refine pj_X_of (fun r h => pj_R_ifF rfl b3 h) ?_
      refine pj_X_of (fun r h => pj_R_to (G, 23, [(0, .ref 171), (1, .int v1), (2, .int v2)], [.int ((Int8.ofInt 8).toInt32), .int v1], 0, 0) 23 3 (fun _ => rfl) h) ?_
      cases b21 : pj_c1 .ge v1 ((Int8.ofInt 8).toInt32) with
      | true =>
        have ub21 := pj_u_geT b21
        refine pj_X_of (fun r h => pj_R_icT 37 rfl rfl b21 h) ?_
        refine pj_X_of (fun r h => pj_R_to (G, 40, [(3, .int (Int32.ofInt (-1))), (0, .ref 171), (1, .int v1), (2, .int v2)], [.int (Int32.ofInt (-1))], 0, 0) 40 4 (fun _ => rfl) h) ?_
        refine pj_X_of (fun r h => pj_R_ifF rfl (pj_b0_geF (by omega)) h) ?_
        refine pj_X_of (fun r h => pj_R_to (G, 45, [(3, .int (Int32.ofInt (-1))), (0, .ref 171), (1, .int v1), (2, .int v2)], [.ref 171, .int (Int32.ofInt (-1))], 0, 0) 45 3 (fun _ => rfl) h) ?_
        refine pj_X_of (fun r h => pj_T_gi hI rfl rfl h) ?_
        show pj_X _ _ G 48 [(3, .int (Int32.ofInt (-1))), (0, .ref 171), (1, .int v1), (2, .int v2)] [.int (pj_fi G 171 17), .int (Int32.ofInt (-1))] _
        obtain ⟨y22, hy22⟩ : ∃ z : Int32, z = pj_fi G 171 17 := ⟨_, rfl⟩
        refine pj_X_eqi hy22.symm ?_
        have ey22 : (pj_fi G 171 17).toInt = y22.toInt := by rw [hy22]
        have ry22 : (0 : Int) ≤ y22.toInt ∧ y22.toInt ≤ 80 := by rw [hy22]; exact hI.2.1 171 17 (0, 80) rfl
        refine pj_X_of (fun r h => pj_R_to (G, 49, [(3, .int (Int32.ofInt (-1))), (0, .ref 171), (1, .int v1), (2, .int v2)], [.int ((Int32.ofInt (-1)) - y22)], 0, 0) 49 2 (fun _ => rfl) h) ?_
        obtain ⟨z23, hz23⟩ : ∃ z : Int32, z = (Int32.ofInt (-1)) - y22 := ⟨_, rfl⟩
        refine pj_X_eqi hz23.symm ?_
        have fz23_0 : z23.toInt = (Int32.ofInt (-1)).toInt - y22.toInt := by rw [hz23]; exact pj_subI (by have := pj_i32 (Int32.ofInt (-1)); have := pj_i32 y22; omega) (by have := pj_i32 (Int32.ofInt (-1)); have := pj_i32 y22; omega)
        have q24 : (pj_fi G 171 23).toInt = y1.toInt := by rw [show pj_fi G 171 23 = y1 from hy1.symm]
        have q25 : (pj_fi G 171 16).toInt = y2.toInt := by rw [show pj_fi G 171 16 = y2 from hy2.symm]
        exact pj_X_rt rfl rfl ⟨_, rfl, hI, hK, pj_i32 _, by omega⟩
      | false =>
        have ub21 := pj_u_geF b21
        refine pj_X_of (fun r h => pj_R_icF rfl b21 h) ?_
        refine pj_X_of (fun r h => pj_R_to (G, 28, [(0, .ref 171), (1, .int v1), (2, .int v2)], [.ref 171, .ref 171], 0, 0) 28 3 (fun _ => rfl) h) ?_
        refine pj_X_of (fun r h => pj_T_gi hI rfl rfl h) ?_
        show pj_X _ _ G 31 [(0, .ref 171), (1, .int v1), (2, .int v2)] [.int (pj_fi G 171 3), .ref 171] _
        obtain ⟨y26, hy26⟩ : ∃ z : Int32, z = pj_fi G 171 3 := ⟨_, rfl⟩
        refine pj_X_eqi hy26.symm ?_
        have ey26 : (pj_fi G 171 3).toInt = y26.toInt := by rw [hy26]
        have ry26 : (0 : Int) ≤ y26.toInt ∧ y26.toInt ≤ 8 := by rw [hy26]; exact hI.2.1 171 3 (0, 8) rfl
        have q27 : (pj_fi G 171 23).toInt = y1.toInt := by rw [show pj_fi G 171 23 = y1 from hy1.symm]
        have q28 : (pj_fi G 171 16).toInt = y2.toInt := by rw [show pj_fi G 171 16 = y2 from hy2.symm]
        refine pj_X_ca (vs := [.ref 171, .int y26]) rfl (fun _ => rfl) ⟨Nat.le_of_ble_eq_true rfl, Nat.le_of_ble_eq_true rfl, pj_T_rcv hI rfl⟩ ⟨rfl, rfl⟩ (pj_Y_up (by decide) (ct_189 G hI y26 ⟨by omega, by omega⟩)) ?_
        rintro _ G30 ⟨y29, rfl, iG30, jG30, ry29, ey29⟩
        have kG30 : pj_kpt kc_250t G0 G30 := pj_kpt_t hK (pj_kpt_s jG30 rfl)
        have q31 : (pj_fi G30 171 16).toInt = (pj_fi G 171 16).toInt := by rw [jG30.1 (171, 16) (by decide)]
        obtain ⟨y32, hy32⟩ : ∃ z : Int32, z = pj_fi G30 171 23 := ⟨_, rfl⟩
        have ey32 : (pj_fi G30 171 23).toInt = y32.toInt := by rw [hy32]
        have ry32 : (-1 : Int) ≤ y32.toInt ∧ y32.toInt ≤ 7 := by rw [hy32]; exact iG30.2.1 171 23 (-1, 7) rfl
        obtain ⟨y33, hy33⟩ : ∃ z : Int32, z = pj_fi G30 171 16 := ⟨_, rfl⟩
        have ey33 : (pj_fi G30 171 16).toInt = y33.toInt := by rw [hy33]
        have ry33 : (0 : Int) ≤ y33.toInt ∧ y33.toInt ≤ 80 := by rw [hy33]; exact iG30.2.1 171 16 (0, 80) rfl
        show pj_X _ _ G30 34 [(0, .ref 171), (1, .int v1), (2, .int v2)] [.int y29] _
        refine pj_X_of (fun r h => pj_R_to (G30, 40, [(3, .int y29), (0, .ref 171), (1, .int v1), (2, .int v2)], [.int y29], 0, 0) 40 4 (fun _ => rfl) h) ?_
        cases b34 : pj_c1 .ge y29 0 with
        | true =>
          have ub34 := pj_u0_geT b34
          refine pj_X_of (fun r h => pj_R_ifT 50 rfl rfl b34 h) ?_
          refine pj_X_of (fun r h => pj_R_to (G30, 51, [(3, .int y29), (0, .ref 171), (1, .int v1), (2, .int v2)], [.ref 171], 0, 0) 51 2 (fun _ => rfl) h) ?_
          refine pj_X_of (fun r h => pj_T_gr iG30 rfl rfl rfl h) ?_
          refine pj_X_of (fun r h => pj_R_to (G30, 56, [(3, .int y29), (0, .ref 171), (1, .int v1), (2, .int v2)], [.ref 171, .int v1, .ref 192], 0, 0) 56 3 (fun _ => rfl) h) ?_
          refine pj_X_of (fun r h => pj_T_gi iG30 rfl rfl h) ?_
          show pj_X _ _ G30 59 [(3, .int y29), (0, .ref 171), (1, .int v1), (2, .int v2)] [.int (pj_fi G30 171 23), .int v1, .ref 192] _
          refine pj_X_eqi (show pj_fi G30 171 23 = y32 from hy32.symm) ?_
          refine pj_X_of (fun r h => pj_T_is iG30 rfl rfl (by omega) (by omega) h) ?_
          show pj_X _ _ (pj_wa G30 192 v1.toInt.toNat y32) 60 [(3, .int y29), (0, .ref 171), (1, .int v1), (2, .int v2)] [] _
          obtain ⟨G35, hG35⟩ : ∃ H, H = pj_wa G30 192 v1.toInt.toNat y32 := ⟨_, rfl⟩
          have iG35 : pj_Inv G35 := by rw [hG35]; exact pj_Inv_wa iG30 rfl (fun q hq => by cases hq) (fun n hn => by cases hn)
          have kG35 : pj_kpt kc_250t G0 G35 := by rw [hG35]; exact pj_kpt_a kG30 rfl
          rw [← hG35]
          refine pj_X_of (fun r h => pj_R_to (G35, 61, [(3, .int y29), (0, .ref 171), (1, .int v1), (2, .int v2)], [.ref 171], 0, 0) 61 2 (fun _ => rfl) h) ?_
          refine pj_X_of (fun r h => pj_T_gr iG35 rfl rfl rfl h) ?_
          refine pj_X_of (fun r h => pj_R_to (G35, 66, [(3, .int y29), (0, .ref 171), (1, .int v1), (2, .int v2)], [.int y29, .int v1, .ref 193], 0, 0) 66 3 (fun _ => rfl) h) ?_
          refine pj_X_of (fun r h => pj_T_is iG35 rfl rfl (by omega) (by omega) h) ?_
          show pj_X _ _ (pj_wa G35 193 v1.toInt.toNat y29) 67 [(3, .int y29), (0, .ref 171), (1, .int v1), (2, .int v2)] [] _
          obtain ⟨G36, hG36⟩ : ∃ H, H = pj_wa G35 193 v1.toInt.toNat y29 := ⟨_, rfl⟩
          have iG36 : pj_Inv G36 := by rw [hG36]; exact pj_Inv_wa iG35 rfl (fun q hq => by cases hq) (fun n hn => by cases hn)
          have kG36 : pj_kpt kc_250t G0 G36 := by rw [hG36]; exact pj_kpt_a kG35 rfl
          rw [← hG36]
          refine pj_X_of (fun r h => pj_R_to (G36, 70, [(1, .int (v1 + Int32.ofInt 1)), (3, .int y29), (0, .ref 171), (2, .int v2)], [], 0, 0) 70 2 (fun _ => rfl) h) ?_
          obtain ⟨z37, hz37⟩ : ∃ z : Int32, z = v1 + Int32.ofInt 1 := ⟨_, rfl⟩
          rw [← hz37]
          have fz37_0 : z37.toInt = v1.toInt + (Int32.ofInt 1).toInt := by rw [hz37]; exact pj_addI (by have := pj_i32 v1; have := pj_i32 (Int32.ofInt 1); omega) (by have := pj_i32 v1; have := pj_i32 (Int32.ofInt 1); omega)
          refine pj_X_of (fun r h => pj_R_to (G36, 73, [(1, .int z37), (3, .int y29), (0, .ref 171), (2, .int v2)], [.int ((Int8.ofInt 44).toInt32), .ref 171], 0, 0) 73 3 (fun _ => rfl) h) ?_
          have q38 : (pj_fi G36 171 23).toInt = y32.toInt := by rw [show pj_fi G36 171 23 = y32 from by rw [hG36, pj_fi_wa]; exact (by rw [hG35, pj_fi_wa]; exact hy32.symm)]
          have q39 : (pj_fi G36 171 16).toInt = y33.toInt := by rw [show pj_fi G36 171 16 = y33 from by rw [hG36, pj_fi_wa]; exact (by rw [hG35, pj_fi_wa]; exact hy33.symm)]
          refine pj_X_ca (vs := [.ref 171, .int ((Int8.ofInt 44).toInt32)]) rfl (fun _ => rfl) ⟨Nat.le_of_ble_eq_true rfl, Nat.le_of_ble_eq_true rfl, pj_T_rcv iG36 rfl⟩ ⟨rfl, rfl⟩ (pj_Y_up (by decide) (ct_182 G36 iG36 ((Int8.ofInt 44).toInt32) ⟨by omega, by omega⟩)) ?_
          rintro _ G41 ⟨y40, rfl, iG41, jG41, ry40, ey40⟩
          have kG41 : pj_kpt kc_250t G0 G41 := pj_kpt_t kG36 (pj_kpt_s jG41 rfl)
          have q42 : (pj_fi G41 171 23).toInt = (pj_fi G36 171 23).toInt := by rw [jG41.1 (171, 23) (by decide)]
          have q43 : (pj_fi G41 171 16).toInt = (pj_fi G36 171 16).toInt := by rw [jG41.1 (171, 16) (by decide)]
          obtain ⟨y44, hy44⟩ : ∃ z : Int32, z = pj_fi G41 171 23 := ⟨_, rfl⟩
          have ey44 : (pj_fi G41 171 23).toInt = y44.toInt := by rw [hy44]
          have ry44 : (-1 : Int) ≤ y44.toInt ∧ y44.toInt ≤ 7 := by rw [hy44]; exact iG41.2.1 171 23 (-1, 7) rfl
          obtain ⟨y45, hy45⟩ : ∃ z : Int32, z = pj_fi G41 171 16 := ⟨_, rfl⟩
          have ey45 : (pj_fi G41 171 16).toInt = y45.toInt := by rw [hy45]
          have ry45 : (0 : Int) ≤ y45.toInt ∧ y45.toInt ≤ 80 := by rw [hy45]; exact iG41.2.1 171 16 (0, 80) rfl
          show pj_X _ _ G41 76 [(1, .int z37), (3, .int y29), (0, .ref 171), (2, .int v2)] [.int y40] _
          refine pj_X_of (fun r h => pj_R_to (G41, 16, [(2, .int y40), (1, .int z37), (3, .int y29), (0, .ref 171)], [], 0, 0) 16 3 (fun _ => rfl) h) ?_
          have q46 : (pj_fi G41 171 23).toInt = y44.toInt := by rw [show pj_fi G41 171 23 = y44 from hy44.symm]
          have q47 : (pj_fi G41 171 16).toInt = y45.toInt := by rw [show pj_fi G41 171 16 = y45 from hy45.symm]
          exact pj_X_sub [(0, .ref 171), (1, .int z37), (2, .int y40)] (show List.Nodup [0, 1, 2] by decide) ⟨rfl, rfl, rfl, trivial⟩ (ih G41 iG41 kG41 z37 y40 ⟨by omega, by omega⟩ ⟨by omega, by omega⟩ (by omega) (by omega))
        | false =>
          have ub34 := pj_u0_geF b34
          refine pj_X_of (fun r h => pj_R_ifF rfl b34 h) ?_
          refine pj_X_of (fun r h => pj_R_to (G30, 45, [(3, .int y29), (0, .ref 171), (1, .int v1), (2, .int v2)], [.ref 171, .int (Int32.ofInt (-1))], 0, 0) 45 3 (fun _ => rfl) h) ?_
          refine pj_X_of (fun r h => pj_T_gi iG30 rfl rfl h) ?_
          show pj_X _ _ G30 48 [(3, .int y29), (0, .ref 171), (1, .int v1), (2, .int v2)] [.int (pj_fi G30 171 17), .int (Int32.ofInt (-1))] _
          obtain ⟨y48, hy48⟩ : ∃ z : Int32, z = pj_fi G30 171 17 := ⟨_, rfl⟩
          refine pj_X_eqi hy48.symm ?_
          have ey48 : (pj_fi G30 171 17).toInt = y48.toInt := by rw [hy48]
          have ry48 : (0 : Int) ≤ y48.toInt ∧ y48.toInt ≤ 80 := by rw [hy48]; exact iG30.2.1 171 17 (0, 80) rfl
          refine pj_X_of (fun r h => pj_R_to (G30, 49, [(3, .int y29), (0, .ref 171), (1, .int v1), (2, .int v2)], [.int ((Int32.ofInt (-1)) - y48)], 0, 0) 49 2 (fun _ => rfl) h) ?_
          obtain ⟨z49, hz49⟩ : ∃ z : Int32, z = (Int32.ofInt (-1)) - y48 := ⟨_, rfl⟩
          refine pj_X_eqi hz49.symm ?_
          have fz49_0 : z49.toInt = (Int32.ofInt (-1)).toInt - y48.toInt := by rw [hz49]; exact pj_subI (by have := pj_i32 (Int32.ofInt (-1)); have := pj_i32 y48; omega) (by have := pj_i32 (Int32.ofInt (-1)); have := pj_i32 y48; omega)
          have q50 : (pj_fi G30 171 23).toInt = y32.toInt := by rw [show pj_fi G30 171 23 = y32 from hy32.symm]
          have q51 : (pj_fi G30 171 16).toInt = y33.toInt := by rw [show pj_fi G30 171 16 = y33 from hy33.symm]
          exact pj_X_rt rfl rfl ⟨_, rfl, iG30, kG30, pj_i32 _, by omega⟩
theorem ct_250t (G0 : pj_G) (hI : pj_Inv G0) : pj_Y 7 250 [.ref 171] G0 (fun v G' => ∃ y : Int32, v = some (.int y) ∧ pj_Inv G' ∧ pj_kpt kc_250t G0 G' ∧ ((-2147483648 : Int) ≤ y.toInt ∧ y.toInt ≤ 2147483647) ∧ ((pj_fi G' 171 16).toInt = 0)) := by
  have c0_ : ((Int8.ofInt 44).toInt32).toInt = 44 := by decide
  have c1_ : ((Int8.ofInt 8).toInt32).toInt = 8 := by decide
  have c2_ : ((Int8.ofInt 80).toInt32).toInt = 80 := by decide
  have c3_ : (Int32.ofInt (-1)).toInt = -1 := by decide
  have c4_ : (Int32.ofInt 0).toInt = 0 := by decide
  have c5_ : (Int32.ofInt 1).toInt = 1 := by decide
  refine pj_Y_X (M := pj_m250) rfl rfl (Nat.le_of_ble_eq_true rfl) ?_
  have hK : pj_kpt kc_250t G0 G0 := pj_kpt_r _ _
  show pj_X _ _ G0 0 [(0, .ref 171)] [] _
  obtain ⟨y52, hy52⟩ : ∃ z : Int32, z = pj_fi G0 171 23 := ⟨_, rfl⟩
  have ey52 : (pj_fi G0 171 23).toInt = y52.toInt := by rw [hy52]
  have ry52 : (-1 : Int) ≤ y52.toInt ∧ y52.toInt ≤ 7 := by rw [hy52]; exact hI.2.1 171 23 (-1, 7) rfl
  obtain ⟨y53, hy53⟩ : ∃ z : Int32, z = pj_fi G0 171 16 := ⟨_, rfl⟩
  have ey53 : (pj_fi G0 171 16).toInt = y53.toInt := by rw [hy53]
  have ry53 : (0 : Int) ≤ y53.toInt ∧ y53.toInt ≤ 80 := by rw [hy53]; exact hI.2.1 171 16 (0, 80) rfl
  refine pj_X_of (fun r h => pj_R_to (G0, 2, [(0, .ref 171)], [.int (Int32.ofInt 0), .ref 171], 0, 0) 2 3 (fun _ => rfl) h) ?_
  refine pj_X_of (fun r h => pj_T_pf hI rfl rfl rfl h) ?_
  show pj_X _ _ (pj_wv G0 171 0 (.int (Int32.ofInt 0))) 5 [(0, .ref 171)] [] _
  obtain ⟨G54, hG54⟩ : ∃ H, H = pj_wv G0 171 0 (.int (Int32.ofInt 0)) := ⟨_, rfl⟩
  have iG54 : pj_Inv G54 := by rw [hG54]; exact pj_Inv_wi hI (ci := 12) rfl (fun q hq => by cases hq)
  have kG54 : pj_kpt kc_250t G0 G54 := by rw [hG54]; exact pj_kpt_v hK rfl
  rw [← hG54]
  refine pj_X_of (fun r h => pj_R_to (G54, 8, [(0, .ref 171)], [.int ((Int8.ofInt 80).toInt32), .ref 171], 0, 0) 8 3 (fun _ => rfl) h) ?_
  have q55 : (pj_fi G54 171 23).toInt = y52.toInt := by rw [show pj_fi G54 171 23 = y52 from by rw [hG54, pj_fi_wv_ne _ _ _ _ _ _ (by decide)]; exact hy52.symm]
  have q56 : (pj_fi G54 171 16).toInt = y53.toInt := by rw [show pj_fi G54 171 16 = y53 from by rw [hG54, pj_fi_wv_ne _ _ _ _ _ _ (by decide)]; exact hy53.symm]
  refine pj_X_ca (vs := [.ref 171, .int ((Int8.ofInt 80).toInt32)]) rfl (fun _ => rfl) ⟨Nat.le_of_ble_eq_true rfl, Nat.le_of_ble_eq_true rfl, pj_T_rcv iG54 rfl⟩ ⟨rfl, rfl⟩ (pj_Y_up (by decide) (ct_181et G54 iG54 ((Int8.ofInt 80).toInt32) ⟨by omega, by omega⟩)) ?_
  rintro _ G58 ⟨y57, rfl, iG58, jG58, ry57, ey57⟩
  have kG58 : pj_kpt kc_250t G0 G58 := pj_kpt_t kG54 (pj_kpt_s jG58 rfl)
  have q59 : (pj_fi G58 171 23).toInt = (pj_fi G54 171 23).toInt := by rw [jG58.1 (171, 23) (by decide)]
  obtain ⟨y60, hy60⟩ : ∃ z : Int32, z = pj_fi G58 171 23 := ⟨_, rfl⟩
  have ey60 : (pj_fi G58 171 23).toInt = y60.toInt := by rw [hy60]
  have ry60 : (-1 : Int) ≤ y60.toInt ∧ y60.toInt ≤ 7 := by rw [hy60]; exact iG58.2.1 171 23 (-1, 7) rfl
  obtain ⟨y61, hy61⟩ : ∃ z : Int32, z = pj_fi G58 171 16 := ⟨_, rfl⟩
  have ey61 : (pj_fi G58 171 16).toInt = y61.toInt := by rw [hy61]
  have ry61 : (0 : Int) ≤ y61.toInt ∧ y61.toInt ≤ 80 := by rw [hy61]; exact iG58.2.1 171 16 (0, 80) rfl
  show pj_X _ _ G58 11 [(0, .ref 171)] [.int y57] _
  refine pj_X_of (fun r h => pj_R_to (G58, 16, [(2, .int (Int32.ofInt 1)), (1, .int (Int32.ofInt 0)), (0, .ref 171)], [], 0, 0) 16 6 (fun _ => rfl) h) ?_
  have q62 : (pj_fi G58 171 23).toInt = y60.toInt := by rw [show pj_fi G58 171 23 = y60 from hy60.symm]
  have q63 : (pj_fi G58 171 16).toInt = y61.toInt := by rw [show pj_fi G58 171 16 = y61 from hy61.symm]
  exact pj_X_sub [(0, .ref 171), (1, .int (Int32.ofInt 0)), (2, .int (Int32.ofInt 1))] (show List.Nodup [0, 1, 2] by decide) ⟨rfl, rfl, rfl, trivial⟩ ((lp_ct_250t G0 hI   9) G58 iG58 kG58 (Int32.ofInt 0) (Int32.ofInt 1) ⟨by omega, by omega⟩ ⟨by omega, by omega⟩ (by omega) (by omega))
def kc_231t : pj_KT := ([(171, 0), (171, 1), (171, 16), (171, 17), (171, 18), (171, 19), (171, 30), (171, 32), (171, 33), (171, 34), (171, 35), (171, 39)], [171, 172, 179, 184, 185, 186, 187, 188, 189], [179, 184, 185, 186, 187, 188, 189])
theorem lp_ct_231t (G0 : pj_G) (hI0 : pj_Inv G0) (p0_ : pj_RI G0) (p1_ : (pj_fi G0 171 30).toInt ≤ 15) : ∀ mn : Nat, (∀ (G : pj_G) (hI : pj_Inv G) (hK : pj_kpt kc_231t G0 G) (v1 : Int32) (v2 : Int32) (v3 : Int32), ((0 : Int) ≤ v1.toInt ∧ v1.toInt ≤ 80) → ((0 : Int) ≤ v2.toInt ∧ v2.toInt ≤ 1) → ((0 : Int) ≤ v3.toInt ∧ v3.toInt ≤ 1) → ((pj_fi G 171 30).toInt ≤ 15) → ((pj_fi G 171 18).toInt ≤ 60) → ((pj_fi G 171 39).toInt ≤ 60) → (1 ≤ v3.toInt → 2 * (pj_fi G 171 39).toInt ≤ (pj_fi G 171 17).toInt ∧ (pj_fi G 171 17).toInt ≤ 60) → ((pj_fi G 171 16).toInt = 0) → 261 - (pj_fi G 171 39).toInt < (mn : Int) → pj_X 18 pj_m231 G 29 [(0, .ref 171), (1, .int v1), (2, .int v2), (3, .int v3)] [] (fun v G' => ∃ y : Int32, v = some (.int y) ∧ pj_Inv G' ∧ pj_kpt kc_231t G0 G' ∧ ((-2147483648 : Int) ≤ y.toInt ∧ y.toInt ≤ 2147483647) ∧ (((pj_fi G' 171 30).toInt ≤ 15) ∧ (pj_fi G' 171 16).toInt = 0))) ∧ (∀ (G : pj_G) (hI : pj_Inv G) (hK : pj_kpt kc_231t G0 G) (v1 : Int32) (v2 : Int32) (v3 : Int32) (v4 : Int32) (v5 : Int32), ((-2147483648 : Int) ≤ v1.toInt ∧ v1.toInt ≤ 2147483647) → ((-2147483648 : Int) ≤ v2.toInt ∧ v2.toInt ≤ 2147483647) → ((-2147483648 : Int) ≤ v3.toInt ∧ v3.toInt ≤ 2147483647) → ((-2147483648 : Int) ≤ v4.toInt ∧ v4.toInt ≤ 2147483647) → ((0 : Int) ≤ v5.toInt ∧ v5.toInt ≤ 60) → ((pj_fi G 171 30).toInt ≤ 15) → ((pj_fi G 171 16).toInt = 0) → 60 - v5.toInt < (mn : Int) → pj_X 18 pj_m231 G 89 [(0, .ref 171), (1, .int v1), (2, .int v2), (3, .int v3), (4, .int v4), (5, .int v5)] [] (fun v G' => ∃ y : Int32, v = some (.int y) ∧ pj_Inv G' ∧ pj_kpt kc_231t G0 G' ∧ ((-2147483648 : Int) ≤ y.toInt ∧ y.toInt ≤ 2147483647) ∧ (((pj_fi G' 171 30).toInt ≤ 15) ∧ (pj_fi G' 171 16).toInt = 0))) := by
  have c0_ : ((Int8.ofInt 59).toInt32).toInt = 59 := by decide
  have c1_ : ((Int8.ofInt 60).toInt32).toInt = 60 := by decide
  have c2_ : (Int32.ofInt 0).toInt = 0 := by decide
  have c3_ : (Int32.ofInt 1).toInt = 1 := by decide
  intro mn
  induction mn with
  | zero =>
    refine ⟨?_, ?_⟩
    · intro G hI hK v1 v2 v3 rv1 rv2 rv3 x0_ x1_ x2_ x3_ x4_ hm
      exfalso
      omega
    · intro G hI hK v1 v2 v3 v4 v5 rv1 rv2 rv3 rv4 rv5 x0_ x1_ hm
      exfalso
      omega
  | succ mn ih =>
    refine ⟨?_, ?_⟩
    · intro G hI hK v1 v2 v3 rv1 rv2 rv3 x0_ x1_ x2_ x3_ x4_ hm
      obtain ⟨y1, hy1⟩ : ∃ z : Int32, z = pj_fi G 171 30 := ⟨_, rfl⟩
      have ey1 : (pj_fi G 171 30).toInt = y1.toInt := by rw [hy1]
      have ry1 : (0 : Int) ≤ y1.toInt ∧ y1.toInt ≤ 16 := by rw [hy1]; exact hI.2.1 171 30 (0, 16) rfl
      obtain ⟨y2, hy2⟩ : ∃ z : Int32, z = pj_fi G 171 1 := ⟨_, rfl⟩
      have ey2 : (pj_fi G 171 1).toInt = y2.toInt := by rw [hy2]
      have ry2 : (0 : Int) ≤ y2.toInt ∧ y2.toInt ≤ 24 := by rw [hy2]; exact hI.2.1 171 1 (0, 24) rfl
      obtain ⟨y3, hy3⟩ : ∃ z : Int32, z = pj_fi G 171 39 := ⟨_, rfl⟩
      have ey3 : (pj_fi G 171 39).toInt = y3.toInt := by rw [hy3]
      have ry3 : (0 : Int) ≤ y3.toInt ∧ y3.toInt ≤ 60 := by rw [hy3]; exact hI.2.1 171 39 (0, 60) rfl
      obtain ⟨y4, hy4⟩ : ∃ z : Int32, z = pj_fi G 171 17 := ⟨_, rfl⟩
      have ey4 : (pj_fi G 171 17).toInt = y4.toInt := by rw [hy4]
      have ry4 : (0 : Int) ≤ y4.toInt ∧ y4.toInt ≤ 80 := by rw [hy4]; exact hI.2.1 171 17 (0, 80) rfl
      obtain ⟨y5, hy5⟩ : ∃ z : Int32, z = pj_fi G 171 18 := ⟨_, rfl⟩
      have ey5 : (pj_fi G 171 18).toInt = y5.toInt := by rw [hy5]
      have ry5 : (0 : Int) ≤ y5.toInt ∧ y5.toInt ≤ 80 := by rw [hy5]; exact hI.2.1 171 18 (0, 80) rfl
      obtain ⟨y6, hy6⟩ : ∃ z : Int32, z = pj_fi G 171 16 := ⟨_, rfl⟩
      have ey6 : (pj_fi G 171 16).toInt = y6.toInt := by rw [hy6]
      have ry6 : (0 : Int) ≤ y6.toInt ∧ y6.toInt ≤ 80 := by rw [hy6]; exact hI.2.1 171 16 (0, 80) rfl
      refine pj_X_of (fun r h => pj_R_to (G, 30, [(0, .ref 171), (1, .int v1), (2, .int v2), (3, .int v3)], [.int v3], 0, 0) 30 2 (fun _ => rfl) h) ?_
      cases b7 : pj_c1 .eq v3 0 with
      | true =>
        have ub7 := pj_u0_eqT b7
        refine pj_X_of (fun r h => pj_R_ifT 60 rfl rfl b7 h) ?_
        refine pj_X_of (fun r h => pj_R_to (G, 65, [(0, .ref 171), (1, .int v1), (2, .int v2), (3, .int v3)], [.int v2, .int ((Int8.ofInt 60).toInt32), .int v1, .ref 171], 0, 0) 65 5 (fun _ => rfl) h) ?_
        have q8 : (pj_fi G 171 30).toInt = y1.toInt := by rw [show pj_fi G 171 30 = y1 from hy1.symm]
        have q9 : (pj_fi G 171 1).toInt = y2.toInt := by rw [show pj_fi G 171 1 = y2 from hy2.symm]
        have q10 : (pj_fi G 171 39).toInt = y3.toInt := by rw [show pj_fi G 171 39 = y3 from hy3.symm]
        have q11 : (pj_fi G 171 17).toInt = y4.toInt := by rw [show pj_fi G 171 17 = y4 from hy4.symm]
        have q12 : (pj_fi G 171 18).toInt = y5.toInt := by rw [show pj_fi G 171 18 = y5 from hy5.symm]
        have q13 : (pj_fi G 171 16).toInt = y6.toInt := by rw [show pj_fi G 171 16 = y6 from hy6.symm]
        refine pj_X_ca (vs := [.ref 171, .int v1, .int ((Int8.ofInt 60).toInt32), .int v2]) rfl (fun _ => rfl) ⟨Nat.le_of_ble_eq_true rfl, Nat.le_of_ble_eq_true rfl, pj_T_rcv hI rfl⟩ ⟨rfl, rfl⟩ (pj_Y_up (by decide) (ct_188 G hI v1 ((Int8.ofInt 60).toInt32) v2 ⟨by omega, by omega⟩ ⟨by omega, by omega⟩ ⟨by omega, by omega⟩)) ?_
        rintro _ _ ⟨y14, rfl, rfl, ry14, ey14⟩
        show pj_X _ _ G 68 [(0, .ref 171), (1, .int v1), (2, .int v2), (3, .int v3)] [.int y14] _
        refine pj_X_of (fun r h => pj_R_to (G, 72, [(4, .int y14), (0, .ref 171), (1, .int v1), (2, .int v2), (3, .int v3)], [.int y14], 0, 0) 72 3 (fun _ => rfl) h) ?_
        cases b15 : pj_c1 .ge y14 0 with
        | true =>
          have ub15 := pj_u0_geT b15
          refine pj_X_of (fun r h => pj_R_ifT 78 rfl rfl b15 h) ?_
          refine pj_X_of (fun r h => pj_R_to (G, 79, [(4, .int y14), (0, .ref 171), (1, .int v1), (2, .int v2), (3, .int v3)], [.ref 171], 0, 0) 79 2 (fun _ => rfl) h) ?_
          have q16 : (pj_fi G 171 30).toInt = y1.toInt := by rw [show pj_fi G 171 30 = y1 from hy1.symm]
          have q17 : (pj_fi G 171 1).toInt = y2.toInt := by rw [show pj_fi G 171 1 = y2 from hy2.symm]
          have q18 : (pj_fi G 171 39).toInt = y3.toInt := by rw [show pj_fi G 171 39 = y3 from hy3.symm]
          have q19 : (pj_fi G 171 17).toInt = y4.toInt := by rw [show pj_fi G 171 17 = y4 from hy4.symm]
          have q20 : (pj_fi G 171 18).toInt = y5.toInt := by rw [show pj_fi G 171 18 = y5 from hy5.symm]
          have q21 : (pj_fi G 171 16).toInt = y6.toInt := by rw [show pj_fi G 171 16 = y6 from hy6.symm]
          refine pj_X_ca (vs := [.ref 171]) rfl (fun _ => rfl) ⟨Nat.le_of_ble_eq_true rfl, Nat.le_of_ble_eq_true rfl, pj_T_rcv hI rfl⟩ ⟨rfl, rfl⟩ (pj_Y_up (by decide) (ct_214x G hI (by omega))) ?_
          rintro _ G23 ⟨rfl, iG23, jG23, fy22⟩
          have kG23 : pj_kpt kc_231t G0 G23 := pj_kpt_t hK (pj_kpt_s jG23 rfl)
          have q24 : (pj_fi G23 171 30).toInt = (pj_fi G 171 30).toInt := by rw [jG23.1 (171, 30) (by decide)]
          have q25 : (pj_fi G23 171 1).toInt = (pj_fi G 171 1).toInt := by rw [jG23.1 (171, 1) (by decide)]
          have q26 : (pj_fi G23 171 39).toInt = (pj_fi G 171 39).toInt := by rw [jG23.1 (171, 39) (by decide)]
          have q27 : (pj_fi G23 171 17).toInt = (pj_fi G 171 17).toInt := by rw [jG23.1 (171, 17) (by decide)]
          have q28 : (pj_fi G23 171 18).toInt = (pj_fi G 171 18).toInt := by rw [jG23.1 (171, 18) (by decide)]
          have q29 : (pj_fi G23 171 16).toInt = (pj_fi G 171 16).toInt := by rw [jG23.1 (171, 16) (by decide)]
          obtain ⟨y30, hy30⟩ : ∃ z : Int32, z = pj_fi G23 171 30 := ⟨_, rfl⟩
          have ey30 : (pj_fi G23 171 30).toInt = y30.toInt := by rw [hy30]
          have ry30 : (0 : Int) ≤ y30.toInt ∧ y30.toInt ≤ 16 := by rw [hy30]; exact iG23.2.1 171 30 (0, 16) rfl
          obtain ⟨y31, hy31⟩ : ∃ z : Int32, z = pj_fi G23 171 1 := ⟨_, rfl⟩
          have ey31 : (pj_fi G23 171 1).toInt = y31.toInt := by rw [hy31]
          have ry31 : (0 : Int) ≤ y31.toInt ∧ y31.toInt ≤ 24 := by rw [hy31]; exact iG23.2.1 171 1 (0, 24) rfl
          obtain ⟨y32, hy32⟩ : ∃ z : Int32, z = pj_fi G23 171 39 := ⟨_, rfl⟩
          have ey32 : (pj_fi G23 171 39).toInt = y32.toInt := by rw [hy32]
          have ry32 : (0 : Int) ≤ y32.toInt ∧ y32.toInt ≤ 60 := by rw [hy32]; exact iG23.2.1 171 39 (0, 60) rfl
          obtain ⟨y33, hy33⟩ : ∃ z : Int32, z = pj_fi G23 171 17 := ⟨_, rfl⟩
          have ey33 : (pj_fi G23 171 17).toInt = y33.toInt := by rw [hy33]
          have ry33 : (0 : Int) ≤ y33.toInt ∧ y33.toInt ≤ 80 := by rw [hy33]; exact iG23.2.1 171 17 (0, 80) rfl
          obtain ⟨y34, hy34⟩ : ∃ z : Int32, z = pj_fi G23 171 18 := ⟨_, rfl⟩
          have ey34 : (pj_fi G23 171 18).toInt = y34.toInt := by rw [hy34]
          have ry34 : (0 : Int) ≤ y34.toInt ∧ y34.toInt ≤ 80 := by rw [hy34]; exact iG23.2.1 171 18 (0, 80) rfl
          obtain ⟨y35, hy35⟩ : ∃ z : Int32, z = pj_fi G23 171 16 := ⟨_, rfl⟩
          have ey35 : (pj_fi G23 171 16).toInt = y35.toInt := by rw [hy35]
          have ry35 : (0 : Int) ≤ y35.toInt ∧ y35.toInt ≤ 80 := by rw [hy35]; exact iG23.2.1 171 16 (0, 80) rfl
          show pj_X _ _ G23 82 [(4, .int y14), (0, .ref 171), (1, .int v1), (2, .int v2), (3, .int v3)] [] _
          refine pj_X_of (fun r h => pj_R_to (G23, 83, [(4, .int y14), (0, .ref 171), (1, .int v1), (2, .int v2), (3, .int v3)], [.ref 171], 0, 0) 83 2 (fun _ => rfl) h) ?_
          have q36 : (pj_fi G23 171 30).toInt = y30.toInt := by rw [show pj_fi G23 171 30 = y30 from hy30.symm]
          have q37 : (pj_fi G23 171 1).toInt = y31.toInt := by rw [show pj_fi G23 171 1 = y31 from hy31.symm]
          have q38 : (pj_fi G23 171 39).toInt = y32.toInt := by rw [show pj_fi G23 171 39 = y32 from hy32.symm]
          have q39 : (pj_fi G23 171 17).toInt = y33.toInt := by rw [show pj_fi G23 171 17 = y33 from hy33.symm]
          have q40 : (pj_fi G23 171 18).toInt = y34.toInt := by rw [show pj_fi G23 171 18 = y34 from hy34.symm]
          have q41 : (pj_fi G23 171 16).toInt = y35.toInt := by rw [show pj_fi G23 171 16 = y35 from hy35.symm]
          refine pj_X_ca (vs := [.ref 171]) rfl (fun _ => rfl) ⟨Nat.le_of_ble_eq_true rfl, Nat.le_of_ble_eq_true rfl, pj_T_rcv iG23 rfl⟩ ⟨rfl, rfl⟩ (pj_Y_up (by decide) (ct_223x G23 iG23)) ?_
          rintro _ G43 ⟨rfl, iG43, jG43, fy42⟩
          have kG43 : pj_kpt kc_231t G0 G43 := pj_kpt_t kG23 (pj_kpt_s jG43 rfl)
          have q44 : (pj_fi G43 171 30).toInt = (pj_fi G23 171 30).toInt := by rw [jG43.1 (171, 30) (by decide)]
          have q45 : (pj_fi G43 171 1).toInt = (pj_fi G23 171 1).toInt := by rw [jG43.1 (171, 1) (by decide)]
          have q46 : (pj_fi G43 171 39).toInt = (pj_fi G23 171 39).toInt := by rw [jG43.1 (171, 39) (by decide)]
          have q47 : (pj_fi G43 171 17).toInt = (pj_fi G23 171 17).toInt := by rw [jG43.1 (171, 17) (by decide)]
          have q48 : (pj_fi G43 171 18).toInt = (pj_fi G23 171 18).toInt := by rw [jG43.1 (171, 18) (by decide)]
          have q49 : (pj_fi G43 171 16).toInt = (pj_fi G23 171 16).toInt := by rw [jG43.1 (171, 16) (by decide)]
          obtain ⟨y50, hy50⟩ : ∃ z : Int32, z = pj_fi G43 171 30 := ⟨_, rfl⟩
          have ey50 : (pj_fi G43 171 30).toInt = y50.toInt := by rw [hy50]
          have ry50 : (0 : Int) ≤ y50.toInt ∧ y50.toInt ≤ 16 := by rw [hy50]; exact iG43.2.1 171 30 (0, 16) rfl
          obtain ⟨y51, hy51⟩ : ∃ z : Int32, z = pj_fi G43 171 1 := ⟨_, rfl⟩
          have ey51 : (pj_fi G43 171 1).toInt = y51.toInt := by rw [hy51]
          have ry51 : (0 : Int) ≤ y51.toInt ∧ y51.toInt ≤ 24 := by rw [hy51]; exact iG43.2.1 171 1 (0, 24) rfl
          obtain ⟨y52, hy52⟩ : ∃ z : Int32, z = pj_fi G43 171 39 := ⟨_, rfl⟩
          have ey52 : (pj_fi G43 171 39).toInt = y52.toInt := by rw [hy52]
          have ry52 : (0 : Int) ≤ y52.toInt ∧ y52.toInt ≤ 60 := by rw [hy52]; exact iG43.2.1 171 39 (0, 60) rfl
          obtain ⟨y53, hy53⟩ : ∃ z : Int32, z = pj_fi G43 171 17 := ⟨_, rfl⟩
          have ey53 : (pj_fi G43 171 17).toInt = y53.toInt := by rw [hy53]
          have ry53 : (0 : Int) ≤ y53.toInt ∧ y53.toInt ≤ 80 := by rw [hy53]; exact iG43.2.1 171 17 (0, 80) rfl
          obtain ⟨y54, hy54⟩ : ∃ z : Int32, z = pj_fi G43 171 18 := ⟨_, rfl⟩
          have ey54 : (pj_fi G43 171 18).toInt = y54.toInt := by rw [hy54]
          have ry54 : (0 : Int) ≤ y54.toInt ∧ y54.toInt ≤ 80 := by rw [hy54]; exact iG43.2.1 171 18 (0, 80) rfl
          obtain ⟨y55, hy55⟩ : ∃ z : Int32, z = pj_fi G43 171 16 := ⟨_, rfl⟩
          have ey55 : (pj_fi G43 171 16).toInt = y55.toInt := by rw [hy55]
          have ry55 : (0 : Int) ≤ y55.toInt ∧ y55.toInt ≤ 80 := by rw [hy55]; exact iG43.2.1 171 16 (0, 80) rfl
          show pj_X _ _ G43 86 [(4, .int y14), (0, .ref 171), (1, .int v1), (2, .int v2), (3, .int v3)] [] _
          refine pj_X_of (fun r h => pj_R_to (G43, 89, [(5, .int (Int32.ofInt 0)), (4, .int y14), (0, .ref 171), (1, .int v1), (2, .int v2), (3, .int v3)], [], 0, 0) 89 3 (fun _ => rfl) h) ?_
          have q56 : (pj_fi G43 171 30).toInt = y50.toInt := by rw [show pj_fi G43 171 30 = y50 from hy50.symm]
          have q57 : (pj_fi G43 171 1).toInt = y51.toInt := by rw [show pj_fi G43 171 1 = y51 from hy51.symm]
          have q58 : (pj_fi G43 171 39).toInt = y52.toInt := by rw [show pj_fi G43 171 39 = y52 from hy52.symm]
          have q59 : (pj_fi G43 171 17).toInt = y53.toInt := by rw [show pj_fi G43 171 17 = y53 from hy53.symm]
          have q60 : (pj_fi G43 171 18).toInt = y54.toInt := by rw [show pj_fi G43 171 18 = y54 from hy54.symm]
          have q61 : (pj_fi G43 171 16).toInt = y55.toInt := by rw [show pj_fi G43 171 16 = y55 from hy55.symm]
          exact pj_X_sub [(0, .ref 171), (1, .int v1), (2, .int v2), (3, .int v3), (4, .int y14), (5, .int (Int32.ofInt 0))] (show List.Nodup [0, 1, 2, 3, 4, 5] by decide) ⟨rfl, rfl, rfl, rfl, rfl, rfl, trivial⟩ (ih.2 G43 iG43 kG43 v1 v2 v3 y14 (Int32.ofInt 0) (pj_i32 _) (pj_i32 _) (pj_i32 _) (pj_i32 _) ⟨by omega, by omega⟩ (by omega) (by omega) (by omega))
        | false =>
          have ub15 := pj_u0_geF b15
          refine pj_X_of (fun r h => pj_R_ifF rfl b15 h) ?_
          refine pj_X_of (fun r h => pj_R_to (G, 77, [(4, .int y14), (0, .ref 171), (1, .int v1), (2, .int v2), (3, .int v3)], [.int y14], 0, 0) 77 2 (fun _ => rfl) h) ?_
          have q62 : (pj_fi G 171 30).toInt = y1.toInt := by rw [show pj_fi G 171 30 = y1 from hy1.symm]
          have q63 : (pj_fi G 171 1).toInt = y2.toInt := by rw [show pj_fi G 171 1 = y2 from hy2.symm]
          have q64 : (pj_fi G 171 39).toInt = y3.toInt := by rw [show pj_fi G 171 39 = y3 from hy3.symm]
          have q65 : (pj_fi G 171 17).toInt = y4.toInt := by rw [show pj_fi G 171 17 = y4 from hy4.symm]
          have q66 : (pj_fi G 171 18).toInt = y5.toInt := by rw [show pj_fi G 171 18 = y5 from hy5.symm]
          have q67 : (pj_fi G 171 16).toInt = y6.toInt := by rw [show pj_fi G 171 16 = y6 from hy6.symm]
          exact pj_X_rt rfl rfl ⟨_, rfl, hI, hK, pj_i32 _, by omega⟩
      | false =>
        have ub7 := pj_u0_eqF b7
        refine pj_X_of (fun r h => pj_R_ifF rfl b7 h) ?_
        refine pj_X_of (fun r h => pj_R_to (G, 34, [(0, .ref 171), (1, .int v1), (2, .int v2), (3, .int v3)], [.ref 171], 0, 0) 34 2 (fun _ => rfl) h) ?_
        have q68 : (pj_fi G 171 30).toInt = y1.toInt := by rw [show pj_fi G 171 30 = y1 from hy1.symm]
        have q69 : (pj_fi G 171 1).toInt = y2.toInt := by rw [show pj_fi G 171 1 = y2 from hy2.symm]
        have q70 : (pj_fi G 171 39).toInt = y3.toInt := by rw [show pj_fi G 171 39 = y3 from hy3.symm]
        have q71 : (pj_fi G 171 17).toInt = y4.toInt := by rw [show pj_fi G 171 17 = y4 from hy4.symm]
        have q72 : (pj_fi G 171 18).toInt = y5.toInt := by rw [show pj_fi G 171 18 = y5 from hy5.symm]
        have q73 : (pj_fi G 171 16).toInt = y6.toInt := by rw [show pj_fi G 171 16 = y6 from hy6.symm]
        refine pj_X_ca (vs := [.ref 171]) rfl (fun _ => rfl) ⟨Nat.le_of_ble_eq_true rfl, Nat.le_of_ble_eq_true rfl, pj_T_rcv hI rfl⟩ ⟨rfl, rfl⟩ (pj_Y_up (by decide) (ct_229 G hI (by omega))) ?_
        rintro _ G75 ⟨y74, rfl, iG75, jG75, ry74, ey74⟩
        have kG75 : pj_kpt kc_231t G0 G75 := pj_kpt_t hK (pj_kpt_s jG75 rfl)
        have q76 : (pj_fi G75 171 30).toInt = (pj_fi G 171 30).toInt := by rw [jG75.1 (171, 30) (by decide)]
        have q77 : (pj_fi G75 171 1).toInt = (pj_fi G 171 1).toInt := by rw [jG75.1 (171, 1) (by decide)]
        have q78 : (pj_fi G75 171 18).toInt = (pj_fi G 171 18).toInt := by rw [jG75.1 (171, 18) (by decide)]
        have q79 : (pj_fi G75 171 16).toInt = (pj_fi G 171 16).toInt := by rw [jG75.1 (171, 16) (by decide)]
        obtain ⟨y80, hy80⟩ : ∃ z : Int32, z = pj_fi G75 171 30 := ⟨_, rfl⟩
        have ey80 : (pj_fi G75 171 30).toInt = y80.toInt := by rw [hy80]
        have ry80 : (0 : Int) ≤ y80.toInt ∧ y80.toInt ≤ 16 := by rw [hy80]; exact iG75.2.1 171 30 (0, 16) rfl
        obtain ⟨y81, hy81⟩ : ∃ z : Int32, z = pj_fi G75 171 1 := ⟨_, rfl⟩
        have ey81 : (pj_fi G75 171 1).toInt = y81.toInt := by rw [hy81]
        have ry81 : (0 : Int) ≤ y81.toInt ∧ y81.toInt ≤ 24 := by rw [hy81]; exact iG75.2.1 171 1 (0, 24) rfl
        obtain ⟨y82, hy82⟩ : ∃ z : Int32, z = pj_fi G75 171 39 := ⟨_, rfl⟩
        have ey82 : (pj_fi G75 171 39).toInt = y82.toInt := by rw [hy82]
        have ry82 : (0 : Int) ≤ y82.toInt ∧ y82.toInt ≤ 60 := by rw [hy82]; exact iG75.2.1 171 39 (0, 60) rfl
        obtain ⟨y83, hy83⟩ : ∃ z : Int32, z = pj_fi G75 171 17 := ⟨_, rfl⟩
        have ey83 : (pj_fi G75 171 17).toInt = y83.toInt := by rw [hy83]
        have ry83 : (0 : Int) ≤ y83.toInt ∧ y83.toInt ≤ 80 := by rw [hy83]; exact iG75.2.1 171 17 (0, 80) rfl
        obtain ⟨y84, hy84⟩ : ∃ z : Int32, z = pj_fi G75 171 18 := ⟨_, rfl⟩
        have ey84 : (pj_fi G75 171 18).toInt = y84.toInt := by rw [hy84]
        have ry84 : (0 : Int) ≤ y84.toInt ∧ y84.toInt ≤ 80 := by rw [hy84]; exact iG75.2.1 171 18 (0, 80) rfl
        obtain ⟨y85, hy85⟩ : ∃ z : Int32, z = pj_fi G75 171 16 := ⟨_, rfl⟩
        have ey85 : (pj_fi G75 171 16).toInt = y85.toInt := by rw [hy85]
        have ry85 : (0 : Int) ≤ y85.toInt ∧ y85.toInt ≤ 80 := by rw [hy85]; exact iG75.2.1 171 16 (0, 80) rfl
        show pj_X _ _ G75 37 [(0, .ref 171), (1, .int v1), (2, .int v2), (3, .int v3)] [.int y74] _
        refine pj_X_of (fun r h => pj_R_to (G75, 39, [(2, .int y74), (0, .ref 171), (1, .int v1), (3, .int v3)], [.int y74], 0, 0) 39 3 (fun _ => rfl) h) ?_
        cases b86 : pj_c1 .eq y74 0 with
        | true =>
          have ub86 := pj_u0_eqT b86
          refine pj_X_of (fun r h => pj_R_ifT 55 rfl rfl b86 h) ?_
          refine pj_X_of (fun r h => pj_R_to (G75, 29, [(3, .int (Int32.ofInt 0)), (2, .int y74), (0, .ref 171), (1, .int v1)], [], 0, 0) 29 4 (fun _ => rfl) h) ?_
          have q87 : (pj_fi G75 171 30).toInt = y80.toInt := by rw [show pj_fi G75 171 30 = y80 from hy80.symm]
          have q88 : (pj_fi G75 171 1).toInt = y81.toInt := by rw [show pj_fi G75 171 1 = y81 from hy81.symm]
          have q89 : (pj_fi G75 171 39).toInt = y82.toInt := by rw [show pj_fi G75 171 39 = y82 from hy82.symm]
          have q90 : (pj_fi G75 171 17).toInt = y83.toInt := by rw [show pj_fi G75 171 17 = y83 from hy83.symm]
          have q91 : (pj_fi G75 171 18).toInt = y84.toInt := by rw [show pj_fi G75 171 18 = y84 from hy84.symm]
          have q92 : (pj_fi G75 171 16).toInt = y85.toInt := by rw [show pj_fi G75 171 16 = y85 from hy85.symm]
          exact pj_X_sub [(0, .ref 171), (1, .int v1), (2, .int y74), (3, .int (Int32.ofInt 0))] (show List.Nodup [0, 1, 2, 3] by decide) ⟨rfl, rfl, rfl, rfl, trivial⟩ (ih.1 G75 iG75 kG75 v1 y74 (Int32.ofInt 0) ⟨by omega, by omega⟩ ⟨by omega, by omega⟩ ⟨by omega, by omega⟩ (by omega) (by omega) (by omega) (by omega) (by omega) (by omega))
        | false =>
          have ub86 := pj_u0_eqF b86
          refine pj_X_of (fun r h => pj_R_ifF rfl b86 h) ?_
          refine pj_X_of (fun r h => pj_R_to (G75, 45, [(2, .int y74), (0, .ref 171), (1, .int v1), (3, .int v3)], [.int ((Int8.ofInt 59).toInt32), .ref 171], 0, 0) 45 3 (fun _ => rfl) h) ?_
          have q93 : (pj_fi G75 171 30).toInt = y80.toInt := by rw [show pj_fi G75 171 30 = y80 from hy80.symm]
          have q94 : (pj_fi G75 171 1).toInt = y81.toInt := by rw [show pj_fi G75 171 1 = y81 from hy81.symm]
          have q95 : (pj_fi G75 171 39).toInt = y82.toInt := by rw [show pj_fi G75 171 39 = y82 from hy82.symm]
          have q96 : (pj_fi G75 171 17).toInt = y83.toInt := by rw [show pj_fi G75 171 17 = y83 from hy83.symm]
          have q97 : (pj_fi G75 171 18).toInt = y84.toInt := by rw [show pj_fi G75 171 18 = y84 from hy84.symm]
          have q98 : (pj_fi G75 171 16).toInt = y85.toInt := by rw [show pj_fi G75 171 16 = y85 from hy85.symm]
          refine pj_X_ca (vs := [.ref 171, .int ((Int8.ofInt 59).toInt32)]) rfl (fun _ => rfl) ⟨Nat.le_of_ble_eq_true rfl, Nat.le_of_ble_eq_true rfl, pj_T_rcv iG75 rfl⟩ ⟨rfl, rfl⟩ (pj_Y_up (by decide) (ct_182 G75 iG75 ((Int8.ofInt 59).toInt32) ⟨by omega, by omega⟩)) ?_
          rintro _ G100 ⟨y99, rfl, iG100, jG100, ry99, ey99⟩
          have kG100 : pj_kpt kc_231t G0 G100 := pj_kpt_t kG75 (pj_kpt_s jG100 rfl)
          have q101 : (pj_fi G100 171 30).toInt = (pj_fi G75 171 30).toInt := by rw [jG100.1 (171, 30) (by decide)]
          have q102 : (pj_fi G100 171 1).toInt = (pj_fi G75 171 1).toInt := by rw [jG100.1 (171, 1) (by decide)]
          have q103 : (pj_fi G100 171 39).toInt = (pj_fi G75 171 39).toInt := by rw [jG100.1 (171, 39) (by decide)]
          have q104 : (pj_fi G100 171 18).toInt = (pj_fi G75 171 18).toInt := by rw [jG100.1 (171, 18) (by decide)]
          have q105 : (pj_fi G100 171 16).toInt = (pj_fi G75 171 16).toInt := by rw [jG100.1 (171, 16) (by decide)]
          obtain ⟨y106, hy106⟩ : ∃ z : Int32, z = pj_fi G100 171 30 := ⟨_, rfl⟩
          have ey106 : (pj_fi G100 171 30).toInt = y106.toInt := by rw [hy106]
          have ry106 : (0 : Int) ≤ y106.toInt ∧ y106.toInt ≤ 16 := by rw [hy106]; exact iG100.2.1 171 30 (0, 16) rfl
          obtain ⟨y107, hy107⟩ : ∃ z : Int32, z = pj_fi G100 171 1 := ⟨_, rfl⟩
          have ey107 : (pj_fi G100 171 1).toInt = y107.toInt := by rw [hy107]
          have ry107 : (0 : Int) ≤ y107.toInt ∧ y107.toInt ≤ 24 := by rw [hy107]; exact iG100.2.1 171 1 (0, 24) rfl
          obtain ⟨y108, hy108⟩ : ∃ z : Int32, z = pj_fi G100 171 39 := ⟨_, rfl⟩
          have ey108 : (pj_fi G100 171 39).toInt = y108.toInt := by rw [hy108]
          have ry108 : (0 : Int) ≤ y108.toInt ∧ y108.toInt ≤ 60 := by rw [hy108]; exact iG100.2.1 171 39 (0, 60) rfl
          obtain ⟨y109, hy109⟩ : ∃ z : Int32, z = pj_fi G100 171 17 := ⟨_, rfl⟩
          have ey109 : (pj_fi G100 171 17).toInt = y109.toInt := by rw [hy109]
          have ry109 : (0 : Int) ≤ y109.toInt ∧ y109.toInt ≤ 80 := by rw [hy109]; exact iG100.2.1 171 17 (0, 80) rfl
          obtain ⟨y110, hy110⟩ : ∃ z : Int32, z = pj_fi G100 171 18 := ⟨_, rfl⟩
          have ey110 : (pj_fi G100 171 18).toInt = y110.toInt := by rw [hy110]
          have ry110 : (0 : Int) ≤ y110.toInt ∧ y110.toInt ≤ 80 := by rw [hy110]; exact iG100.2.1 171 18 (0, 80) rfl
          obtain ⟨y111, hy111⟩ : ∃ z : Int32, z = pj_fi G100 171 16 := ⟨_, rfl⟩
          have ey111 : (pj_fi G100 171 16).toInt = y111.toInt := by rw [hy111]
          have ry111 : (0 : Int) ≤ y111.toInt ∧ y111.toInt ≤ 80 := by rw [hy111]; exact iG100.2.1 171 16 (0, 80) rfl
          show pj_X _ _ G100 48 [(2, .int y74), (0, .ref 171), (1, .int v1), (3, .int v3)] [.int y99] _
          cases b112 : pj_c1 .eq y99 0 with
          | true =>
            have ub112 := pj_u0_eqT b112
            refine pj_X_of (fun r h => pj_R_ifT 55 rfl rfl b112 h) ?_
            refine pj_X_of (fun r h => pj_R_to (G100, 29, [(3, .int (Int32.ofInt 0)), (2, .int y74), (0, .ref 171), (1, .int v1)], [], 0, 0) 29 4 (fun _ => rfl) h) ?_
            have q113 : (pj_fi G100 171 30).toInt = y106.toInt := by rw [show pj_fi G100 171 30 = y106 from hy106.symm]
            have q114 : (pj_fi G100 171 1).toInt = y107.toInt := by rw [show pj_fi G100 171 1 = y107 from hy107.symm]
            have q115 : (pj_fi G100 171 39).toInt = y108.toInt := by rw [show pj_fi G100 171 39 = y108 from hy108.symm]
            have q116 : (pj_fi G100 171 17).toInt = y109.toInt := by rw [show pj_fi G100 171 17 = y109 from hy109.symm]
            have q117 : (pj_fi G100 171 18).toInt = y110.toInt := by rw [show pj_fi G100 171 18 = y110 from hy110.symm]
            have q118 : (pj_fi G100 171 16).toInt = y111.toInt := by rw [show pj_fi G100 171 16 = y111 from hy111.symm]
            exact pj_X_sub [(0, .ref 171), (1, .int v1), (2, .int y74), (3, .int (Int32.ofInt 0))] (show List.Nodup [0, 1, 2, 3] by decide) ⟨rfl, rfl, rfl, rfl, trivial⟩ (ih.1 G100 iG100 kG100 v1 y74 (Int32.ofInt 0) ⟨by omega, by omega⟩ ⟨by omega, by omega⟩ ⟨by omega, by omega⟩ (by omega) (by omega) (by omega) (by omega) (by omega) (by omega))
          | false =>
            have ub112 := pj_u0_eqF b112
            refine pj_X_of (fun r h => pj_R_ifF rfl b112 h) ?_
            refine pj_X_of (fun r h => pj_R_to (G100, 29, [(3, .int (Int32.ofInt 1)), (2, .int y74), (0, .ref 171), (1, .int v1)], [], 0, 0) 29 5 (fun _ => rfl) h) ?_
            have q119 : (pj_fi G100 171 30).toInt = y106.toInt := by rw [show pj_fi G100 171 30 = y106 from hy106.symm]
            have q120 : (pj_fi G100 171 1).toInt = y107.toInt := by rw [show pj_fi G100 171 1 = y107 from hy107.symm]
            have q121 : (pj_fi G100 171 39).toInt = y108.toInt := by rw [show pj_fi G100 171 39 = y108 from hy108.symm]
            have q122 : (pj_fi G100 171 17).toInt = y109.toInt := by rw [show pj_fi G100 171 17 = y109 from hy109.symm]
            have q123 : (pj_fi G100 171 18).toInt = y110.toInt := by rw [show pj_fi G100 171 18 = y110 from hy110.symm]
            have q124 : (pj_fi G100 171 16).toInt = y111.toInt := by rw [show pj_fi G100 171 16 = y111 from hy111.symm]
            exact pj_X_sub [(0, .ref 171), (1, .int v1), (2, .int y74), (3, .int (Int32.ofInt 1))] (show List.Nodup [0, 1, 2, 3] by decide) ⟨rfl, rfl, rfl, rfl, trivial⟩ (ih.1 G100 iG100 kG100 v1 y74 (Int32.ofInt 1) ⟨by omega, by omega⟩ ⟨by omega, by omega⟩ ⟨by omega, by omega⟩ (by omega) (by omega) (by omega) (by omega) (by omega) (by omega))
    · intro G hI hK v1 v2 v3 v4 v5 rv1 rv2 rv3 rv4 rv5 x0_ x1_ hm
      obtain ⟨y125, hy125⟩ : ∃ z : Int32, z = pj_fi G 171 30 := ⟨_, rfl⟩
      have ey125 : (pj_fi G 171 30).toInt = y125.toInt := by rw [hy125]
      have ry125 : (0 : Int) ≤ y125.toInt ∧ y125.toInt ≤ 16 := by rw [hy125]; exact hI.2.1 171 30 (0, 16) rfl
      obtain ⟨y126, hy126⟩ : ∃ z : Int32, z = pj_fi G 171 1 := ⟨_, rfl⟩
      have ey126 : (pj_fi G 171 1).toInt = y126.toInt := by rw [hy126]
      have ry126 : (0 : Int) ≤ y126.toInt ∧ y126.toInt ≤ 24 := by rw [hy126]; exact hI.2.1 171 1 (0, 24) rfl
      obtain ⟨y127, hy127⟩ : ∃ z : Int32, z = pj_fi G 171 39 := ⟨_, rfl⟩
      have ey127 : (pj_fi G 171 39).toInt = y127.toInt := by rw [hy127]
      have ry127 : (0 : Int) ≤ y127.toInt ∧ y127.toInt ≤ 60 := by rw [hy127]; exact hI.2.1 171 39 (0, 60) rfl
      obtain ⟨y128, hy128⟩ : ∃ z : Int32, z = pj_fi G 171 17 := ⟨_, rfl⟩
      have ey128 : (pj_fi G 171 17).toInt = y128.toInt := by rw [hy128]
      have ry128 : (0 : Int) ≤ y128.toInt ∧ y128.toInt ≤ 80 := by rw [hy128]; exact hI.2.1 171 17 (0, 80) rfl
      obtain ⟨y129, hy129⟩ : ∃ z : Int32, z = pj_fi G 171 18 := ⟨_, rfl⟩
      have ey129 : (pj_fi G 171 18).toInt = y129.toInt := by rw [hy129]
      have ry129 : (0 : Int) ≤ y129.toInt ∧ y129.toInt ≤ 80 := by rw [hy129]; exact hI.2.1 171 18 (0, 80) rfl
      obtain ⟨y130, hy130⟩ : ∃ z : Int32, z = pj_fi G 171 16 := ⟨_, rfl⟩
      have ey130 : (pj_fi G 171 16).toInt = y130.toInt := by rw [hy130]
      have ry130 : (0 : Int) ≤ y130.toInt ∧ y130.toInt ≤ 80 := by rw [hy130]; exact hI.2.1 171 16 (0, 80) rfl
      refine pj_X_of (fun r h => pj_R_to (G, 92, [(0, .ref 171), (1, .int v1), (2, .int v2), (3, .int v3), (4, .int v4), (5, .int v5)], [.ref 171, .int v5], 0, 0) 92 3 (fun _ => rfl) h) ?_
      refine pj_X_of (fun r h => pj_T_gi hI rfl rfl h) ?_
      show pj_X _ _ G 95 [(0, .ref 171), (1, .int v1), (2, .int v2), (3, .int v3), (4, .int v4), (5, .int v5)] [.int (pj_fi G 171 39), .int v5] _
      refine pj_X_eqi (show pj_fi G 171 39 = y127 from hy127.symm) ?_
      cases b131 : pj_c1 .ge v5 y127 with
      | true =>
        have ub131 := pj_u_geT b131
        refine pj_X_of (fun r h => pj_R_icT 113 rfl rfl b131 h) ?_
        refine pj_X_of (fun r h => pj_R_to (G, 115, [(0, .ref 171), (1, .int v1), (2, .int v2), (3, .int v3), (4, .int v4), (5, .int v5)], [.int (Int32.ofInt 0), .ref 171], 0, 0) 115 3 (fun _ => rfl) h) ?_
        refine pj_X_of (fun r h => pj_T_pf hI rfl rfl rfl h) ?_
        show pj_X _ _ (pj_wv G 171 1 (.int (Int32.ofInt 0))) 118 [(0, .ref 171), (1, .int v1), (2, .int v2), (3, .int v3), (4, .int v4), (5, .int v5)] [] _
        obtain ⟨G132, hG132⟩ : ∃ H, H = pj_wv G 171 1 (.int (Int32.ofInt 0)) := ⟨_, rfl⟩
        have iG132 : pj_Inv G132 := by rw [hG132]; exact pj_Inv_wi hI (ci := 12) rfl (fun q hq => by cases hq; exact ⟨by show (0 : Int) ≤ _; omega, by show _ ≤ (24 : Int); omega⟩)
        have kG132 : pj_kpt kc_231t G0 G132 := by rw [hG132]; exact pj_kpt_v hK rfl
        rw [← hG132]
        refine pj_X_of (fun r h => pj_R_to (G132, 122, [(0, .ref 171), (1, .int v1), (2, .int v2), (3, .int v3), (4, .int v4), (5, .int v5)], [.ref 171, .int v5, .ref 171], 0, 0) 122 4 (fun _ => rfl) h) ?_
        refine pj_X_of (fun r h => pj_T_gi iG132 rfl rfl h) ?_
        show pj_X _ _ G132 125 [(0, .ref 171), (1, .int v1), (2, .int v2), (3, .int v3), (4, .int v4), (5, .int v5)] [.int (pj_fi G132 171 39), .int v5, .ref 171] _
        refine pj_X_eqi (show pj_fi G132 171 39 = y127 from by rw [hG132, pj_fi_wv_ne _ _ _ _ _ _ (by decide)]; exact hy127.symm) ?_
        cases b133 : pj_c1 .ge v5 y127 with
        | true =>
          have ub133 := pj_u_geT b133
          refine pj_X_of (fun r h => pj_R_icT 132 rfl rfl b133 h) ?_
          refine pj_X_of (fun r h => pj_R_to (G132, 133, [(0, .ref 171), (1, .int v1), (2, .int v2), (3, .int v3), (4, .int v4), (5, .int v5)], [.int (Int32.ofInt 0), .ref 171], 0, 0) 133 2 (fun _ => rfl) h) ?_
          have q134 : (pj_fi G132 171 30).toInt = y125.toInt := by rw [show pj_fi G132 171 30 = y125 from by rw [hG132, pj_fi_wv_ne _ _ _ _ _ _ (by decide)]; exact hy125.symm]
          have q135 : (pj_fi G132 171 1).toInt = (Int32.ofInt 0).toInt := by rw [show pj_fi G132 171 1 = Int32.ofInt 0 from by rw [hG132]; exact pj_fi_wi hI.1 (ci := 12) rfl _]
          have q136 : (pj_fi G132 171 39).toInt = y127.toInt := by rw [show pj_fi G132 171 39 = y127 from by rw [hG132, pj_fi_wv_ne _ _ _ _ _ _ (by decide)]; exact hy127.symm]
          have q137 : (pj_fi G132 171 17).toInt = y128.toInt := by rw [show pj_fi G132 171 17 = y128 from by rw [hG132, pj_fi_wv_ne _ _ _ _ _ _ (by decide)]; exact hy128.symm]
          have q138 : (pj_fi G132 171 18).toInt = y129.toInt := by rw [show pj_fi G132 171 18 = y129 from by rw [hG132, pj_fi_wv_ne _ _ _ _ _ _ (by decide)]; exact hy129.symm]
          have q139 : (pj_fi G132 171 16).toInt = y130.toInt := by rw [show pj_fi G132 171 16 = y130 from by rw [hG132, pj_fi_wv_ne _ _ _ _ _ _ (by decide)]; exact hy130.symm]
          refine pj_X_ca (vs := [.int (Int32.ofInt 0)]) rfl (fun _ => rfl) ⟨Nat.le_of_ble_eq_true rfl, Nat.le_of_ble_eq_true rfl, rfl⟩ ⟨rfl, rfl⟩ (pj_Y_up (by decide) (ct_172x G132 iG132 (Int32.ofInt 0) ⟨by omega, by omega⟩)) ?_
          rintro _ _ ⟨y140, rfl, rfl, ry140, ey140, fy140⟩
          show pj_X _ _ G132 136 [(0, .ref 171), (1, .int v1), (2, .int v2), (3, .int v3), (4, .int v4), (5, .int v5)] [.int y140, .ref 171] _
          refine pj_X_of (fun r h => pj_R_to (G132, 137, [(0, .ref 171), (1, .int v1), (2, .int v2), (3, .int v3), (4, .int v4), (5, .int v5)], [.long y140.toInt64, .ref 171], 0, 0) 137 2 (fun _ => rfl) h) ?_
          have q141 : (pj_fi G132 171 30).toInt = y125.toInt := by rw [show pj_fi G132 171 30 = y125 from by rw [hG132, pj_fi_wv_ne _ _ _ _ _ _ (by decide)]; exact hy125.symm]
          have q142 : (pj_fi G132 171 1).toInt = (Int32.ofInt 0).toInt := by rw [show pj_fi G132 171 1 = Int32.ofInt 0 from by rw [hG132]; exact pj_fi_wi hI.1 (ci := 12) rfl _]
          have q143 : (pj_fi G132 171 39).toInt = y127.toInt := by rw [show pj_fi G132 171 39 = y127 from by rw [hG132, pj_fi_wv_ne _ _ _ _ _ _ (by decide)]; exact hy127.symm]
          have q144 : (pj_fi G132 171 17).toInt = y128.toInt := by rw [show pj_fi G132 171 17 = y128 from by rw [hG132, pj_fi_wv_ne _ _ _ _ _ _ (by decide)]; exact hy128.symm]
          have q145 : (pj_fi G132 171 18).toInt = y129.toInt := by rw [show pj_fi G132 171 18 = y129 from by rw [hG132, pj_fi_wv_ne _ _ _ _ _ _ (by decide)]; exact hy129.symm]
          have q146 : (pj_fi G132 171 16).toInt = y130.toInt := by rw [show pj_fi G132 171 16 = y130 from by rw [hG132, pj_fi_wv_ne _ _ _ _ _ _ (by decide)]; exact hy130.symm]
          have lc147 : (y140.toInt64).toInt = y140.toInt := Int32.toInt_toInt64 _
          refine pj_X_ca (vs := [.ref 171, .long y140.toInt64]) rfl (fun _ => rfl) ⟨Nat.le_of_ble_eq_true rfl, Nat.le_of_ble_eq_true rfl, pj_T_rcv iG132 rfl⟩ ⟨rfl, rfl⟩ (pj_Y_up (by decide) (ct_174fx G132 iG132 y140.toInt64 (by omega))) ?_
          rintro _ G149 ⟨rfl, iG149, jG149, eG149, fy148⟩
          replace eG149 := eG149 _ rfl
          have kG149 : pj_kpt kc_231t G0 G149 := pj_kpt_t kG132 (pj_kpt_s jG149 rfl)
          have q150 : (pj_fi G149 171 30).toInt = (pj_fi G132 171 30).toInt := by rw [jG149.1 (171, 30) (by decide)]
          have q151 : (pj_fi G149 171 39).toInt = (pj_fi G132 171 39).toInt := by rw [jG149.1 (171, 39) (by decide)]
          have q152 : (pj_fi G149 171 17).toInt = (pj_fi G132 171 17).toInt := by rw [jG149.1 (171, 17) (by decide)]
          have q153 : (pj_fi G149 171 18).toInt = (pj_fi G132 171 18).toInt := by rw [jG149.1 (171, 18) (by decide)]
          have q154 : (pj_fi G149 171 16).toInt = (pj_fi G132 171 16).toInt := by rw [jG149.1 (171, 16) (by decide)]
          obtain ⟨y155, hy155⟩ : ∃ z : Int32, z = pj_fi G149 171 30 := ⟨_, rfl⟩
          have ey155 : (pj_fi G149 171 30).toInt = y155.toInt := by rw [hy155]
          have ry155 : (0 : Int) ≤ y155.toInt ∧ y155.toInt ≤ 16 := by rw [hy155]; exact iG149.2.1 171 30 (0, 16) rfl
          obtain ⟨y156, hy156⟩ : ∃ z : Int32, z = pj_fi G149 171 1 := ⟨_, rfl⟩
          have ey156 : (pj_fi G149 171 1).toInt = y156.toInt := by rw [hy156]
          have ry156 : (0 : Int) ≤ y156.toInt ∧ y156.toInt ≤ 24 := by rw [hy156]; exact iG149.2.1 171 1 (0, 24) rfl
          obtain ⟨y157, hy157⟩ : ∃ z : Int32, z = pj_fi G149 171 39 := ⟨_, rfl⟩
          have ey157 : (pj_fi G149 171 39).toInt = y157.toInt := by rw [hy157]
          have ry157 : (0 : Int) ≤ y157.toInt ∧ y157.toInt ≤ 60 := by rw [hy157]; exact iG149.2.1 171 39 (0, 60) rfl
          obtain ⟨y158, hy158⟩ : ∃ z : Int32, z = pj_fi G149 171 17 := ⟨_, rfl⟩
          have ey158 : (pj_fi G149 171 17).toInt = y158.toInt := by rw [hy158]
          have ry158 : (0 : Int) ≤ y158.toInt ∧ y158.toInt ≤ 80 := by rw [hy158]; exact iG149.2.1 171 17 (0, 80) rfl
          obtain ⟨y159, hy159⟩ : ∃ z : Int32, z = pj_fi G149 171 18 := ⟨_, rfl⟩
          have ey159 : (pj_fi G149 171 18).toInt = y159.toInt := by rw [hy159]
          have ry159 : (0 : Int) ≤ y159.toInt ∧ y159.toInt ≤ 80 := by rw [hy159]; exact iG149.2.1 171 18 (0, 80) rfl
          obtain ⟨y160, hy160⟩ : ∃ z : Int32, z = pj_fi G149 171 16 := ⟨_, rfl⟩
          have ey160 : (pj_fi G149 171 16).toInt = y160.toInt := by rw [hy160]
          have ry160 : (0 : Int) ≤ y160.toInt ∧ y160.toInt ≤ 80 := by rw [hy160]; exact iG149.2.1 171 16 (0, 80) rfl
          show pj_X _ _ G149 140 [(0, .ref 171), (1, .int v1), (2, .int v2), (3, .int v3), (4, .int v4), (5, .int v5)] [] _
          refine pj_X_of (fun r h => pj_R_to (G149, 142, [(0, .ref 171), (1, .int v1), (2, .int v2), (3, .int v3), (4, .int v4), (5, .int v5)], [.ref 171, .ref 171], 0, 0) 142 3 (fun _ => rfl) h) ?_
          refine pj_X_of (fun r h => pj_T_gi iG149 rfl rfl h) ?_
          show pj_X _ _ G149 145 [(0, .ref 171), (1, .int v1), (2, .int v2), (3, .int v3), (4, .int v4), (5, .int v5)] [.int (pj_fi G149 171 35), .ref 171] _
          obtain ⟨y161, hy161⟩ : ∃ z : Int32, z = pj_fi G149 171 35 := ⟨_, rfl⟩
          refine pj_X_eqi hy161.symm ?_
          have ey161 : (pj_fi G149 171 35).toInt = y161.toInt := by rw [hy161]
          refine pj_X_of (fun r h => pj_R_to (G149, 146, [(0, .ref 171), (1, .int v1), (2, .int v2), (3, .int v3), (4, .int v4), (5, .int v5)], [.long y161.toInt64, .ref 171], 0, 0) 146 2 (fun _ => rfl) h) ?_
          have q162 : (pj_fi G149 171 30).toInt = y155.toInt := by rw [show pj_fi G149 171 30 = y155 from hy155.symm]
          have q163 : (pj_fi G149 171 1).toInt = y156.toInt := by rw [show pj_fi G149 171 1 = y156 from hy156.symm]
          have q164 : (pj_fi G149 171 39).toInt = y157.toInt := by rw [show pj_fi G149 171 39 = y157 from hy157.symm]
          have q165 : (pj_fi G149 171 17).toInt = y158.toInt := by rw [show pj_fi G149 171 17 = y158 from hy158.symm]
          have q166 : (pj_fi G149 171 18).toInt = y159.toInt := by rw [show pj_fi G149 171 18 = y159 from hy159.symm]
          have q167 : (pj_fi G149 171 16).toInt = y160.toInt := by rw [show pj_fi G149 171 16 = y160 from hy160.symm]
          have lc168 : (y161.toInt64).toInt = y161.toInt := Int32.toInt_toInt64 _
          refine pj_X_ca (vs := [.ref 171, .long y161.toInt64]) rfl (fun _ => rfl) ⟨Nat.le_of_ble_eq_true rfl, Nat.le_of_ble_eq_true rfl, pj_T_rcv iG149 rfl⟩ ⟨rfl, rfl⟩ (pj_Y_up (by decide) (ct_174fx G149 iG149 y161.toInt64 (by omega))) ?_
          rintro _ G170 ⟨rfl, iG170, jG170, eG170, fy169⟩
          replace eG170 := eG170 _ rfl
          have kG170 : pj_kpt kc_231t G0 G170 := pj_kpt_t kG149 (pj_kpt_s jG170 rfl)
          have q171 : (pj_fi G170 171 30).toInt = (pj_fi G149 171 30).toInt := by rw [jG170.1 (171, 30) (by decide)]
          have q172 : (pj_fi G170 171 39).toInt = (pj_fi G149 171 39).toInt := by rw [jG170.1 (171, 39) (by decide)]
          have q173 : (pj_fi G170 171 17).toInt = (pj_fi G149 171 17).toInt := by rw [jG170.1 (171, 17) (by decide)]
          have q174 : (pj_fi G170 171 18).toInt = (pj_fi G149 171 18).toInt := by rw [jG170.1 (171, 18) (by decide)]
          have q175 : (pj_fi G170 171 16).toInt = (pj_fi G149 171 16).toInt := by rw [jG170.1 (171, 16) (by decide)]
          obtain ⟨y176, hy176⟩ : ∃ z : Int32, z = pj_fi G170 171 30 := ⟨_, rfl⟩
          have ey176 : (pj_fi G170 171 30).toInt = y176.toInt := by rw [hy176]
          have ry176 : (0 : Int) ≤ y176.toInt ∧ y176.toInt ≤ 16 := by rw [hy176]; exact iG170.2.1 171 30 (0, 16) rfl
          obtain ⟨y177, hy177⟩ : ∃ z : Int32, z = pj_fi G170 171 1 := ⟨_, rfl⟩
          have ey177 : (pj_fi G170 171 1).toInt = y177.toInt := by rw [hy177]
          have ry177 : (0 : Int) ≤ y177.toInt ∧ y177.toInt ≤ 24 := by rw [hy177]; exact iG170.2.1 171 1 (0, 24) rfl
          obtain ⟨y178, hy178⟩ : ∃ z : Int32, z = pj_fi G170 171 39 := ⟨_, rfl⟩
          have ey178 : (pj_fi G170 171 39).toInt = y178.toInt := by rw [hy178]
          have ry178 : (0 : Int) ≤ y178.toInt ∧ y178.toInt ≤ 60 := by rw [hy178]; exact iG170.2.1 171 39 (0, 60) rfl
          obtain ⟨y179, hy179⟩ : ∃ z : Int32, z = pj_fi G170 171 17 := ⟨_, rfl⟩
          have ey179 : (pj_fi G170 171 17).toInt = y179.toInt := by rw [hy179]
          have ry179 : (0 : Int) ≤ y179.toInt ∧ y179.toInt ≤ 80 := by rw [hy179]; exact iG170.2.1 171 17 (0, 80) rfl
          obtain ⟨y180, hy180⟩ : ∃ z : Int32, z = pj_fi G170 171 18 := ⟨_, rfl⟩
          have ey180 : (pj_fi G170 171 18).toInt = y180.toInt := by rw [hy180]
          have ry180 : (0 : Int) ≤ y180.toInt ∧ y180.toInt ≤ 80 := by rw [hy180]; exact iG170.2.1 171 18 (0, 80) rfl
          obtain ⟨y181, hy181⟩ : ∃ z : Int32, z = pj_fi G170 171 16 := ⟨_, rfl⟩
          have ey181 : (pj_fi G170 171 16).toInt = y181.toInt := by rw [hy181]
          have ry181 : (0 : Int) ≤ y181.toInt ∧ y181.toInt ≤ 80 := by rw [hy181]; exact iG170.2.1 171 16 (0, 80) rfl
          show pj_X _ _ G170 149 [(0, .ref 171), (1, .int v1), (2, .int v2), (3, .int v3), (4, .int v4), (5, .int v5)] [] _
          refine pj_X_of (fun r h => pj_R_to (G170, 151, [(0, .ref 171), (1, .int v1), (2, .int v2), (3, .int v3), (4, .int v4), (5, .int v5)], [.int v5], 0, 0) 151 2 (fun _ => rfl) h) ?_
          cases b182 : pj_c1 .le v5 0 with
          | true =>
            have ub182 := pj_u0_leT b182
            refine pj_X_of (fun r h => pj_R_ifT 163 rfl rfl b182 h) ?_
            refine pj_X_of (fun r h => pj_R_to (G170, 164, [(0, .ref 171), (1, .int v1), (2, .int v2), (3, .int v3), (4, .int v4), (5, .int v5)], [.int (Int32.ofInt 0)], 0, 0) 164 2 (fun _ => rfl) h) ?_
            have q183 : (pj_fi G170 171 30).toInt = y176.toInt := by rw [show pj_fi G170 171 30 = y176 from hy176.symm]
            have q184 : (pj_fi G170 171 1).toInt = y177.toInt := by rw [show pj_fi G170 171 1 = y177 from hy177.symm]
            have q185 : (pj_fi G170 171 39).toInt = y178.toInt := by rw [show pj_fi G170 171 39 = y178 from hy178.symm]
            have q186 : (pj_fi G170 171 17).toInt = y179.toInt := by rw [show pj_fi G170 171 17 = y179 from hy179.symm]
            have q187 : (pj_fi G170 171 18).toInt = y180.toInt := by rw [show pj_fi G170 171 18 = y180 from hy180.symm]
            have q188 : (pj_fi G170 171 16).toInt = y181.toInt := by rw [show pj_fi G170 171 16 = y181 from hy181.symm]
            exact pj_X_rt rfl rfl ⟨_, rfl, iG170, kG170, pj_i32 _, by omega⟩
          | false =>
            have ub182 := pj_u0_leF b182
            refine pj_X_of (fun r h => pj_R_ifF rfl b182 h) ?_
            refine pj_X_of (fun r h => pj_R_to (G170, 157, [(0, .ref 171), (1, .int v1), (2, .int v2), (3, .int v3), (4, .int v4), (5, .int v5)], [.int v5, .ref 171], 0, 0) 157 3 (fun _ => rfl) h) ?_
            have q189 : (pj_fi G170 171 30).toInt = y176.toInt := by rw [show pj_fi G170 171 30 = y176 from hy176.symm]
            have q190 : (pj_fi G170 171 1).toInt = y177.toInt := by rw [show pj_fi G170 171 1 = y177 from hy177.symm]
            have q191 : (pj_fi G170 171 39).toInt = y178.toInt := by rw [show pj_fi G170 171 39 = y178 from hy178.symm]
            have q192 : (pj_fi G170 171 17).toInt = y179.toInt := by rw [show pj_fi G170 171 17 = y179 from hy179.symm]
            have q193 : (pj_fi G170 171 18).toInt = y180.toInt := by rw [show pj_fi G170 171 18 = y180 from hy180.symm]
            have q194 : (pj_fi G170 171 16).toInt = y181.toInt := by rw [show pj_fi G170 171 16 = y181 from hy181.symm]
            refine pj_X_ca (vs := [.ref 171, .int v5]) rfl (fun _ => rfl) ⟨Nat.le_of_ble_eq_true rfl, Nat.le_of_ble_eq_true rfl, pj_T_rcv iG170 rfl⟩ ⟨rfl, rfl⟩ (pj_Y_up (by decide) (ct_215x G170 iG170 v5 (by omega))) ?_
            rintro _ G196 ⟨y195, rfl, iG196, jG196, ry195, ey195, fy195⟩
            have kG196 : pj_kpt kc_231t G0 G196 := pj_kpt_t kG170 (pj_kpt_s jG196 rfl)
            have q197 : (pj_fi G196 171 1).toInt = (pj_fi G170 171 1).toInt := by rw [jG196.1 (171, 1) (by decide)]
            have q198 : (pj_fi G196 171 39).toInt = (pj_fi G170 171 39).toInt := by rw [jG196.1 (171, 39) (by decide)]
            have q199 : (pj_fi G196 171 17).toInt = (pj_fi G170 171 17).toInt := by rw [jG196.1 (171, 17) (by decide)]
            have q200 : (pj_fi G196 171 18).toInt = (pj_fi G170 171 18).toInt := by rw [jG196.1 (171, 18) (by decide)]
            have q201 : (pj_fi G196 171 16).toInt = (pj_fi G170 171 16).toInt := by rw [jG196.1 (171, 16) (by decide)]
            obtain ⟨y202, hy202⟩ : ∃ z : Int32, z = pj_fi G196 171 30 := ⟨_, rfl⟩
            have ey202 : (pj_fi G196 171 30).toInt = y202.toInt := by rw [hy202]
            have ry202 : (0 : Int) ≤ y202.toInt ∧ y202.toInt ≤ 16 := by rw [hy202]; exact iG196.2.1 171 30 (0, 16) rfl
            obtain ⟨y203, hy203⟩ : ∃ z : Int32, z = pj_fi G196 171 1 := ⟨_, rfl⟩
            have ey203 : (pj_fi G196 171 1).toInt = y203.toInt := by rw [hy203]
            have ry203 : (0 : Int) ≤ y203.toInt ∧ y203.toInt ≤ 24 := by rw [hy203]; exact iG196.2.1 171 1 (0, 24) rfl
            obtain ⟨y204, hy204⟩ : ∃ z : Int32, z = pj_fi G196 171 39 := ⟨_, rfl⟩
            have ey204 : (pj_fi G196 171 39).toInt = y204.toInt := by rw [hy204]
            have ry204 : (0 : Int) ≤ y204.toInt ∧ y204.toInt ≤ 60 := by rw [hy204]; exact iG196.2.1 171 39 (0, 60) rfl
            obtain ⟨y205, hy205⟩ : ∃ z : Int32, z = pj_fi G196 171 17 := ⟨_, rfl⟩
            have ey205 : (pj_fi G196 171 17).toInt = y205.toInt := by rw [hy205]
            have ry205 : (0 : Int) ≤ y205.toInt ∧ y205.toInt ≤ 80 := by rw [hy205]; exact iG196.2.1 171 17 (0, 80) rfl
            obtain ⟨y206, hy206⟩ : ∃ z : Int32, z = pj_fi G196 171 18 := ⟨_, rfl⟩
            have ey206 : (pj_fi G196 171 18).toInt = y206.toInt := by rw [hy206]
            have ry206 : (0 : Int) ≤ y206.toInt ∧ y206.toInt ≤ 80 := by rw [hy206]; exact iG196.2.1 171 18 (0, 80) rfl
            obtain ⟨y207, hy207⟩ : ∃ z : Int32, z = pj_fi G196 171 16 := ⟨_, rfl⟩
            have ey207 : (pj_fi G196 171 16).toInt = y207.toInt := by rw [hy207]
            have ry207 : (0 : Int) ≤ y207.toInt ∧ y207.toInt ≤ 80 := by rw [hy207]; exact iG196.2.1 171 16 (0, 80) rfl
            show pj_X _ _ G196 160 [(0, .ref 171), (1, .int v1), (2, .int v2), (3, .int v3), (4, .int v4), (5, .int v5)] [.int y195] _
            refine pj_X_of (fun r h => pj_R_to (G196, 164, [(0, .ref 171), (1, .int v1), (2, .int v2), (3, .int v3), (4, .int v4), (5, .int v5)], [.int y195], 0, 0) 164 2 (fun _ => rfl) h) ?_
            have q208 : (pj_fi G196 171 30).toInt = y202.toInt := by rw [show pj_fi G196 171 30 = y202 from hy202.symm]
            have q209 : (pj_fi G196 171 1).toInt = y203.toInt := by rw [show pj_fi G196 171 1 = y203 from hy203.symm]
            have q210 : (pj_fi G196 171 39).toInt = y204.toInt := by rw [show pj_fi G196 171 39 = y204 from hy204.symm]
            have q211 : (pj_fi G196 171 17).toInt = y205.toInt := by rw [show pj_fi G196 171 17 = y205 from hy205.symm]
            have q212 : (pj_fi G196 171 18).toInt = y206.toInt := by rw [show pj_fi G196 171 18 = y206 from hy206.symm]
            have q213 : (pj_fi G196 171 16).toInt = y207.toInt := by rw [show pj_fi G196 171 16 = y207 from hy207.symm]
            exact pj_X_rt rfl rfl ⟨_, rfl, iG196, kG196, pj_i32 _, by omega⟩
        | false =>
          have ub133 := pj_u_geF b133
          refine pj_X_of (fun r h => pj_R_icF rfl b133 h) ?_
          refine pj_X_of (fun r h => pj_R_to (G132, 133, [(0, .ref 171), (1, .int v1), (2, .int v2), (3, .int v3), (4, .int v4), (5, .int v5)], [.int (Int32.ofInt 1), .ref 171], 0, 0) 133 3 (fun _ => rfl) h) ?_
          have q214 : (pj_fi G132 171 30).toInt = y125.toInt := by rw [show pj_fi G132 171 30 = y125 from by rw [hG132, pj_fi_wv_ne _ _ _ _ _ _ (by decide)]; exact hy125.symm]
          have q215 : (pj_fi G132 171 1).toInt = (Int32.ofInt 0).toInt := by rw [show pj_fi G132 171 1 = Int32.ofInt 0 from by rw [hG132]; exact pj_fi_wi hI.1 (ci := 12) rfl _]
          have q216 : (pj_fi G132 171 39).toInt = y127.toInt := by rw [show pj_fi G132 171 39 = y127 from by rw [hG132, pj_fi_wv_ne _ _ _ _ _ _ (by decide)]; exact hy127.symm]
          have q217 : (pj_fi G132 171 17).toInt = y128.toInt := by rw [show pj_fi G132 171 17 = y128 from by rw [hG132, pj_fi_wv_ne _ _ _ _ _ _ (by decide)]; exact hy128.symm]
          have q218 : (pj_fi G132 171 18).toInt = y129.toInt := by rw [show pj_fi G132 171 18 = y129 from by rw [hG132, pj_fi_wv_ne _ _ _ _ _ _ (by decide)]; exact hy129.symm]
          have q219 : (pj_fi G132 171 16).toInt = y130.toInt := by rw [show pj_fi G132 171 16 = y130 from by rw [hG132, pj_fi_wv_ne _ _ _ _ _ _ (by decide)]; exact hy130.symm]
          refine pj_X_ca (vs := [.int (Int32.ofInt 1)]) rfl (fun _ => rfl) ⟨Nat.le_of_ble_eq_true rfl, Nat.le_of_ble_eq_true rfl, rfl⟩ ⟨rfl, rfl⟩ (pj_Y_up (by decide) (ct_172x G132 iG132 (Int32.ofInt 1) ⟨by omega, by omega⟩)) ?_
          rintro _ _ ⟨y220, rfl, rfl, ry220, ey220, fy220⟩
          show pj_X _ _ G132 136 [(0, .ref 171), (1, .int v1), (2, .int v2), (3, .int v3), (4, .int v4), (5, .int v5)] [.int y220, .ref 171] _
          refine pj_X_of (fun r h => pj_R_to (G132, 137, [(0, .ref 171), (1, .int v1), (2, .int v2), (3, .int v3), (4, .int v4), (5, .int v5)], [.long y220.toInt64, .ref 171], 0, 0) 137 2 (fun _ => rfl) h) ?_
          have q221 : (pj_fi G132 171 30).toInt = y125.toInt := by rw [show pj_fi G132 171 30 = y125 from by rw [hG132, pj_fi_wv_ne _ _ _ _ _ _ (by decide)]; exact hy125.symm]
          have q222 : (pj_fi G132 171 1).toInt = (Int32.ofInt 0).toInt := by rw [show pj_fi G132 171 1 = Int32.ofInt 0 from by rw [hG132]; exact pj_fi_wi hI.1 (ci := 12) rfl _]
          have q223 : (pj_fi G132 171 39).toInt = y127.toInt := by rw [show pj_fi G132 171 39 = y127 from by rw [hG132, pj_fi_wv_ne _ _ _ _ _ _ (by decide)]; exact hy127.symm]
          have q224 : (pj_fi G132 171 17).toInt = y128.toInt := by rw [show pj_fi G132 171 17 = y128 from by rw [hG132, pj_fi_wv_ne _ _ _ _ _ _ (by decide)]; exact hy128.symm]
          have q225 : (pj_fi G132 171 18).toInt = y129.toInt := by rw [show pj_fi G132 171 18 = y129 from by rw [hG132, pj_fi_wv_ne _ _ _ _ _ _ (by decide)]; exact hy129.symm]
          have q226 : (pj_fi G132 171 16).toInt = y130.toInt := by rw [show pj_fi G132 171 16 = y130 from by rw [hG132, pj_fi_wv_ne _ _ _ _ _ _ (by decide)]; exact hy130.symm]
          have lc227 : (y220.toInt64).toInt = y220.toInt := Int32.toInt_toInt64 _
          refine pj_X_ca (vs := [.ref 171, .long y220.toInt64]) rfl (fun _ => rfl) ⟨Nat.le_of_ble_eq_true rfl, Nat.le_of_ble_eq_true rfl, pj_T_rcv iG132 rfl⟩ ⟨rfl, rfl⟩ (pj_Y_up (by decide) (ct_174fx G132 iG132 y220.toInt64 (by omega))) ?_
          rintro _ G229 ⟨rfl, iG229, jG229, eG229, fy228⟩
          replace eG229 := eG229 _ rfl
          have kG229 : pj_kpt kc_231t G0 G229 := pj_kpt_t kG132 (pj_kpt_s jG229 rfl)
          have q230 : (pj_fi G229 171 30).toInt = (pj_fi G132 171 30).toInt := by rw [jG229.1 (171, 30) (by decide)]
          have q231 : (pj_fi G229 171 39).toInt = (pj_fi G132 171 39).toInt := by rw [jG229.1 (171, 39) (by decide)]
          have q232 : (pj_fi G229 171 17).toInt = (pj_fi G132 171 17).toInt := by rw [jG229.1 (171, 17) (by decide)]
          have q233 : (pj_fi G229 171 18).toInt = (pj_fi G132 171 18).toInt := by rw [jG229.1 (171, 18) (by decide)]
          have q234 : (pj_fi G229 171 16).toInt = (pj_fi G132 171 16).toInt := by rw [jG229.1 (171, 16) (by decide)]
          obtain ⟨y235, hy235⟩ : ∃ z : Int32, z = pj_fi G229 171 30 := ⟨_, rfl⟩
          have ey235 : (pj_fi G229 171 30).toInt = y235.toInt := by rw [hy235]
          have ry235 : (0 : Int) ≤ y235.toInt ∧ y235.toInt ≤ 16 := by rw [hy235]; exact iG229.2.1 171 30 (0, 16) rfl
          obtain ⟨y236, hy236⟩ : ∃ z : Int32, z = pj_fi G229 171 1 := ⟨_, rfl⟩
          have ey236 : (pj_fi G229 171 1).toInt = y236.toInt := by rw [hy236]
          have ry236 : (0 : Int) ≤ y236.toInt ∧ y236.toInt ≤ 24 := by rw [hy236]; exact iG229.2.1 171 1 (0, 24) rfl
          obtain ⟨y237, hy237⟩ : ∃ z : Int32, z = pj_fi G229 171 39 := ⟨_, rfl⟩
          have ey237 : (pj_fi G229 171 39).toInt = y237.toInt := by rw [hy237]
          have ry237 : (0 : Int) ≤ y237.toInt ∧ y237.toInt ≤ 60 := by rw [hy237]; exact iG229.2.1 171 39 (0, 60) rfl
          obtain ⟨y238, hy238⟩ : ∃ z : Int32, z = pj_fi G229 171 17 := ⟨_, rfl⟩
          have ey238 : (pj_fi G229 171 17).toInt = y238.toInt := by rw [hy238]
          have ry238 : (0 : Int) ≤ y238.toInt ∧ y238.toInt ≤ 80 := by rw [hy238]; exact iG229.2.1 171 17 (0, 80) rfl
          obtain ⟨y239, hy239⟩ : ∃ z : Int32, z = pj_fi G229 171 18 := ⟨_, rfl⟩
          have ey239 : (pj_fi G229 171 18).toInt = y239.toInt := by rw [hy239]
          have ry239 : (0 : Int) ≤ y239.toInt ∧ y239.toInt ≤ 80 := by rw [hy239]; exact iG229.2.1 171 18 (0, 80) rfl
          obtain ⟨y240, hy240⟩ : ∃ z : Int32, z = pj_fi G229 171 16 := ⟨_, rfl⟩
          have ey240 : (pj_fi G229 171 16).toInt = y240.toInt := by rw [hy240]
          have ry240 : (0 : Int) ≤ y240.toInt ∧ y240.toInt ≤ 80 := by rw [hy240]; exact iG229.2.1 171 16 (0, 80) rfl
          show pj_X _ _ G229 140 [(0, .ref 171), (1, .int v1), (2, .int v2), (3, .int v3), (4, .int v4), (5, .int v5)] [] _
          refine pj_X_of (fun r h => pj_R_to (G229, 142, [(0, .ref 171), (1, .int v1), (2, .int v2), (3, .int v3), (4, .int v4), (5, .int v5)], [.ref 171, .ref 171], 0, 0) 142 3 (fun _ => rfl) h) ?_
          refine pj_X_of (fun r h => pj_T_gi iG229 rfl rfl h) ?_
          show pj_X _ _ G229 145 [(0, .ref 171), (1, .int v1), (2, .int v2), (3, .int v3), (4, .int v4), (5, .int v5)] [.int (pj_fi G229 171 35), .ref 171] _
          obtain ⟨y241, hy241⟩ : ∃ z : Int32, z = pj_fi G229 171 35 := ⟨_, rfl⟩
          refine pj_X_eqi hy241.symm ?_
          have ey241 : (pj_fi G229 171 35).toInt = y241.toInt := by rw [hy241]
          refine pj_X_of (fun r h => pj_R_to (G229, 146, [(0, .ref 171), (1, .int v1), (2, .int v2), (3, .int v3), (4, .int v4), (5, .int v5)], [.long y241.toInt64, .ref 171], 0, 0) 146 2 (fun _ => rfl) h) ?_
          have q242 : (pj_fi G229 171 30).toInt = y235.toInt := by rw [show pj_fi G229 171 30 = y235 from hy235.symm]
          have q243 : (pj_fi G229 171 1).toInt = y236.toInt := by rw [show pj_fi G229 171 1 = y236 from hy236.symm]
          have q244 : (pj_fi G229 171 39).toInt = y237.toInt := by rw [show pj_fi G229 171 39 = y237 from hy237.symm]
          have q245 : (pj_fi G229 171 17).toInt = y238.toInt := by rw [show pj_fi G229 171 17 = y238 from hy238.symm]
          have q246 : (pj_fi G229 171 18).toInt = y239.toInt := by rw [show pj_fi G229 171 18 = y239 from hy239.symm]
          have q247 : (pj_fi G229 171 16).toInt = y240.toInt := by rw [show pj_fi G229 171 16 = y240 from hy240.symm]
          have lc248 : (y241.toInt64).toInt = y241.toInt := Int32.toInt_toInt64 _
          refine pj_X_ca (vs := [.ref 171, .long y241.toInt64]) rfl (fun _ => rfl) ⟨Nat.le_of_ble_eq_true rfl, Nat.le_of_ble_eq_true rfl, pj_T_rcv iG229 rfl⟩ ⟨rfl, rfl⟩ (pj_Y_up (by decide) (ct_174fx G229 iG229 y241.toInt64 (by omega))) ?_
          rintro _ G250 ⟨rfl, iG250, jG250, eG250, fy249⟩
          replace eG250 := eG250 _ rfl
          have kG250 : pj_kpt kc_231t G0 G250 := pj_kpt_t kG229 (pj_kpt_s jG250 rfl)
          have q251 : (pj_fi G250 171 30).toInt = (pj_fi G229 171 30).toInt := by rw [jG250.1 (171, 30) (by decide)]
          have q252 : (pj_fi G250 171 39).toInt = (pj_fi G229 171 39).toInt := by rw [jG250.1 (171, 39) (by decide)]
          have q253 : (pj_fi G250 171 17).toInt = (pj_fi G229 171 17).toInt := by rw [jG250.1 (171, 17) (by decide)]
          have q254 : (pj_fi G250 171 18).toInt = (pj_fi G229 171 18).toInt := by rw [jG250.1 (171, 18) (by decide)]
          have q255 : (pj_fi G250 171 16).toInt = (pj_fi G229 171 16).toInt := by rw [jG250.1 (171, 16) (by decide)]
          obtain ⟨y256, hy256⟩ : ∃ z : Int32, z = pj_fi G250 171 30 := ⟨_, rfl⟩
          have ey256 : (pj_fi G250 171 30).toInt = y256.toInt := by rw [hy256]
          have ry256 : (0 : Int) ≤ y256.toInt ∧ y256.toInt ≤ 16 := by rw [hy256]; exact iG250.2.1 171 30 (0, 16) rfl
          obtain ⟨y257, hy257⟩ : ∃ z : Int32, z = pj_fi G250 171 1 := ⟨_, rfl⟩
          have ey257 : (pj_fi G250 171 1).toInt = y257.toInt := by rw [hy257]
          have ry257 : (0 : Int) ≤ y257.toInt ∧ y257.toInt ≤ 24 := by rw [hy257]; exact iG250.2.1 171 1 (0, 24) rfl
          obtain ⟨y258, hy258⟩ : ∃ z : Int32, z = pj_fi G250 171 39 := ⟨_, rfl⟩
          have ey258 : (pj_fi G250 171 39).toInt = y258.toInt := by rw [hy258]
          have ry258 : (0 : Int) ≤ y258.toInt ∧ y258.toInt ≤ 60 := by rw [hy258]; exact iG250.2.1 171 39 (0, 60) rfl
          obtain ⟨y259, hy259⟩ : ∃ z : Int32, z = pj_fi G250 171 17 := ⟨_, rfl⟩
          have ey259 : (pj_fi G250 171 17).toInt = y259.toInt := by rw [hy259]
          have ry259 : (0 : Int) ≤ y259.toInt ∧ y259.toInt ≤ 80 := by rw [hy259]; exact iG250.2.1 171 17 (0, 80) rfl
          obtain ⟨y260, hy260⟩ : ∃ z : Int32, z = pj_fi G250 171 18 := ⟨_, rfl⟩
          have ey260 : (pj_fi G250 171 18).toInt = y260.toInt := by rw [hy260]
          have ry260 : (0 : Int) ≤ y260.toInt ∧ y260.toInt ≤ 80 := by rw [hy260]; exact iG250.2.1 171 18 (0, 80) rfl
          obtain ⟨y261, hy261⟩ : ∃ z : Int32, z = pj_fi G250 171 16 := ⟨_, rfl⟩
          have ey261 : (pj_fi G250 171 16).toInt = y261.toInt := by rw [hy261]
          have ry261 : (0 : Int) ≤ y261.toInt ∧ y261.toInt ≤ 80 := by rw [hy261]; exact iG250.2.1 171 16 (0, 80) rfl
          show pj_X _ _ G250 149 [(0, .ref 171), (1, .int v1), (2, .int v2), (3, .int v3), (4, .int v4), (5, .int v5)] [] _
          refine pj_X_of (fun r h => pj_R_to (G250, 151, [(0, .ref 171), (1, .int v1), (2, .int v2), (3, .int v3), (4, .int v4), (5, .int v5)], [.int v5], 0, 0) 151 2 (fun _ => rfl) h) ?_
          cases b262 : pj_c1 .le v5 0 with
          | true =>
            have ub262 := pj_u0_leT b262
            refine pj_X_of (fun r h => pj_R_ifT 163 rfl rfl b262 h) ?_
            refine pj_X_of (fun r h => pj_R_to (G250, 164, [(0, .ref 171), (1, .int v1), (2, .int v2), (3, .int v3), (4, .int v4), (5, .int v5)], [.int (Int32.ofInt 0)], 0, 0) 164 2 (fun _ => rfl) h) ?_
            have q263 : (pj_fi G250 171 30).toInt = y256.toInt := by rw [show pj_fi G250 171 30 = y256 from hy256.symm]
            have q264 : (pj_fi G250 171 1).toInt = y257.toInt := by rw [show pj_fi G250 171 1 = y257 from hy257.symm]
            have q265 : (pj_fi G250 171 39).toInt = y258.toInt := by rw [show pj_fi G250 171 39 = y258 from hy258.symm]
            have q266 : (pj_fi G250 171 17).toInt = y259.toInt := by rw [show pj_fi G250 171 17 = y259 from hy259.symm]
            have q267 : (pj_fi G250 171 18).toInt = y260.toInt := by rw [show pj_fi G250 171 18 = y260 from hy260.symm]
            have q268 : (pj_fi G250 171 16).toInt = y261.toInt := by rw [show pj_fi G250 171 16 = y261 from hy261.symm]
            exact pj_X_rt rfl rfl ⟨_, rfl, iG250, kG250, pj_i32 _, by omega⟩
          | false =>
            have ub262 := pj_u0_leF b262
            refine pj_X_of (fun r h => pj_R_ifF rfl b262 h) ?_
            refine pj_X_of (fun r h => pj_R_to (G250, 157, [(0, .ref 171), (1, .int v1), (2, .int v2), (3, .int v3), (4, .int v4), (5, .int v5)], [.int v5, .ref 171], 0, 0) 157 3 (fun _ => rfl) h) ?_
            have q269 : (pj_fi G250 171 30).toInt = y256.toInt := by rw [show pj_fi G250 171 30 = y256 from hy256.symm]
            have q270 : (pj_fi G250 171 1).toInt = y257.toInt := by rw [show pj_fi G250 171 1 = y257 from hy257.symm]
            have q271 : (pj_fi G250 171 39).toInt = y258.toInt := by rw [show pj_fi G250 171 39 = y258 from hy258.symm]
            have q272 : (pj_fi G250 171 17).toInt = y259.toInt := by rw [show pj_fi G250 171 17 = y259 from hy259.symm]
            have q273 : (pj_fi G250 171 18).toInt = y260.toInt := by rw [show pj_fi G250 171 18 = y260 from hy260.symm]
            have q274 : (pj_fi G250 171 16).toInt = y261.toInt := by rw [show pj_fi G250 171 16 = y261 from hy261.symm]
            refine pj_X_ca (vs := [.ref 171, .int v5]) rfl (fun _ => rfl) ⟨Nat.le_of_ble_eq_true rfl, Nat.le_of_ble_eq_true rfl, pj_T_rcv iG250 rfl⟩ ⟨rfl, rfl⟩ (pj_Y_up (by decide) (ct_215x G250 iG250 v5 (by omega))) ?_
            rintro _ G276 ⟨y275, rfl, iG276, jG276, ry275, ey275, fy275⟩
            have kG276 : pj_kpt kc_231t G0 G276 := pj_kpt_t kG250 (pj_kpt_s jG276 rfl)
            have q277 : (pj_fi G276 171 1).toInt = (pj_fi G250 171 1).toInt := by rw [jG276.1 (171, 1) (by decide)]
            have q278 : (pj_fi G276 171 39).toInt = (pj_fi G250 171 39).toInt := by rw [jG276.1 (171, 39) (by decide)]
            have q279 : (pj_fi G276 171 17).toInt = (pj_fi G250 171 17).toInt := by rw [jG276.1 (171, 17) (by decide)]
            have q280 : (pj_fi G276 171 18).toInt = (pj_fi G250 171 18).toInt := by rw [jG276.1 (171, 18) (by decide)]
            have q281 : (pj_fi G276 171 16).toInt = (pj_fi G250 171 16).toInt := by rw [jG276.1 (171, 16) (by decide)]
            obtain ⟨y282, hy282⟩ : ∃ z : Int32, z = pj_fi G276 171 30 := ⟨_, rfl⟩
            have ey282 : (pj_fi G276 171 30).toInt = y282.toInt := by rw [hy282]
            have ry282 : (0 : Int) ≤ y282.toInt ∧ y282.toInt ≤ 16 := by rw [hy282]; exact iG276.2.1 171 30 (0, 16) rfl
            obtain ⟨y283, hy283⟩ : ∃ z : Int32, z = pj_fi G276 171 1 := ⟨_, rfl⟩
            have ey283 : (pj_fi G276 171 1).toInt = y283.toInt := by rw [hy283]
            have ry283 : (0 : Int) ≤ y283.toInt ∧ y283.toInt ≤ 24 := by rw [hy283]; exact iG276.2.1 171 1 (0, 24) rfl
            obtain ⟨y284, hy284⟩ : ∃ z : Int32, z = pj_fi G276 171 39 := ⟨_, rfl⟩
            have ey284 : (pj_fi G276 171 39).toInt = y284.toInt := by rw [hy284]
            have ry284 : (0 : Int) ≤ y284.toInt ∧ y284.toInt ≤ 60 := by rw [hy284]; exact iG276.2.1 171 39 (0, 60) rfl
            obtain ⟨y285, hy285⟩ : ∃ z : Int32, z = pj_fi G276 171 17 := ⟨_, rfl⟩
            have ey285 : (pj_fi G276 171 17).toInt = y285.toInt := by rw [hy285]
            have ry285 : (0 : Int) ≤ y285.toInt ∧ y285.toInt ≤ 80 := by rw [hy285]; exact iG276.2.1 171 17 (0, 80) rfl
            obtain ⟨y286, hy286⟩ : ∃ z : Int32, z = pj_fi G276 171 18 := ⟨_, rfl⟩
            have ey286 : (pj_fi G276 171 18).toInt = y286.toInt := by rw [hy286]
            have ry286 : (0 : Int) ≤ y286.toInt ∧ y286.toInt ≤ 80 := by rw [hy286]; exact iG276.2.1 171 18 (0, 80) rfl
            obtain ⟨y287, hy287⟩ : ∃ z : Int32, z = pj_fi G276 171 16 := ⟨_, rfl⟩
            have ey287 : (pj_fi G276 171 16).toInt = y287.toInt := by rw [hy287]
            have ry287 : (0 : Int) ≤ y287.toInt ∧ y287.toInt ≤ 80 := by rw [hy287]; exact iG276.2.1 171 16 (0, 80) rfl
            show pj_X _ _ G276 160 [(0, .ref 171), (1, .int v1), (2, .int v2), (3, .int v3), (4, .int v4), (5, .int v5)] [.int y275] _
            refine pj_X_of (fun r h => pj_R_to (G276, 164, [(0, .ref 171), (1, .int v1), (2, .int v2), (3, .int v3), (4, .int v4), (5, .int v5)], [.int y275], 0, 0) 164 2 (fun _ => rfl) h) ?_
            have q288 : (pj_fi G276 171 30).toInt = y282.toInt := by rw [show pj_fi G276 171 30 = y282 from hy282.symm]
            have q289 : (pj_fi G276 171 1).toInt = y283.toInt := by rw [show pj_fi G276 171 1 = y283 from hy283.symm]
            have q290 : (pj_fi G276 171 39).toInt = y284.toInt := by rw [show pj_fi G276 171 39 = y284 from hy284.symm]
            have q291 : (pj_fi G276 171 17).toInt = y285.toInt := by rw [show pj_fi G276 171 17 = y285 from hy285.symm]
            have q292 : (pj_fi G276 171 18).toInt = y286.toInt := by rw [show pj_fi G276 171 18 = y286 from hy286.symm]
            have q293 : (pj_fi G276 171 16).toInt = y287.toInt := by rw [show pj_fi G276 171 16 = y287 from hy287.symm]
            exact pj_X_rt rfl rfl ⟨_, rfl, iG276, kG276, pj_i32 _, by omega⟩
      | false =>
        have ub131 := pj_u_geF b131
        refine pj_X_of (fun r h => pj_R_icF rfl b131 h) ?_
        refine pj_X_of (fun r h => pj_R_to (G, 101, [(0, .ref 171), (1, .int v1), (2, .int v2), (3, .int v3), (4, .int v4), (5, .int v5)], [.int v5, .ref 171], 0, 0) 101 3 (fun _ => rfl) h) ?_
        have q294 : (pj_fi G 171 30).toInt = y125.toInt := by rw [show pj_fi G 171 30 = y125 from hy125.symm]
        have q295 : (pj_fi G 171 1).toInt = y126.toInt := by rw [show pj_fi G 171 1 = y126 from hy126.symm]
        have q296 : (pj_fi G 171 39).toInt = y127.toInt := by rw [show pj_fi G 171 39 = y127 from hy127.symm]
        have q297 : (pj_fi G 171 17).toInt = y128.toInt := by rw [show pj_fi G 171 17 = y128 from hy128.symm]
        have q298 : (pj_fi G 171 18).toInt = y129.toInt := by rw [show pj_fi G 171 18 = y129 from hy129.symm]
        have q299 : (pj_fi G 171 16).toInt = y130.toInt := by rw [show pj_fi G 171 16 = y130 from hy130.symm]
        refine pj_X_ca (vs := [.ref 171, .int v5]) rfl (fun _ => rfl) ⟨Nat.le_of_ble_eq_true rfl, Nat.le_of_ble_eq_true rfl, pj_T_rcv hI rfl⟩ ⟨rfl, rfl⟩ (pj_Y_up (by decide) (ct_230 G hI v5 ⟨by omega, by omega⟩ (pj_RI_k p0_ hK rfl))) ?_
        rintro _ G301 ⟨y300, rfl, iG301, jG301, ry300⟩
        have kG301 : pj_kpt kc_231t G0 G301 := pj_kpt_t hK (pj_kpt_s jG301 rfl)
        have q302 : (pj_fi G301 171 30).toInt = (pj_fi G 171 30).toInt := by rw [jG301.1 (171, 30) (by decide)]
        have q303 : (pj_fi G301 171 1).toInt = (pj_fi G 171 1).toInt := by rw [jG301.1 (171, 1) (by decide)]
        have q304 : (pj_fi G301 171 39).toInt = (pj_fi G 171 39).toInt := by rw [jG301.1 (171, 39) (by decide)]
        have q305 : (pj_fi G301 171 17).toInt = (pj_fi G 171 17).toInt := by rw [jG301.1 (171, 17) (by decide)]
        have q306 : (pj_fi G301 171 18).toInt = (pj_fi G 171 18).toInt := by rw [jG301.1 (171, 18) (by decide)]
        have q307 : (pj_fi G301 171 16).toInt = (pj_fi G 171 16).toInt := by rw [jG301.1 (171, 16) (by decide)]
        obtain ⟨y308, hy308⟩ : ∃ z : Int32, z = pj_fi G301 171 30 := ⟨_, rfl⟩
        have ey308 : (pj_fi G301 171 30).toInt = y308.toInt := by rw [hy308]
        have ry308 : (0 : Int) ≤ y308.toInt ∧ y308.toInt ≤ 16 := by rw [hy308]; exact iG301.2.1 171 30 (0, 16) rfl
        obtain ⟨y309, hy309⟩ : ∃ z : Int32, z = pj_fi G301 171 1 := ⟨_, rfl⟩
        have ey309 : (pj_fi G301 171 1).toInt = y309.toInt := by rw [hy309]
        have ry309 : (0 : Int) ≤ y309.toInt ∧ y309.toInt ≤ 24 := by rw [hy309]; exact iG301.2.1 171 1 (0, 24) rfl
        obtain ⟨y310, hy310⟩ : ∃ z : Int32, z = pj_fi G301 171 39 := ⟨_, rfl⟩
        have ey310 : (pj_fi G301 171 39).toInt = y310.toInt := by rw [hy310]
        have ry310 : (0 : Int) ≤ y310.toInt ∧ y310.toInt ≤ 60 := by rw [hy310]; exact iG301.2.1 171 39 (0, 60) rfl
        obtain ⟨y311, hy311⟩ : ∃ z : Int32, z = pj_fi G301 171 17 := ⟨_, rfl⟩
        have ey311 : (pj_fi G301 171 17).toInt = y311.toInt := by rw [hy311]
        have ry311 : (0 : Int) ≤ y311.toInt ∧ y311.toInt ≤ 80 := by rw [hy311]; exact iG301.2.1 171 17 (0, 80) rfl
        obtain ⟨y312, hy312⟩ : ∃ z : Int32, z = pj_fi G301 171 18 := ⟨_, rfl⟩
        have ey312 : (pj_fi G301 171 18).toInt = y312.toInt := by rw [hy312]
        have ry312 : (0 : Int) ≤ y312.toInt ∧ y312.toInt ≤ 80 := by rw [hy312]; exact iG301.2.1 171 18 (0, 80) rfl
        obtain ⟨y313, hy313⟩ : ∃ z : Int32, z = pj_fi G301 171 16 := ⟨_, rfl⟩
        have ey313 : (pj_fi G301 171 16).toInt = y313.toInt := by rw [hy313]
        have ry313 : (0 : Int) ≤ y313.toInt ∧ y313.toInt ≤ 80 := by rw [hy313]; exact iG301.2.1 171 16 (0, 80) rfl
        show pj_X _ _ G301 104 [(0, .ref 171), (1, .int v1), (2, .int v2), (3, .int v3), (4, .int v4), (5, .int v5)] [.int y300] _
        cases b314 : pj_c1 .eq y300 0 with
        | true =>
          have ub314 := pj_u0_eqT b314
          refine pj_X_of (fun r h => pj_R_ifT 113 rfl rfl b314 h) ?_
          refine pj_X_of (fun r h => pj_R_to (G301, 115, [(0, .ref 171), (1, .int v1), (2, .int v2), (3, .int v3), (4, .int v4), (5, .int v5)], [.int (Int32.ofInt 0), .ref 171], 0, 0) 115 3 (fun _ => rfl) h) ?_
          refine pj_X_of (fun r h => pj_T_pf iG301 rfl rfl rfl h) ?_
          show pj_X _ _ (pj_wv G301 171 1 (.int (Int32.ofInt 0))) 118 [(0, .ref 171), (1, .int v1), (2, .int v2), (3, .int v3), (4, .int v4), (5, .int v5)] [] _
          obtain ⟨G315, hG315⟩ : ∃ H, H = pj_wv G301 171 1 (.int (Int32.ofInt 0)) := ⟨_, rfl⟩
          have iG315 : pj_Inv G315 := by rw [hG315]; exact pj_Inv_wi iG301 (ci := 12) rfl (fun q hq => by cases hq; exact ⟨by show (0 : Int) ≤ _; omega, by show _ ≤ (24 : Int); omega⟩)
          have kG315 : pj_kpt kc_231t G0 G315 := by rw [hG315]; exact pj_kpt_v kG301 rfl
          rw [← hG315]
          refine pj_X_of (fun r h => pj_R_to (G315, 122, [(0, .ref 171), (1, .int v1), (2, .int v2), (3, .int v3), (4, .int v4), (5, .int v5)], [.ref 171, .int v5, .ref 171], 0, 0) 122 4 (fun _ => rfl) h) ?_
          refine pj_X_of (fun r h => pj_T_gi iG315 rfl rfl h) ?_
          show pj_X _ _ G315 125 [(0, .ref 171), (1, .int v1), (2, .int v2), (3, .int v3), (4, .int v4), (5, .int v5)] [.int (pj_fi G315 171 39), .int v5, .ref 171] _
          refine pj_X_eqi (show pj_fi G315 171 39 = y310 from by rw [hG315, pj_fi_wv_ne _ _ _ _ _ _ (by decide)]; exact hy310.symm) ?_
          cases b316 : pj_c1 .ge v5 y310 with
          | true =>
            have ub316 := pj_u_geT b316
            refine pj_X_of (fun r h => pj_R_icT 132 rfl rfl b316 h) ?_
            refine pj_X_of (fun r h => pj_R_to (G315, 133, [(0, .ref 171), (1, .int v1), (2, .int v2), (3, .int v3), (4, .int v4), (5, .int v5)], [.int (Int32.ofInt 0), .ref 171], 0, 0) 133 2 (fun _ => rfl) h) ?_
            have q317 : (pj_fi G315 171 30).toInt = y308.toInt := by rw [show pj_fi G315 171 30 = y308 from by rw [hG315, pj_fi_wv_ne _ _ _ _ _ _ (by decide)]; exact hy308.symm]
            have q318 : (pj_fi G315 171 1).toInt = (Int32.ofInt 0).toInt := by rw [show pj_fi G315 171 1 = Int32.ofInt 0 from by rw [hG315]; exact pj_fi_wi iG301.1 (ci := 12) rfl _]
            have q319 : (pj_fi G315 171 39).toInt = y310.toInt := by rw [show pj_fi G315 171 39 = y310 from by rw [hG315, pj_fi_wv_ne _ _ _ _ _ _ (by decide)]; exact hy310.symm]
            have q320 : (pj_fi G315 171 17).toInt = y311.toInt := by rw [show pj_fi G315 171 17 = y311 from by rw [hG315, pj_fi_wv_ne _ _ _ _ _ _ (by decide)]; exact hy311.symm]
            have q321 : (pj_fi G315 171 18).toInt = y312.toInt := by rw [show pj_fi G315 171 18 = y312 from by rw [hG315, pj_fi_wv_ne _ _ _ _ _ _ (by decide)]; exact hy312.symm]
            have q322 : (pj_fi G315 171 16).toInt = y313.toInt := by rw [show pj_fi G315 171 16 = y313 from by rw [hG315, pj_fi_wv_ne _ _ _ _ _ _ (by decide)]; exact hy313.symm]
            refine pj_X_ca (vs := [.int (Int32.ofInt 0)]) rfl (fun _ => rfl) ⟨Nat.le_of_ble_eq_true rfl, Nat.le_of_ble_eq_true rfl, rfl⟩ ⟨rfl, rfl⟩ (pj_Y_up (by decide) (ct_172x G315 iG315 (Int32.ofInt 0) ⟨by omega, by omega⟩)) ?_
            rintro _ _ ⟨y323, rfl, rfl, ry323, ey323, fy323⟩
            show pj_X _ _ G315 136 [(0, .ref 171), (1, .int v1), (2, .int v2), (3, .int v3), (4, .int v4), (5, .int v5)] [.int y323, .ref 171] _
            refine pj_X_of (fun r h => pj_R_to (G315, 137, [(0, .ref 171), (1, .int v1), (2, .int v2), (3, .int v3), (4, .int v4), (5, .int v5)], [.long y323.toInt64, .ref 171], 0, 0) 137 2 (fun _ => rfl) h) ?_
            have q324 : (pj_fi G315 171 30).toInt = y308.toInt := by rw [show pj_fi G315 171 30 = y308 from by rw [hG315, pj_fi_wv_ne _ _ _ _ _ _ (by decide)]; exact hy308.symm]
            have q325 : (pj_fi G315 171 1).toInt = (Int32.ofInt 0).toInt := by rw [show pj_fi G315 171 1 = Int32.ofInt 0 from by rw [hG315]; exact pj_fi_wi iG301.1 (ci := 12) rfl _]
            have q326 : (pj_fi G315 171 39).toInt = y310.toInt := by rw [show pj_fi G315 171 39 = y310 from by rw [hG315, pj_fi_wv_ne _ _ _ _ _ _ (by decide)]; exact hy310.symm]
            have q327 : (pj_fi G315 171 17).toInt = y311.toInt := by rw [show pj_fi G315 171 17 = y311 from by rw [hG315, pj_fi_wv_ne _ _ _ _ _ _ (by decide)]; exact hy311.symm]
            have q328 : (pj_fi G315 171 18).toInt = y312.toInt := by rw [show pj_fi G315 171 18 = y312 from by rw [hG315, pj_fi_wv_ne _ _ _ _ _ _ (by decide)]; exact hy312.symm]
            have q329 : (pj_fi G315 171 16).toInt = y313.toInt := by rw [show pj_fi G315 171 16 = y313 from by rw [hG315, pj_fi_wv_ne _ _ _ _ _ _ (by decide)]; exact hy313.symm]
            have lc330 : (y323.toInt64).toInt = y323.toInt := Int32.toInt_toInt64 _
            refine pj_X_ca (vs := [.ref 171, .long y323.toInt64]) rfl (fun _ => rfl) ⟨Nat.le_of_ble_eq_true rfl, Nat.le_of_ble_eq_true rfl, pj_T_rcv iG315 rfl⟩ ⟨rfl, rfl⟩ (pj_Y_up (by decide) (ct_174fx G315 iG315 y323.toInt64 (by omega))) ?_
            rintro _ G332 ⟨rfl, iG332, jG332, eG332, fy331⟩
            replace eG332 := eG332 _ rfl
            have kG332 : pj_kpt kc_231t G0 G332 := pj_kpt_t kG315 (pj_kpt_s jG332 rfl)
            have q333 : (pj_fi G332 171 30).toInt = (pj_fi G315 171 30).toInt := by rw [jG332.1 (171, 30) (by decide)]
            have q334 : (pj_fi G332 171 39).toInt = (pj_fi G315 171 39).toInt := by rw [jG332.1 (171, 39) (by decide)]
            have q335 : (pj_fi G332 171 17).toInt = (pj_fi G315 171 17).toInt := by rw [jG332.1 (171, 17) (by decide)]
            have q336 : (pj_fi G332 171 18).toInt = (pj_fi G315 171 18).toInt := by rw [jG332.1 (171, 18) (by decide)]
            have q337 : (pj_fi G332 171 16).toInt = (pj_fi G315 171 16).toInt := by rw [jG332.1 (171, 16) (by decide)]
            obtain ⟨y338, hy338⟩ : ∃ z : Int32, z = pj_fi G332 171 30 := ⟨_, rfl⟩
            have ey338 : (pj_fi G332 171 30).toInt = y338.toInt := by rw [hy338]
            have ry338 : (0 : Int) ≤ y338.toInt ∧ y338.toInt ≤ 16 := by rw [hy338]; exact iG332.2.1 171 30 (0, 16) rfl
            obtain ⟨y339, hy339⟩ : ∃ z : Int32, z = pj_fi G332 171 1 := ⟨_, rfl⟩
            have ey339 : (pj_fi G332 171 1).toInt = y339.toInt := by rw [hy339]
            have ry339 : (0 : Int) ≤ y339.toInt ∧ y339.toInt ≤ 24 := by rw [hy339]; exact iG332.2.1 171 1 (0, 24) rfl
            obtain ⟨y340, hy340⟩ : ∃ z : Int32, z = pj_fi G332 171 39 := ⟨_, rfl⟩
            have ey340 : (pj_fi G332 171 39).toInt = y340.toInt := by rw [hy340]
            have ry340 : (0 : Int) ≤ y340.toInt ∧ y340.toInt ≤ 60 := by rw [hy340]; exact iG332.2.1 171 39 (0, 60) rfl
            obtain ⟨y341, hy341⟩ : ∃ z : Int32, z = pj_fi G332 171 17 := ⟨_, rfl⟩
            have ey341 : (pj_fi G332 171 17).toInt = y341.toInt := by rw [hy341]
            have ry341 : (0 : Int) ≤ y341.toInt ∧ y341.toInt ≤ 80 := by rw [hy341]; exact iG332.2.1 171 17 (0, 80) rfl
            obtain ⟨y342, hy342⟩ : ∃ z : Int32, z = pj_fi G332 171 18 := ⟨_, rfl⟩
            have ey342 : (pj_fi G332 171 18).toInt = y342.toInt := by rw [hy342]
            have ry342 : (0 : Int) ≤ y342.toInt ∧ y342.toInt ≤ 80 := by rw [hy342]; exact iG332.2.1 171 18 (0, 80) rfl
            obtain ⟨y343, hy343⟩ : ∃ z : Int32, z = pj_fi G332 171 16 := ⟨_, rfl⟩
            have ey343 : (pj_fi G332 171 16).toInt = y343.toInt := by rw [hy343]
            have ry343 : (0 : Int) ≤ y343.toInt ∧ y343.toInt ≤ 80 := by rw [hy343]; exact iG332.2.1 171 16 (0, 80) rfl
            show pj_X _ _ G332 140 [(0, .ref 171), (1, .int v1), (2, .int v2), (3, .int v3), (4, .int v4), (5, .int v5)] [] _
            refine pj_X_of (fun r h => pj_R_to (G332, 142, [(0, .ref 171), (1, .int v1), (2, .int v2), (3, .int v3), (4, .int v4), (5, .int v5)], [.ref 171, .ref 171], 0, 0) 142 3 (fun _ => rfl) h) ?_
            refine pj_X_of (fun r h => pj_T_gi iG332 rfl rfl h) ?_
            show pj_X _ _ G332 145 [(0, .ref 171), (1, .int v1), (2, .int v2), (3, .int v3), (4, .int v4), (5, .int v5)] [.int (pj_fi G332 171 35), .ref 171] _
            obtain ⟨y344, hy344⟩ : ∃ z : Int32, z = pj_fi G332 171 35 := ⟨_, rfl⟩
            refine pj_X_eqi hy344.symm ?_
            have ey344 : (pj_fi G332 171 35).toInt = y344.toInt := by rw [hy344]
            refine pj_X_of (fun r h => pj_R_to (G332, 146, [(0, .ref 171), (1, .int v1), (2, .int v2), (3, .int v3), (4, .int v4), (5, .int v5)], [.long y344.toInt64, .ref 171], 0, 0) 146 2 (fun _ => rfl) h) ?_
            have q345 : (pj_fi G332 171 30).toInt = y338.toInt := by rw [show pj_fi G332 171 30 = y338 from hy338.symm]
            have q346 : (pj_fi G332 171 1).toInt = y339.toInt := by rw [show pj_fi G332 171 1 = y339 from hy339.symm]
            have q347 : (pj_fi G332 171 39).toInt = y340.toInt := by rw [show pj_fi G332 171 39 = y340 from hy340.symm]
            have q348 : (pj_fi G332 171 17).toInt = y341.toInt := by rw [show pj_fi G332 171 17 = y341 from hy341.symm]
            have q349 : (pj_fi G332 171 18).toInt = y342.toInt := by rw [show pj_fi G332 171 18 = y342 from hy342.symm]
            have q350 : (pj_fi G332 171 16).toInt = y343.toInt := by rw [show pj_fi G332 171 16 = y343 from hy343.symm]
            have lc351 : (y344.toInt64).toInt = y344.toInt := Int32.toInt_toInt64 _
            refine pj_X_ca (vs := [.ref 171, .long y344.toInt64]) rfl (fun _ => rfl) ⟨Nat.le_of_ble_eq_true rfl, Nat.le_of_ble_eq_true rfl, pj_T_rcv iG332 rfl⟩ ⟨rfl, rfl⟩ (pj_Y_up (by decide) (ct_174fx G332 iG332 y344.toInt64 (by omega))) ?_
            rintro _ G353 ⟨rfl, iG353, jG353, eG353, fy352⟩
            replace eG353 := eG353 _ rfl
            have kG353 : pj_kpt kc_231t G0 G353 := pj_kpt_t kG332 (pj_kpt_s jG353 rfl)
            have q354 : (pj_fi G353 171 30).toInt = (pj_fi G332 171 30).toInt := by rw [jG353.1 (171, 30) (by decide)]
            have q355 : (pj_fi G353 171 39).toInt = (pj_fi G332 171 39).toInt := by rw [jG353.1 (171, 39) (by decide)]
            have q356 : (pj_fi G353 171 17).toInt = (pj_fi G332 171 17).toInt := by rw [jG353.1 (171, 17) (by decide)]
            have q357 : (pj_fi G353 171 18).toInt = (pj_fi G332 171 18).toInt := by rw [jG353.1 (171, 18) (by decide)]
            have q358 : (pj_fi G353 171 16).toInt = (pj_fi G332 171 16).toInt := by rw [jG353.1 (171, 16) (by decide)]
            obtain ⟨y359, hy359⟩ : ∃ z : Int32, z = pj_fi G353 171 30 := ⟨_, rfl⟩
            have ey359 : (pj_fi G353 171 30).toInt = y359.toInt := by rw [hy359]
            have ry359 : (0 : Int) ≤ y359.toInt ∧ y359.toInt ≤ 16 := by rw [hy359]; exact iG353.2.1 171 30 (0, 16) rfl
            obtain ⟨y360, hy360⟩ : ∃ z : Int32, z = pj_fi G353 171 1 := ⟨_, rfl⟩
            have ey360 : (pj_fi G353 171 1).toInt = y360.toInt := by rw [hy360]
            have ry360 : (0 : Int) ≤ y360.toInt ∧ y360.toInt ≤ 24 := by rw [hy360]; exact iG353.2.1 171 1 (0, 24) rfl
            obtain ⟨y361, hy361⟩ : ∃ z : Int32, z = pj_fi G353 171 39 := ⟨_, rfl⟩
            have ey361 : (pj_fi G353 171 39).toInt = y361.toInt := by rw [hy361]
            have ry361 : (0 : Int) ≤ y361.toInt ∧ y361.toInt ≤ 60 := by rw [hy361]; exact iG353.2.1 171 39 (0, 60) rfl
            obtain ⟨y362, hy362⟩ : ∃ z : Int32, z = pj_fi G353 171 17 := ⟨_, rfl⟩
            have ey362 : (pj_fi G353 171 17).toInt = y362.toInt := by rw [hy362]
            have ry362 : (0 : Int) ≤ y362.toInt ∧ y362.toInt ≤ 80 := by rw [hy362]; exact iG353.2.1 171 17 (0, 80) rfl
            obtain ⟨y363, hy363⟩ : ∃ z : Int32, z = pj_fi G353 171 18 := ⟨_, rfl⟩
            have ey363 : (pj_fi G353 171 18).toInt = y363.toInt := by rw [hy363]
            have ry363 : (0 : Int) ≤ y363.toInt ∧ y363.toInt ≤ 80 := by rw [hy363]; exact iG353.2.1 171 18 (0, 80) rfl
            obtain ⟨y364, hy364⟩ : ∃ z : Int32, z = pj_fi G353 171 16 := ⟨_, rfl⟩
            have ey364 : (pj_fi G353 171 16).toInt = y364.toInt := by rw [hy364]
            have ry364 : (0 : Int) ≤ y364.toInt ∧ y364.toInt ≤ 80 := by rw [hy364]; exact iG353.2.1 171 16 (0, 80) rfl
            show pj_X _ _ G353 149 [(0, .ref 171), (1, .int v1), (2, .int v2), (3, .int v3), (4, .int v4), (5, .int v5)] [] _
            refine pj_X_of (fun r h => pj_R_to (G353, 151, [(0, .ref 171), (1, .int v1), (2, .int v2), (3, .int v3), (4, .int v4), (5, .int v5)], [.int v5], 0, 0) 151 2 (fun _ => rfl) h) ?_
            cases b365 : pj_c1 .le v5 0 with
            | true =>
              have ub365 := pj_u0_leT b365
              refine pj_X_of (fun r h => pj_R_ifT 163 rfl rfl b365 h) ?_
              refine pj_X_of (fun r h => pj_R_to (G353, 164, [(0, .ref 171), (1, .int v1), (2, .int v2), (3, .int v3), (4, .int v4), (5, .int v5)], [.int (Int32.ofInt 0)], 0, 0) 164 2 (fun _ => rfl) h) ?_
              have q366 : (pj_fi G353 171 30).toInt = y359.toInt := by rw [show pj_fi G353 171 30 = y359 from hy359.symm]
              have q367 : (pj_fi G353 171 1).toInt = y360.toInt := by rw [show pj_fi G353 171 1 = y360 from hy360.symm]
              have q368 : (pj_fi G353 171 39).toInt = y361.toInt := by rw [show pj_fi G353 171 39 = y361 from hy361.symm]
              have q369 : (pj_fi G353 171 17).toInt = y362.toInt := by rw [show pj_fi G353 171 17 = y362 from hy362.symm]
              have q370 : (pj_fi G353 171 18).toInt = y363.toInt := by rw [show pj_fi G353 171 18 = y363 from hy363.symm]
              have q371 : (pj_fi G353 171 16).toInt = y364.toInt := by rw [show pj_fi G353 171 16 = y364 from hy364.symm]
              exact pj_X_rt rfl rfl ⟨_, rfl, iG353, kG353, pj_i32 _, by omega⟩
            | false =>
              have ub365 := pj_u0_leF b365
              refine pj_X_of (fun r h => pj_R_ifF rfl b365 h) ?_
              refine pj_X_of (fun r h => pj_R_to (G353, 157, [(0, .ref 171), (1, .int v1), (2, .int v2), (3, .int v3), (4, .int v4), (5, .int v5)], [.int v5, .ref 171], 0, 0) 157 3 (fun _ => rfl) h) ?_
              have q372 : (pj_fi G353 171 30).toInt = y359.toInt := by rw [show pj_fi G353 171 30 = y359 from hy359.symm]
              have q373 : (pj_fi G353 171 1).toInt = y360.toInt := by rw [show pj_fi G353 171 1 = y360 from hy360.symm]
              have q374 : (pj_fi G353 171 39).toInt = y361.toInt := by rw [show pj_fi G353 171 39 = y361 from hy361.symm]
              have q375 : (pj_fi G353 171 17).toInt = y362.toInt := by rw [show pj_fi G353 171 17 = y362 from hy362.symm]
              have q376 : (pj_fi G353 171 18).toInt = y363.toInt := by rw [show pj_fi G353 171 18 = y363 from hy363.symm]
              have q377 : (pj_fi G353 171 16).toInt = y364.toInt := by rw [show pj_fi G353 171 16 = y364 from hy364.symm]
              refine pj_X_ca (vs := [.ref 171, .int v5]) rfl (fun _ => rfl) ⟨Nat.le_of_ble_eq_true rfl, Nat.le_of_ble_eq_true rfl, pj_T_rcv iG353 rfl⟩ ⟨rfl, rfl⟩ (pj_Y_up (by decide) (ct_215x G353 iG353 v5 (by omega))) ?_
              rintro _ G379 ⟨y378, rfl, iG379, jG379, ry378, ey378, fy378⟩
              have kG379 : pj_kpt kc_231t G0 G379 := pj_kpt_t kG353 (pj_kpt_s jG379 rfl)
              have q380 : (pj_fi G379 171 1).toInt = (pj_fi G353 171 1).toInt := by rw [jG379.1 (171, 1) (by decide)]
              have q381 : (pj_fi G379 171 39).toInt = (pj_fi G353 171 39).toInt := by rw [jG379.1 (171, 39) (by decide)]
              have q382 : (pj_fi G379 171 17).toInt = (pj_fi G353 171 17).toInt := by rw [jG379.1 (171, 17) (by decide)]
              have q383 : (pj_fi G379 171 18).toInt = (pj_fi G353 171 18).toInt := by rw [jG379.1 (171, 18) (by decide)]
              have q384 : (pj_fi G379 171 16).toInt = (pj_fi G353 171 16).toInt := by rw [jG379.1 (171, 16) (by decide)]
              obtain ⟨y385, hy385⟩ : ∃ z : Int32, z = pj_fi G379 171 30 := ⟨_, rfl⟩
              have ey385 : (pj_fi G379 171 30).toInt = y385.toInt := by rw [hy385]
              have ry385 : (0 : Int) ≤ y385.toInt ∧ y385.toInt ≤ 16 := by rw [hy385]; exact iG379.2.1 171 30 (0, 16) rfl
              obtain ⟨y386, hy386⟩ : ∃ z : Int32, z = pj_fi G379 171 1 := ⟨_, rfl⟩
              have ey386 : (pj_fi G379 171 1).toInt = y386.toInt := by rw [hy386]
              have ry386 : (0 : Int) ≤ y386.toInt ∧ y386.toInt ≤ 24 := by rw [hy386]; exact iG379.2.1 171 1 (0, 24) rfl
              obtain ⟨y387, hy387⟩ : ∃ z : Int32, z = pj_fi G379 171 39 := ⟨_, rfl⟩
              have ey387 : (pj_fi G379 171 39).toInt = y387.toInt := by rw [hy387]
              have ry387 : (0 : Int) ≤ y387.toInt ∧ y387.toInt ≤ 60 := by rw [hy387]; exact iG379.2.1 171 39 (0, 60) rfl
              obtain ⟨y388, hy388⟩ : ∃ z : Int32, z = pj_fi G379 171 17 := ⟨_, rfl⟩
              have ey388 : (pj_fi G379 171 17).toInt = y388.toInt := by rw [hy388]
              have ry388 : (0 : Int) ≤ y388.toInt ∧ y388.toInt ≤ 80 := by rw [hy388]; exact iG379.2.1 171 17 (0, 80) rfl
              obtain ⟨y389, hy389⟩ : ∃ z : Int32, z = pj_fi G379 171 18 := ⟨_, rfl⟩
              have ey389 : (pj_fi G379 171 18).toInt = y389.toInt := by rw [hy389]
              have ry389 : (0 : Int) ≤ y389.toInt ∧ y389.toInt ≤ 80 := by rw [hy389]; exact iG379.2.1 171 18 (0, 80) rfl
              obtain ⟨y390, hy390⟩ : ∃ z : Int32, z = pj_fi G379 171 16 := ⟨_, rfl⟩
              have ey390 : (pj_fi G379 171 16).toInt = y390.toInt := by rw [hy390]
              have ry390 : (0 : Int) ≤ y390.toInt ∧ y390.toInt ≤ 80 := by rw [hy390]; exact iG379.2.1 171 16 (0, 80) rfl
              show pj_X _ _ G379 160 [(0, .ref 171), (1, .int v1), (2, .int v2), (3, .int v3), (4, .int v4), (5, .int v5)] [.int y378] _
              refine pj_X_of (fun r h => pj_R_to (G379, 164, [(0, .ref 171), (1, .int v1), (2, .int v2), (3, .int v3), (4, .int v4), (5, .int v5)], [.int y378], 0, 0) 164 2 (fun _ => rfl) h) ?_
              have q391 : (pj_fi G379 171 30).toInt = y385.toInt := by rw [show pj_fi G379 171 30 = y385 from hy385.symm]
              have q392 : (pj_fi G379 171 1).toInt = y386.toInt := by rw [show pj_fi G379 171 1 = y386 from hy386.symm]
              have q393 : (pj_fi G379 171 39).toInt = y387.toInt := by rw [show pj_fi G379 171 39 = y387 from hy387.symm]
              have q394 : (pj_fi G379 171 17).toInt = y388.toInt := by rw [show pj_fi G379 171 17 = y388 from hy388.symm]
              have q395 : (pj_fi G379 171 18).toInt = y389.toInt := by rw [show pj_fi G379 171 18 = y389 from hy389.symm]
              have q396 : (pj_fi G379 171 16).toInt = y390.toInt := by rw [show pj_fi G379 171 16 = y390 from hy390.symm]
              exact pj_X_rt rfl rfl ⟨_, rfl, iG379, kG379, pj_i32 _, by omega⟩
          | false =>
            have ub316 := pj_u_geF b316
            refine pj_X_of (fun r h => pj_R_icF rfl b316 h) ?_
            refine pj_X_of (fun r h => pj_R_to (G315, 133, [(0, .ref 171), (1, .int v1), (2, .int v2), (3, .int v3), (4, .int v4), (5, .int v5)], [.int (Int32.ofInt 1), .ref 171], 0, 0) 133 3 (fun _ => rfl) h) ?_
            have q397 : (pj_fi G315 171 30).toInt = y308.toInt := by rw [show pj_fi G315 171 30 = y308 from by rw [hG315, pj_fi_wv_ne _ _ _ _ _ _ (by decide)]; exact hy308.symm]
            have q398 : (pj_fi G315 171 1).toInt = (Int32.ofInt 0).toInt := by rw [show pj_fi G315 171 1 = Int32.ofInt 0 from by rw [hG315]; exact pj_fi_wi iG301.1 (ci := 12) rfl _]
            have q399 : (pj_fi G315 171 39).toInt = y310.toInt := by rw [show pj_fi G315 171 39 = y310 from by rw [hG315, pj_fi_wv_ne _ _ _ _ _ _ (by decide)]; exact hy310.symm]
            have q400 : (pj_fi G315 171 17).toInt = y311.toInt := by rw [show pj_fi G315 171 17 = y311 from by rw [hG315, pj_fi_wv_ne _ _ _ _ _ _ (by decide)]; exact hy311.symm]
            have q401 : (pj_fi G315 171 18).toInt = y312.toInt := by rw [show pj_fi G315 171 18 = y312 from by rw [hG315, pj_fi_wv_ne _ _ _ _ _ _ (by decide)]; exact hy312.symm]
            have q402 : (pj_fi G315 171 16).toInt = y313.toInt := by rw [show pj_fi G315 171 16 = y313 from by rw [hG315, pj_fi_wv_ne _ _ _ _ _ _ (by decide)]; exact hy313.symm]
            refine pj_X_ca (vs := [.int (Int32.ofInt 1)]) rfl (fun _ => rfl) ⟨Nat.le_of_ble_eq_true rfl, Nat.le_of_ble_eq_true rfl, rfl⟩ ⟨rfl, rfl⟩ (pj_Y_up (by decide) (ct_172x G315 iG315 (Int32.ofInt 1) ⟨by omega, by omega⟩)) ?_
            rintro _ _ ⟨y403, rfl, rfl, ry403, ey403, fy403⟩
            show pj_X _ _ G315 136 [(0, .ref 171), (1, .int v1), (2, .int v2), (3, .int v3), (4, .int v4), (5, .int v5)] [.int y403, .ref 171] _
            refine pj_X_of (fun r h => pj_R_to (G315, 137, [(0, .ref 171), (1, .int v1), (2, .int v2), (3, .int v3), (4, .int v4), (5, .int v5)], [.long y403.toInt64, .ref 171], 0, 0) 137 2 (fun _ => rfl) h) ?_
            have q404 : (pj_fi G315 171 30).toInt = y308.toInt := by rw [show pj_fi G315 171 30 = y308 from by rw [hG315, pj_fi_wv_ne _ _ _ _ _ _ (by decide)]; exact hy308.symm]
            have q405 : (pj_fi G315 171 1).toInt = (Int32.ofInt 0).toInt := by rw [show pj_fi G315 171 1 = Int32.ofInt 0 from by rw [hG315]; exact pj_fi_wi iG301.1 (ci := 12) rfl _]
            have q406 : (pj_fi G315 171 39).toInt = y310.toInt := by rw [show pj_fi G315 171 39 = y310 from by rw [hG315, pj_fi_wv_ne _ _ _ _ _ _ (by decide)]; exact hy310.symm]
            have q407 : (pj_fi G315 171 17).toInt = y311.toInt := by rw [show pj_fi G315 171 17 = y311 from by rw [hG315, pj_fi_wv_ne _ _ _ _ _ _ (by decide)]; exact hy311.symm]
            have q408 : (pj_fi G315 171 18).toInt = y312.toInt := by rw [show pj_fi G315 171 18 = y312 from by rw [hG315, pj_fi_wv_ne _ _ _ _ _ _ (by decide)]; exact hy312.symm]
            have q409 : (pj_fi G315 171 16).toInt = y313.toInt := by rw [show pj_fi G315 171 16 = y313 from by rw [hG315, pj_fi_wv_ne _ _ _ _ _ _ (by decide)]; exact hy313.symm]
            have lc410 : (y403.toInt64).toInt = y403.toInt := Int32.toInt_toInt64 _
            refine pj_X_ca (vs := [.ref 171, .long y403.toInt64]) rfl (fun _ => rfl) ⟨Nat.le_of_ble_eq_true rfl, Nat.le_of_ble_eq_true rfl, pj_T_rcv iG315 rfl⟩ ⟨rfl, rfl⟩ (pj_Y_up (by decide) (ct_174fx G315 iG315 y403.toInt64 (by omega))) ?_
            rintro _ G412 ⟨rfl, iG412, jG412, eG412, fy411⟩
            replace eG412 := eG412 _ rfl
            have kG412 : pj_kpt kc_231t G0 G412 := pj_kpt_t kG315 (pj_kpt_s jG412 rfl)
            have q413 : (pj_fi G412 171 30).toInt = (pj_fi G315 171 30).toInt := by rw [jG412.1 (171, 30) (by decide)]
            have q414 : (pj_fi G412 171 39).toInt = (pj_fi G315 171 39).toInt := by rw [jG412.1 (171, 39) (by decide)]
            have q415 : (pj_fi G412 171 17).toInt = (pj_fi G315 171 17).toInt := by rw [jG412.1 (171, 17) (by decide)]
            have q416 : (pj_fi G412 171 18).toInt = (pj_fi G315 171 18).toInt := by rw [jG412.1 (171, 18) (by decide)]
            have q417 : (pj_fi G412 171 16).toInt = (pj_fi G315 171 16).toInt := by rw [jG412.1 (171, 16) (by decide)]
            obtain ⟨y418, hy418⟩ : ∃ z : Int32, z = pj_fi G412 171 30 := ⟨_, rfl⟩
            have ey418 : (pj_fi G412 171 30).toInt = y418.toInt := by rw [hy418]
            have ry418 : (0 : Int) ≤ y418.toInt ∧ y418.toInt ≤ 16 := by rw [hy418]; exact iG412.2.1 171 30 (0, 16) rfl
            obtain ⟨y419, hy419⟩ : ∃ z : Int32, z = pj_fi G412 171 1 := ⟨_, rfl⟩
            have ey419 : (pj_fi G412 171 1).toInt = y419.toInt := by rw [hy419]
            have ry419 : (0 : Int) ≤ y419.toInt ∧ y419.toInt ≤ 24 := by rw [hy419]; exact iG412.2.1 171 1 (0, 24) rfl
            obtain ⟨y420, hy420⟩ : ∃ z : Int32, z = pj_fi G412 171 39 := ⟨_, rfl⟩
            have ey420 : (pj_fi G412 171 39).toInt = y420.toInt := by rw [hy420]
            have ry420 : (0 : Int) ≤ y420.toInt ∧ y420.toInt ≤ 60 := by rw [hy420]; exact iG412.2.1 171 39 (0, 60) rfl
            obtain ⟨y421, hy421⟩ : ∃ z : Int32, z = pj_fi G412 171 17 := ⟨_, rfl⟩
            have ey421 : (pj_fi G412 171 17).toInt = y421.toInt := by rw [hy421]
            have ry421 : (0 : Int) ≤ y421.toInt ∧ y421.toInt ≤ 80 := by rw [hy421]; exact iG412.2.1 171 17 (0, 80) rfl
            obtain ⟨y422, hy422⟩ : ∃ z : Int32, z = pj_fi G412 171 18 := ⟨_, rfl⟩
            have ey422 : (pj_fi G412 171 18).toInt = y422.toInt := by rw [hy422]
            have ry422 : (0 : Int) ≤ y422.toInt ∧ y422.toInt ≤ 80 := by rw [hy422]; exact iG412.2.1 171 18 (0, 80) rfl
            obtain ⟨y423, hy423⟩ : ∃ z : Int32, z = pj_fi G412 171 16 := ⟨_, rfl⟩
            have ey423 : (pj_fi G412 171 16).toInt = y423.toInt := by rw [hy423]
            have ry423 : (0 : Int) ≤ y423.toInt ∧ y423.toInt ≤ 80 := by rw [hy423]; exact iG412.2.1 171 16 (0, 80) rfl
            show pj_X _ _ G412 140 [(0, .ref 171), (1, .int v1), (2, .int v2), (3, .int v3), (4, .int v4), (5, .int v5)] [] _
            refine pj_X_of (fun r h => pj_R_to (G412, 142, [(0, .ref 171), (1, .int v1), (2, .int v2), (3, .int v3), (4, .int v4), (5, .int v5)], [.ref 171, .ref 171], 0, 0) 142 3 (fun _ => rfl) h) ?_
            refine pj_X_of (fun r h => pj_T_gi iG412 rfl rfl h) ?_
            show pj_X _ _ G412 145 [(0, .ref 171), (1, .int v1), (2, .int v2), (3, .int v3), (4, .int v4), (5, .int v5)] [.int (pj_fi G412 171 35), .ref 171] _
            obtain ⟨y424, hy424⟩ : ∃ z : Int32, z = pj_fi G412 171 35 := ⟨_, rfl⟩
            refine pj_X_eqi hy424.symm ?_
            have ey424 : (pj_fi G412 171 35).toInt = y424.toInt := by rw [hy424]
            refine pj_X_of (fun r h => pj_R_to (G412, 146, [(0, .ref 171), (1, .int v1), (2, .int v2), (3, .int v3), (4, .int v4), (5, .int v5)], [.long y424.toInt64, .ref 171], 0, 0) 146 2 (fun _ => rfl) h) ?_
            have q425 : (pj_fi G412 171 30).toInt = y418.toInt := by rw [show pj_fi G412 171 30 = y418 from hy418.symm]
            have q426 : (pj_fi G412 171 1).toInt = y419.toInt := by rw [show pj_fi G412 171 1 = y419 from hy419.symm]
            have q427 : (pj_fi G412 171 39).toInt = y420.toInt := by rw [show pj_fi G412 171 39 = y420 from hy420.symm]
            have q428 : (pj_fi G412 171 17).toInt = y421.toInt := by rw [show pj_fi G412 171 17 = y421 from hy421.symm]
            have q429 : (pj_fi G412 171 18).toInt = y422.toInt := by rw [show pj_fi G412 171 18 = y422 from hy422.symm]
            have q430 : (pj_fi G412 171 16).toInt = y423.toInt := by rw [show pj_fi G412 171 16 = y423 from hy423.symm]
            have lc431 : (y424.toInt64).toInt = y424.toInt := Int32.toInt_toInt64 _
            refine pj_X_ca (vs := [.ref 171, .long y424.toInt64]) rfl (fun _ => rfl) ⟨Nat.le_of_ble_eq_true rfl, Nat.le_of_ble_eq_true rfl, pj_T_rcv iG412 rfl⟩ ⟨rfl, rfl⟩ (pj_Y_up (by decide) (ct_174fx G412 iG412 y424.toInt64 (by omega))) ?_
            rintro _ G433 ⟨rfl, iG433, jG433, eG433, fy432⟩
            replace eG433 := eG433 _ rfl
            have kG433 : pj_kpt kc_231t G0 G433 := pj_kpt_t kG412 (pj_kpt_s jG433 rfl)
            have q434 : (pj_fi G433 171 30).toInt = (pj_fi G412 171 30).toInt := by rw [jG433.1 (171, 30) (by decide)]
            have q435 : (pj_fi G433 171 39).toInt = (pj_fi G412 171 39).toInt := by rw [jG433.1 (171, 39) (by decide)]
            have q436 : (pj_fi G433 171 17).toInt = (pj_fi G412 171 17).toInt := by rw [jG433.1 (171, 17) (by decide)]
            have q437 : (pj_fi G433 171 18).toInt = (pj_fi G412 171 18).toInt := by rw [jG433.1 (171, 18) (by decide)]
            have q438 : (pj_fi G433 171 16).toInt = (pj_fi G412 171 16).toInt := by rw [jG433.1 (171, 16) (by decide)]
            obtain ⟨y439, hy439⟩ : ∃ z : Int32, z = pj_fi G433 171 30 := ⟨_, rfl⟩
            have ey439 : (pj_fi G433 171 30).toInt = y439.toInt := by rw [hy439]
            have ry439 : (0 : Int) ≤ y439.toInt ∧ y439.toInt ≤ 16 := by rw [hy439]; exact iG433.2.1 171 30 (0, 16) rfl
            obtain ⟨y440, hy440⟩ : ∃ z : Int32, z = pj_fi G433 171 1 := ⟨_, rfl⟩
            have ey440 : (pj_fi G433 171 1).toInt = y440.toInt := by rw [hy440]
            have ry440 : (0 : Int) ≤ y440.toInt ∧ y440.toInt ≤ 24 := by rw [hy440]; exact iG433.2.1 171 1 (0, 24) rfl
            obtain ⟨y441, hy441⟩ : ∃ z : Int32, z = pj_fi G433 171 39 := ⟨_, rfl⟩
            have ey441 : (pj_fi G433 171 39).toInt = y441.toInt := by rw [hy441]
            have ry441 : (0 : Int) ≤ y441.toInt ∧ y441.toInt ≤ 60 := by rw [hy441]; exact iG433.2.1 171 39 (0, 60) rfl
            obtain ⟨y442, hy442⟩ : ∃ z : Int32, z = pj_fi G433 171 17 := ⟨_, rfl⟩
            have ey442 : (pj_fi G433 171 17).toInt = y442.toInt := by rw [hy442]
            have ry442 : (0 : Int) ≤ y442.toInt ∧ y442.toInt ≤ 80 := by rw [hy442]; exact iG433.2.1 171 17 (0, 80) rfl
            obtain ⟨y443, hy443⟩ : ∃ z : Int32, z = pj_fi G433 171 18 := ⟨_, rfl⟩
            have ey443 : (pj_fi G433 171 18).toInt = y443.toInt := by rw [hy443]
            have ry443 : (0 : Int) ≤ y443.toInt ∧ y443.toInt ≤ 80 := by rw [hy443]; exact iG433.2.1 171 18 (0, 80) rfl
            obtain ⟨y444, hy444⟩ : ∃ z : Int32, z = pj_fi G433 171 16 := ⟨_, rfl⟩
            have ey444 : (pj_fi G433 171 16).toInt = y444.toInt := by rw [hy444]
            have ry444 : (0 : Int) ≤ y444.toInt ∧ y444.toInt ≤ 80 := by rw [hy444]; exact iG433.2.1 171 16 (0, 80) rfl
            show pj_X _ _ G433 149 [(0, .ref 171), (1, .int v1), (2, .int v2), (3, .int v3), (4, .int v4), (5, .int v5)] [] _
            refine pj_X_of (fun r h => pj_R_to (G433, 151, [(0, .ref 171), (1, .int v1), (2, .int v2), (3, .int v3), (4, .int v4), (5, .int v5)], [.int v5], 0, 0) 151 2 (fun _ => rfl) h) ?_
            cases b445 : pj_c1 .le v5 0 with
            | true =>
              have ub445 := pj_u0_leT b445
              refine pj_X_of (fun r h => pj_R_ifT 163 rfl rfl b445 h) ?_
              refine pj_X_of (fun r h => pj_R_to (G433, 164, [(0, .ref 171), (1, .int v1), (2, .int v2), (3, .int v3), (4, .int v4), (5, .int v5)], [.int (Int32.ofInt 0)], 0, 0) 164 2 (fun _ => rfl) h) ?_
              have q446 : (pj_fi G433 171 30).toInt = y439.toInt := by rw [show pj_fi G433 171 30 = y439 from hy439.symm]
              have q447 : (pj_fi G433 171 1).toInt = y440.toInt := by rw [show pj_fi G433 171 1 = y440 from hy440.symm]
              have q448 : (pj_fi G433 171 39).toInt = y441.toInt := by rw [show pj_fi G433 171 39 = y441 from hy441.symm]
              have q449 : (pj_fi G433 171 17).toInt = y442.toInt := by rw [show pj_fi G433 171 17 = y442 from hy442.symm]
              have q450 : (pj_fi G433 171 18).toInt = y443.toInt := by rw [show pj_fi G433 171 18 = y443 from hy443.symm]
              have q451 : (pj_fi G433 171 16).toInt = y444.toInt := by rw [show pj_fi G433 171 16 = y444 from hy444.symm]
              exact pj_X_rt rfl rfl ⟨_, rfl, iG433, kG433, pj_i32 _, by omega⟩
            | false =>
              have ub445 := pj_u0_leF b445
              refine pj_X_of (fun r h => pj_R_ifF rfl b445 h) ?_
              refine pj_X_of (fun r h => pj_R_to (G433, 157, [(0, .ref 171), (1, .int v1), (2, .int v2), (3, .int v3), (4, .int v4), (5, .int v5)], [.int v5, .ref 171], 0, 0) 157 3 (fun _ => rfl) h) ?_
              have q452 : (pj_fi G433 171 30).toInt = y439.toInt := by rw [show pj_fi G433 171 30 = y439 from hy439.symm]
              have q453 : (pj_fi G433 171 1).toInt = y440.toInt := by rw [show pj_fi G433 171 1 = y440 from hy440.symm]
              have q454 : (pj_fi G433 171 39).toInt = y441.toInt := by rw [show pj_fi G433 171 39 = y441 from hy441.symm]
              have q455 : (pj_fi G433 171 17).toInt = y442.toInt := by rw [show pj_fi G433 171 17 = y442 from hy442.symm]
              have q456 : (pj_fi G433 171 18).toInt = y443.toInt := by rw [show pj_fi G433 171 18 = y443 from hy443.symm]
              have q457 : (pj_fi G433 171 16).toInt = y444.toInt := by rw [show pj_fi G433 171 16 = y444 from hy444.symm]
              refine pj_X_ca (vs := [.ref 171, .int v5]) rfl (fun _ => rfl) ⟨Nat.le_of_ble_eq_true rfl, Nat.le_of_ble_eq_true rfl, pj_T_rcv iG433 rfl⟩ ⟨rfl, rfl⟩ (pj_Y_up (by decide) (ct_215x G433 iG433 v5 (by omega))) ?_
              rintro _ G459 ⟨y458, rfl, iG459, jG459, ry458, ey458, fy458⟩
              have kG459 : pj_kpt kc_231t G0 G459 := pj_kpt_t kG433 (pj_kpt_s jG459 rfl)
              have q460 : (pj_fi G459 171 1).toInt = (pj_fi G433 171 1).toInt := by rw [jG459.1 (171, 1) (by decide)]
              have q461 : (pj_fi G459 171 39).toInt = (pj_fi G433 171 39).toInt := by rw [jG459.1 (171, 39) (by decide)]
              have q462 : (pj_fi G459 171 17).toInt = (pj_fi G433 171 17).toInt := by rw [jG459.1 (171, 17) (by decide)]
              have q463 : (pj_fi G459 171 18).toInt = (pj_fi G433 171 18).toInt := by rw [jG459.1 (171, 18) (by decide)]
              have q464 : (pj_fi G459 171 16).toInt = (pj_fi G433 171 16).toInt := by rw [jG459.1 (171, 16) (by decide)]
              obtain ⟨y465, hy465⟩ : ∃ z : Int32, z = pj_fi G459 171 30 := ⟨_, rfl⟩
              have ey465 : (pj_fi G459 171 30).toInt = y465.toInt := by rw [hy465]
              have ry465 : (0 : Int) ≤ y465.toInt ∧ y465.toInt ≤ 16 := by rw [hy465]; exact iG459.2.1 171 30 (0, 16) rfl
              obtain ⟨y466, hy466⟩ : ∃ z : Int32, z = pj_fi G459 171 1 := ⟨_, rfl⟩
              have ey466 : (pj_fi G459 171 1).toInt = y466.toInt := by rw [hy466]
              have ry466 : (0 : Int) ≤ y466.toInt ∧ y466.toInt ≤ 24 := by rw [hy466]; exact iG459.2.1 171 1 (0, 24) rfl
              obtain ⟨y467, hy467⟩ : ∃ z : Int32, z = pj_fi G459 171 39 := ⟨_, rfl⟩
              have ey467 : (pj_fi G459 171 39).toInt = y467.toInt := by rw [hy467]
              have ry467 : (0 : Int) ≤ y467.toInt ∧ y467.toInt ≤ 60 := by rw [hy467]; exact iG459.2.1 171 39 (0, 60) rfl
              obtain ⟨y468, hy468⟩ : ∃ z : Int32, z = pj_fi G459 171 17 := ⟨_, rfl⟩
              have ey468 : (pj_fi G459 171 17).toInt = y468.toInt := by rw [hy468]
              have ry468 : (0 : Int) ≤ y468.toInt ∧ y468.toInt ≤ 80 := by rw [hy468]; exact iG459.2.1 171 17 (0, 80) rfl
              obtain ⟨y469, hy469⟩ : ∃ z : Int32, z = pj_fi G459 171 18 := ⟨_, rfl⟩
              have ey469 : (pj_fi G459 171 18).toInt = y469.toInt := by rw [hy469]
              have ry469 : (0 : Int) ≤ y469.toInt ∧ y469.toInt ≤ 80 := by rw [hy469]; exact iG459.2.1 171 18 (0, 80) rfl
              obtain ⟨y470, hy470⟩ : ∃ z : Int32, z = pj_fi G459 171 16 := ⟨_, rfl⟩
              have ey470 : (pj_fi G459 171 16).toInt = y470.toInt := by rw [hy470]
              have ry470 : (0 : Int) ≤ y470.toInt ∧ y470.toInt ≤ 80 := by rw [hy470]; exact iG459.2.1 171 16 (0, 80) rfl
              show pj_X _ _ G459 160 [(0, .ref 171), (1, .int v1), (2, .int v2), (3, .int v3), (4, .int v4), (5, .int v5)] [.int y458] _
              refine pj_X_of (fun r h => pj_R_to (G459, 164, [(0, .ref 171), (1, .int v1), (2, .int v2), (3, .int v3), (4, .int v4), (5, .int v5)], [.int y458], 0, 0) 164 2 (fun _ => rfl) h) ?_
              have q471 : (pj_fi G459 171 30).toInt = y465.toInt := by rw [show pj_fi G459 171 30 = y465 from hy465.symm]
              have q472 : (pj_fi G459 171 1).toInt = y466.toInt := by rw [show pj_fi G459 171 1 = y466 from hy466.symm]
              have q473 : (pj_fi G459 171 39).toInt = y467.toInt := by rw [show pj_fi G459 171 39 = y467 from hy467.symm]
              have q474 : (pj_fi G459 171 17).toInt = y468.toInt := by rw [show pj_fi G459 171 17 = y468 from hy468.symm]
              have q475 : (pj_fi G459 171 18).toInt = y469.toInt := by rw [show pj_fi G459 171 18 = y469 from hy469.symm]
              have q476 : (pj_fi G459 171 16).toInt = y470.toInt := by rw [show pj_fi G459 171 16 = y470 from hy470.symm]
              exact pj_X_rt rfl rfl ⟨_, rfl, iG459, kG459, pj_i32 _, by omega⟩
        | false =>
          have ub314 := pj_u0_eqF b314
          refine pj_X_of (fun r h => pj_R_ifF rfl b314 h) ?_
          refine pj_X_of (fun r h => pj_R_to (G301, 110, [(5, .int (v5 + Int32.ofInt 1)), (0, .ref 171), (1, .int v1), (2, .int v2), (3, .int v3), (4, .int v4)], [], 0, 0) 110 2 (fun _ => rfl) h) ?_
          obtain ⟨z477, hz477⟩ : ∃ z : Int32, z = v5 + Int32.ofInt 1 := ⟨_, rfl⟩
          rw [← hz477]
          have fz477_0 : z477.toInt = v5.toInt + (Int32.ofInt 1).toInt := by rw [hz477]; exact pj_addI (by have := pj_i32 v5; have := pj_i32 (Int32.ofInt 1); omega) (by have := pj_i32 v5; have := pj_i32 (Int32.ofInt 1); omega)
          refine pj_X_of (fun r h => pj_R_to (G301, 89, [(5, .int z477), (0, .ref 171), (1, .int v1), (2, .int v2), (3, .int v3), (4, .int v4)], [], 0, 0) 89 2 (fun _ => rfl) h) ?_
          have q478 : (pj_fi G301 171 30).toInt = y308.toInt := by rw [show pj_fi G301 171 30 = y308 from hy308.symm]
          have q479 : (pj_fi G301 171 1).toInt = y309.toInt := by rw [show pj_fi G301 171 1 = y309 from hy309.symm]
          have q480 : (pj_fi G301 171 39).toInt = y310.toInt := by rw [show pj_fi G301 171 39 = y310 from hy310.symm]
          have q481 : (pj_fi G301 171 17).toInt = y311.toInt := by rw [show pj_fi G301 171 17 = y311 from hy311.symm]
          have q482 : (pj_fi G301 171 18).toInt = y312.toInt := by rw [show pj_fi G301 171 18 = y312 from hy312.symm]
          have q483 : (pj_fi G301 171 16).toInt = y313.toInt := by rw [show pj_fi G301 171 16 = y313 from hy313.symm]
          exact pj_X_sub [(0, .ref 171), (1, .int v1), (2, .int v2), (3, .int v3), (4, .int v4), (5, .int z477)] (show List.Nodup [0, 1, 2, 3, 4, 5] by decide) ⟨rfl, rfl, rfl, rfl, rfl, rfl, trivial⟩ (ih.2 G301 iG301 kG301 v1 v2 v3 v4 z477 (pj_i32 _) (pj_i32 _) (pj_i32 _) (pj_i32 _) ⟨by omega, by omega⟩ (by omega) (by omega) (by omega))
theorem ct_231t (G0 : pj_G) (hI : pj_Inv G0) (p0_ : pj_RI G0) (p1_ : (pj_fi G0 171 30).toInt ≤ 15) : pj_Y 19 231 [.ref 171] G0 (fun v G' => ∃ y : Int32, v = some (.int y) ∧ pj_Inv G' ∧ pj_kpt kc_231t G0 G' ∧ ((-2147483648 : Int) ≤ y.toInt ∧ y.toInt ≤ 2147483647) ∧ (((pj_fi G' 171 30).toInt ≤ 15) ∧ (pj_fi G' 171 16).toInt = 0)) := by
  have c0_ : ((Int8.ofInt 59).toInt32).toInt = 59 := by decide
  have c1_ : ((Int8.ofInt 60).toInt32).toInt = 60 := by decide
  have c2_ : (Int32.ofInt 0).toInt = 0 := by decide
  have c3_ : (Int32.ofInt 1).toInt = 1 := by decide
  refine pj_Y_X (M := pj_m231) rfl rfl (Nat.le_of_ble_eq_true rfl) ?_
  have hK : pj_kpt kc_231t G0 G0 := pj_kpt_r _ _
  show pj_X _ _ G0 0 [(0, .ref 171)] [] _
  obtain ⟨y484, hy484⟩ : ∃ z : Int32, z = pj_fi G0 171 30 := ⟨_, rfl⟩
  have ey484 : (pj_fi G0 171 30).toInt = y484.toInt := by rw [hy484]
  have ry484 : (0 : Int) ≤ y484.toInt ∧ y484.toInt ≤ 16 := by rw [hy484]; exact hI.2.1 171 30 (0, 16) rfl
  obtain ⟨y485, hy485⟩ : ∃ z : Int32, z = pj_fi G0 171 1 := ⟨_, rfl⟩
  have ey485 : (pj_fi G0 171 1).toInt = y485.toInt := by rw [hy485]
  have ry485 : (0 : Int) ≤ y485.toInt ∧ y485.toInt ≤ 24 := by rw [hy485]; exact hI.2.1 171 1 (0, 24) rfl
  obtain ⟨y486, hy486⟩ : ∃ z : Int32, z = pj_fi G0 171 39 := ⟨_, rfl⟩
  have ey486 : (pj_fi G0 171 39).toInt = y486.toInt := by rw [hy486]
  have ry486 : (0 : Int) ≤ y486.toInt ∧ y486.toInt ≤ 60 := by rw [hy486]; exact hI.2.1 171 39 (0, 60) rfl
  obtain ⟨y487, hy487⟩ : ∃ z : Int32, z = pj_fi G0 171 17 := ⟨_, rfl⟩
  have ey487 : (pj_fi G0 171 17).toInt = y487.toInt := by rw [hy487]
  have ry487 : (0 : Int) ≤ y487.toInt ∧ y487.toInt ≤ 80 := by rw [hy487]; exact hI.2.1 171 17 (0, 80) rfl
  obtain ⟨y488, hy488⟩ : ∃ z : Int32, z = pj_fi G0 171 18 := ⟨_, rfl⟩
  have ey488 : (pj_fi G0 171 18).toInt = y488.toInt := by rw [hy488]
  have ry488 : (0 : Int) ≤ y488.toInt ∧ y488.toInt ≤ 80 := by rw [hy488]; exact hI.2.1 171 18 (0, 80) rfl
  obtain ⟨y489, hy489⟩ : ∃ z : Int32, z = pj_fi G0 171 16 := ⟨_, rfl⟩
  have ey489 : (pj_fi G0 171 16).toInt = y489.toInt := by rw [hy489]
  have ry489 : (0 : Int) ≤ y489.toInt ∧ y489.toInt ≤ 80 := by rw [hy489]; exact hI.2.1 171 16 (0, 80) rfl
  refine pj_X_of (fun r h => pj_R_to (G0, 2, [(0, .ref 171)], [.int (Int32.ofInt 0), .ref 171], 0, 0) 2 3 (fun _ => rfl) h) ?_
  refine pj_X_of (fun r h => pj_T_pf hI rfl rfl rfl h) ?_
  show pj_X _ _ (pj_wv G0 171 0 (.int (Int32.ofInt 0))) 5 [(0, .ref 171)] [] _
  obtain ⟨G490, hG490⟩ : ∃ H, H = pj_wv G0 171 0 (.int (Int32.ofInt 0)) := ⟨_, rfl⟩
  have iG490 : pj_Inv G490 := by rw [hG490]; exact pj_Inv_wi hI (ci := 12) rfl (fun q hq => by cases hq)
  have kG490 : pj_kpt kc_231t G0 G490 := by rw [hG490]; exact pj_kpt_v hK rfl
  rw [← hG490]
  refine pj_X_of (fun r h => pj_R_to (G490, 8, [(0, .ref 171)], [.int ((Int8.ofInt 60).toInt32), .ref 171], 0, 0) 8 3 (fun _ => rfl) h) ?_
  have q491 : (pj_fi G490 171 30).toInt = y484.toInt := by rw [show pj_fi G490 171 30 = y484 from by rw [hG490, pj_fi_wv_ne _ _ _ _ _ _ (by decide)]; exact hy484.symm]
  have q492 : (pj_fi G490 171 1).toInt = y485.toInt := by rw [show pj_fi G490 171 1 = y485 from by rw [hG490, pj_fi_wv_ne _ _ _ _ _ _ (by decide)]; exact hy485.symm]
  have q493 : (pj_fi G490 171 39).toInt = y486.toInt := by rw [show pj_fi G490 171 39 = y486 from by rw [hG490, pj_fi_wv_ne _ _ _ _ _ _ (by decide)]; exact hy486.symm]
  have q494 : (pj_fi G490 171 17).toInt = y487.toInt := by rw [show pj_fi G490 171 17 = y487 from by rw [hG490, pj_fi_wv_ne _ _ _ _ _ _ (by decide)]; exact hy487.symm]
  have q495 : (pj_fi G490 171 18).toInt = y488.toInt := by rw [show pj_fi G490 171 18 = y488 from by rw [hG490, pj_fi_wv_ne _ _ _ _ _ _ (by decide)]; exact hy488.symm]
  have q496 : (pj_fi G490 171 16).toInt = y489.toInt := by rw [show pj_fi G490 171 16 = y489 from by rw [hG490, pj_fi_wv_ne _ _ _ _ _ _ (by decide)]; exact hy489.symm]
  refine pj_X_ca (vs := [.ref 171, .int ((Int8.ofInt 60).toInt32)]) rfl (fun _ => rfl) ⟨Nat.le_of_ble_eq_true rfl, Nat.le_of_ble_eq_true rfl, pj_T_rcv iG490 rfl⟩ ⟨rfl, rfl⟩ (pj_Y_up (by decide) (ct_181et G490 iG490 ((Int8.ofInt 60).toInt32) ⟨by omega, by omega⟩)) ?_
  rintro _ G498 ⟨y497, rfl, iG498, jG498, ry497, ey497⟩
  have kG498 : pj_kpt kc_231t G0 G498 := pj_kpt_t kG490 (pj_kpt_s jG498 rfl)
  have q499 : (pj_fi G498 171 30).toInt = (pj_fi G490 171 30).toInt := by rw [jG498.1 (171, 30) (by decide)]
  have q500 : (pj_fi G498 171 1).toInt = (pj_fi G490 171 1).toInt := by rw [jG498.1 (171, 1) (by decide)]
  have q501 : (pj_fi G498 171 39).toInt = (pj_fi G490 171 39).toInt := by rw [jG498.1 (171, 39) (by decide)]
  obtain ⟨y502, hy502⟩ : ∃ z : Int32, z = pj_fi G498 171 30 := ⟨_, rfl⟩
  have ey502 : (pj_fi G498 171 30).toInt = y502.toInt := by rw [hy502]
  have ry502 : (0 : Int) ≤ y502.toInt ∧ y502.toInt ≤ 16 := by rw [hy502]; exact iG498.2.1 171 30 (0, 16) rfl
  obtain ⟨y503, hy503⟩ : ∃ z : Int32, z = pj_fi G498 171 1 := ⟨_, rfl⟩
  have ey503 : (pj_fi G498 171 1).toInt = y503.toInt := by rw [hy503]
  have ry503 : (0 : Int) ≤ y503.toInt ∧ y503.toInt ≤ 24 := by rw [hy503]; exact iG498.2.1 171 1 (0, 24) rfl
  obtain ⟨y504, hy504⟩ : ∃ z : Int32, z = pj_fi G498 171 39 := ⟨_, rfl⟩
  have ey504 : (pj_fi G498 171 39).toInt = y504.toInt := by rw [hy504]
  have ry504 : (0 : Int) ≤ y504.toInt ∧ y504.toInt ≤ 60 := by rw [hy504]; exact iG498.2.1 171 39 (0, 60) rfl
  obtain ⟨y505, hy505⟩ : ∃ z : Int32, z = pj_fi G498 171 17 := ⟨_, rfl⟩
  have ey505 : (pj_fi G498 171 17).toInt = y505.toInt := by rw [hy505]
  have ry505 : (0 : Int) ≤ y505.toInt ∧ y505.toInt ≤ 80 := by rw [hy505]; exact iG498.2.1 171 17 (0, 80) rfl
  obtain ⟨y506, hy506⟩ : ∃ z : Int32, z = pj_fi G498 171 18 := ⟨_, rfl⟩
  have ey506 : (pj_fi G498 171 18).toInt = y506.toInt := by rw [hy506]
  have ry506 : (0 : Int) ≤ y506.toInt ∧ y506.toInt ≤ 80 := by rw [hy506]; exact iG498.2.1 171 18 (0, 80) rfl
  obtain ⟨y507, hy507⟩ : ∃ z : Int32, z = pj_fi G498 171 16 := ⟨_, rfl⟩
  have ey507 : (pj_fi G498 171 16).toInt = y507.toInt := by rw [hy507]
  have ry507 : (0 : Int) ≤ y507.toInt ∧ y507.toInt ≤ 80 := by rw [hy507]; exact iG498.2.1 171 16 (0, 80) rfl
  show pj_X _ _ G498 11 [(0, .ref 171)] [.int y497] _
  refine pj_X_of (fun r h => pj_R_to (G498, 14, [(1, .int y497), (0, .ref 171)], [.int (Int32.ofInt 0), .ref 171], 0, 0) 14 4 (fun _ => rfl) h) ?_
  refine pj_X_of (fun r h => pj_T_pf iG498 rfl rfl rfl h) ?_
  show pj_X _ _ (pj_wv G498 171 39 (.int (Int32.ofInt 0))) 17 [(1, .int y497), (0, .ref 171)] [] _
  obtain ⟨G508, hG508⟩ : ∃ H, H = pj_wv G498 171 39 (.int (Int32.ofInt 0)) := ⟨_, rfl⟩
  have iG508 : pj_Inv G508 := by rw [hG508]; exact pj_Inv_wi iG498 (ci := 12) rfl (fun q hq => by cases hq; exact ⟨by show (0 : Int) ≤ _; omega, by show _ ≤ (60 : Int); omega⟩)
  have kG508 : pj_kpt kc_231t G0 G508 := by rw [hG508]; exact pj_kpt_v kG498 rfl
  rw [← hG508]
  refine pj_X_of (fun r h => pj_R_to (G508, 20, [(2, .int (Int32.ofInt 1)), (1, .int y497), (0, .ref 171)], [.int y497], 0, 0) 20 4 (fun _ => rfl) h) ?_
  cases b509 : pj_c1 .le y497 0 with
  | true =>
    have ub509 := pj_u0_leT b509
    refine pj_X_of (fun r h => pj_R_ifT 27 rfl rfl b509 h) ?_
    refine pj_X_of (fun r h => pj_R_to (G508, 29, [(3, .int (Int32.ofInt 0)), (2, .int (Int32.ofInt 1)), (1, .int y497), (0, .ref 171)], [], 0, 0) 29 3 (fun _ => rfl) h) ?_
    have q510 : (pj_fi G508 171 30).toInt = y502.toInt := by rw [show pj_fi G508 171 30 = y502 from by rw [hG508, pj_fi_wv_ne _ _ _ _ _ _ (by decide)]; exact hy502.symm]
    have q511 : (pj_fi G508 171 1).toInt = y503.toInt := by rw [show pj_fi G508 171 1 = y503 from by rw [hG508, pj_fi_wv_ne _ _ _ _ _ _ (by decide)]; exact hy503.symm]
    have q512 : (pj_fi G508 171 39).toInt = (Int32.ofInt 0).toInt := by rw [show pj_fi G508 171 39 = Int32.ofInt 0 from by rw [hG508]; exact pj_fi_wi iG498.1 (ci := 12) rfl _]
    have q513 : (pj_fi G508 171 17).toInt = y505.toInt := by rw [show pj_fi G508 171 17 = y505 from by rw [hG508, pj_fi_wv_ne _ _ _ _ _ _ (by decide)]; exact hy505.symm]
    have q514 : (pj_fi G508 171 18).toInt = y506.toInt := by rw [show pj_fi G508 171 18 = y506 from by rw [hG508, pj_fi_wv_ne _ _ _ _ _ _ (by decide)]; exact hy506.symm]
    have q515 : (pj_fi G508 171 16).toInt = y507.toInt := by rw [show pj_fi G508 171 16 = y507 from by rw [hG508, pj_fi_wv_ne _ _ _ _ _ _ (by decide)]; exact hy507.symm]
    exact pj_X_sub [(0, .ref 171), (1, .int y497), (2, .int (Int32.ofInt 1)), (3, .int (Int32.ofInt 0))] (show List.Nodup [0, 1, 2, 3] by decide) ⟨rfl, rfl, rfl, rfl, trivial⟩ ((lp_ct_231t G0 hI   p0_ p1_ 263).1 G508 iG508 kG508 y497 (Int32.ofInt 1) (Int32.ofInt 0) ⟨by omega, by omega⟩ ⟨by omega, by omega⟩ ⟨by omega, by omega⟩ (by omega) (by omega) (by omega) (by omega) (by omega) (by omega))
  | false =>
    have ub509 := pj_u0_leF b509
    refine pj_X_of (fun r h => pj_R_ifF rfl b509 h) ?_
    refine pj_X_of (fun r h => pj_R_to (G508, 29, [(3, .int (Int32.ofInt 1)), (2, .int (Int32.ofInt 1)), (1, .int y497), (0, .ref 171)], [], 0, 0) 29 4 (fun _ => rfl) h) ?_
    have q516 : (pj_fi G508 171 30).toInt = y502.toInt := by rw [show pj_fi G508 171 30 = y502 from by rw [hG508, pj_fi_wv_ne _ _ _ _ _ _ (by decide)]; exact hy502.symm]
    have q517 : (pj_fi G508 171 1).toInt = y503.toInt := by rw [show pj_fi G508 171 1 = y503 from by rw [hG508, pj_fi_wv_ne _ _ _ _ _ _ (by decide)]; exact hy503.symm]
    have q518 : (pj_fi G508 171 39).toInt = (Int32.ofInt 0).toInt := by rw [show pj_fi G508 171 39 = Int32.ofInt 0 from by rw [hG508]; exact pj_fi_wi iG498.1 (ci := 12) rfl _]
    have q519 : (pj_fi G508 171 17).toInt = y505.toInt := by rw [show pj_fi G508 171 17 = y505 from by rw [hG508, pj_fi_wv_ne _ _ _ _ _ _ (by decide)]; exact hy505.symm]
    have q520 : (pj_fi G508 171 18).toInt = y506.toInt := by rw [show pj_fi G508 171 18 = y506 from by rw [hG508, pj_fi_wv_ne _ _ _ _ _ _ (by decide)]; exact hy506.symm]
    have q521 : (pj_fi G508 171 16).toInt = y507.toInt := by rw [show pj_fi G508 171 16 = y507 from by rw [hG508, pj_fi_wv_ne _ _ _ _ _ _ (by decide)]; exact hy507.symm]
    exact pj_X_sub [(0, .ref 171), (1, .int y497), (2, .int (Int32.ofInt 1)), (3, .int (Int32.ofInt 1))] (show List.Nodup [0, 1, 2, 3] by decide) ⟨rfl, rfl, rfl, rfl, trivial⟩ ((lp_ct_231t G0 hI   p0_ p1_ 263).1 G508 iG508 kG508 y497 (Int32.ofInt 1) (Int32.ofInt 1) ⟨by omega, by omega⟩ ⟨by omega, by omega⟩ ⟨by omega, by omega⟩ (by omega) (by omega) (by omega) (by omega) (by omega) (by omega))
