def kc_87 : pj_KT := ([(2, 3), (2, 4)], [2], [])
theorem ct_87 (G0 : pj_G) (hI : pj_Inv G0) (ul : Int32) (bk : Int32) (rul : (-1 : Int) ≤ ul.toInt ∧ ul.toInt ≤ 7) (rbk : (0 : Int) ≤ bk.toInt ∧ bk.toInt ≤ 8) : pj_Y 3 87 [.ref 2, .int ul, .int bk] G0 (fun v G' => ∃ y : Int32, v = some (.int y) ∧ pj_Inv G' ∧ pj_kpt kc_87 G0 G' ∧ ((0 : Int) ≤ y.toInt ∧ y.toInt ≤ 7) ∧ ((pj_fi G0 2 4).toInt ≠ -1 → (pj_fi G' 2 4).toInt ≠ -1)) := by
  have c0_ : ((Int8.ofInt 97).toInt32).toInt = 97 := by decide
  have c1_ : (Int32.ofInt (-1)).toInt = -1 := by decide
  have c2_ : (Int32.ofInt 1).toInt = 1 := by decide
  refine pj_Y_X (M := pj_m87) rfl rfl (Nat.le_of_ble_eq_true rfl) ?_
  have hK : pj_kpt kc_87 G0 G0 := pj_kpt_r _ _
  show pj_X _ _ G0 0 [(0, .ref 2), (1, .int ul), (2, .int bk)] [] _
  obtain ⟨y1, hy1⟩ : ∃ z : Int32, z = pj_fi G0 2 4 := ⟨_, rfl⟩
  have ey1 : (pj_fi G0 2 4).toInt = y1.toInt := by rw [hy1]
  have ry1 : (-1 : Int) ≤ y1.toInt ∧ y1.toInt ≤ 80 := by rw [hy1]; exact hI.2.1 2 4 (-1, 80) rfl
  refine pj_X_of (fun r h => pj_R_to (G0, 2, [(0, .ref 2), (1, .int ul), (2, .int bk)], [.int (Int32.ofInt (-1)), .int ul], 0, 0) 2 3 (fun _ => rfl) h) ?_
  cases b2 : pj_c1 .eq ul (Int32.ofInt (-1)) with
  | true =>
    have ub2 := pj_u_eqT b2
    refine pj_X_of (fun r h => pj_R_icT 20 rfl rfl b2 h) ?_
    refine pj_X_of (fun r h => pj_R_to (G0, 27, [(0, .ref 2), (1, .int ul), (2, .int bk)], [.int (((Int8.ofInt 97).toInt32) + bk), .int ((Int8.ofInt 97).toInt32), .ref 2], 0, 0) 27 6 (fun _ => rfl) h) ?_
    obtain ⟨z3, hz3⟩ : ∃ z : Int32, z = ((Int8.ofInt 97).toInt32) + bk := ⟨_, rfl⟩
    rw [← hz3]
    have fz3_0 : z3.toInt = ((Int8.ofInt 97).toInt32).toInt + bk.toInt := by rw [hz3]; exact pj_addI (by have := pj_i32 ((Int8.ofInt 97).toInt32); have := pj_i32 bk; omega) (by have := pj_i32 ((Int8.ofInt 97).toInt32); have := pj_i32 bk; omega)
    refine pj_X_of (fun r h => pj_R_to (G0, 29, [(0, .ref 2), (1, .int ul), (2, .int bk)], [.int (z3 - (Int32.ofInt 1)), .int ((Int8.ofInt 97).toInt32), .ref 2], 0, 0) 29 3 (fun _ => rfl) h) ?_
    obtain ⟨z4, hz4⟩ : ∃ z : Int32, z = z3 - (Int32.ofInt 1) := ⟨_, rfl⟩
    rw [← hz4]
    have fz4_0 : z4.toInt = z3.toInt - (Int32.ofInt 1).toInt := by rw [hz4]; exact pj_subI (by have := pj_i32 z3; have := pj_i32 (Int32.ofInt 1); omega) (by have := pj_i32 z3; have := pj_i32 (Int32.ofInt 1); omega)
    have q5 : (pj_fi G0 2 4).toInt = y1.toInt := by rw [show pj_fi G0 2 4 = y1 from hy1.symm]
    refine pj_X_ca (vs := [.ref 2, .int ((Int8.ofInt 97).toInt32), .int z4]) rfl (fun _ => rfl) ⟨Nat.le_of_ble_eq_true rfl, Nat.le_of_ble_eq_true rfl, pj_T_rcv hI rfl⟩ ⟨rfl, rfl⟩ (pj_Y_up (by decide) (ct_83 G0 hI ((Int8.ofInt 97).toInt32) z4 ⟨by omega, by omega⟩ ⟨by omega, by omega⟩)) ?_
    rintro _ G7 ⟨y6, rfl, iG7, jG7, ry6, ey6⟩
    have kG7 : pj_kpt kc_87 G0 G7 := pj_kpt_t hK (pj_kpt_s jG7 rfl)
    obtain ⟨y8, hy8⟩ : ∃ z : Int32, z = pj_fi G7 2 4 := ⟨_, rfl⟩
    have ey8 : (pj_fi G7 2 4).toInt = y8.toInt := by rw [hy8]
    have ry8 : (-1 : Int) ≤ y8.toInt ∧ y8.toInt ≤ 80 := by rw [hy8]; exact iG7.2.1 2 4 (-1, 80) rfl
    show pj_X _ _ G7 32 [(0, .ref 2), (1, .int ul), (2, .int bk)] [.int y6] _
    have q9 : (pj_fi G7 2 4).toInt = y8.toInt := by rw [show pj_fi G7 2 4 = y8 from hy8.symm]
    exact pj_X_rt rfl rfl ⟨_, rfl, iG7, kG7, ⟨by omega, by omega⟩, by omega⟩
  | false =>
    have ub2 := pj_u_eqF b2
    refine pj_X_of (fun r h => pj_R_icF rfl b2 h) ?_
    refine pj_X_of (fun r h => pj_R_to (G0, 6, [(0, .ref 2), (1, .int ul), (2, .int bk)], [.ref 2], 0, 0) 6 2 (fun _ => rfl) h) ?_
    have q10 : (pj_fi G0 2 4).toInt = y1.toInt := by rw [show pj_fi G0 2 4 = y1 from hy1.symm]
    refine pj_X_ca (vs := [.ref 2]) rfl (fun _ => rfl) ⟨Nat.le_of_ble_eq_true rfl, Nat.le_of_ble_eq_true rfl, pj_T_rcv hI rfl⟩ ⟨rfl, rfl⟩ (pj_Y_up (by decide) (ct_80 G0 hI)) ?_
    rintro _ _ ⟨y11, rfl, rfl, ry11, ey11⟩
    show pj_X _ _ G0 9 [(0, .ref 2), (1, .int ul), (2, .int bk)] [.int y11] _
    refine pj_X_of (fun r h => pj_R_to (G0, 13, [(0, .ref 2), (1, .int ul), (2, .int bk)], [.int (((Int8.ofInt 97).toInt32) + ul), .int y11], 0, 0) 13 4 (fun _ => rfl) h) ?_
    obtain ⟨z12, hz12⟩ : ∃ z : Int32, z = ((Int8.ofInt 97).toInt32) + ul := ⟨_, rfl⟩
    rw [← hz12]
    have fz12_0 : z12.toInt = ((Int8.ofInt 97).toInt32).toInt + ul.toInt := by rw [hz12]; exact pj_addI (by have := pj_i32 ((Int8.ofInt 97).toInt32); have := pj_i32 ul; omega) (by have := pj_i32 ((Int8.ofInt 97).toInt32); have := pj_i32 ul; omega)
    cases b13 : pj_c1 .ne y11 z12 with
    | true =>
      have ub13 := pj_u_neT b13
      refine pj_X_of (fun r h => pj_R_icT 20 rfl rfl b13 h) ?_
      refine pj_X_of (fun r h => pj_R_to (G0, 27, [(0, .ref 2), (1, .int ul), (2, .int bk)], [.int (((Int8.ofInt 97).toInt32) + bk), .int ((Int8.ofInt 97).toInt32), .ref 2], 0, 0) 27 6 (fun _ => rfl) h) ?_
      obtain ⟨z14, hz14⟩ : ∃ z : Int32, z = ((Int8.ofInt 97).toInt32) + bk := ⟨_, rfl⟩
      rw [← hz14]
      have fz14_0 : z14.toInt = ((Int8.ofInt 97).toInt32).toInt + bk.toInt := by rw [hz14]; exact pj_addI (by have := pj_i32 ((Int8.ofInt 97).toInt32); have := pj_i32 bk; omega) (by have := pj_i32 ((Int8.ofInt 97).toInt32); have := pj_i32 bk; omega)
      refine pj_X_of (fun r h => pj_R_to (G0, 29, [(0, .ref 2), (1, .int ul), (2, .int bk)], [.int (z14 - (Int32.ofInt 1)), .int ((Int8.ofInt 97).toInt32), .ref 2], 0, 0) 29 3 (fun _ => rfl) h) ?_
      obtain ⟨z15, hz15⟩ : ∃ z : Int32, z = z14 - (Int32.ofInt 1) := ⟨_, rfl⟩
      rw [← hz15]
      have fz15_0 : z15.toInt = z14.toInt - (Int32.ofInt 1).toInt := by rw [hz15]; exact pj_subI (by have := pj_i32 z14; have := pj_i32 (Int32.ofInt 1); omega) (by have := pj_i32 z14; have := pj_i32 (Int32.ofInt 1); omega)
      have q16 : (pj_fi G0 2 4).toInt = y1.toInt := by rw [show pj_fi G0 2 4 = y1 from hy1.symm]
      refine pj_X_ca (vs := [.ref 2, .int ((Int8.ofInt 97).toInt32), .int z15]) rfl (fun _ => rfl) ⟨Nat.le_of_ble_eq_true rfl, Nat.le_of_ble_eq_true rfl, pj_T_rcv hI rfl⟩ ⟨rfl, rfl⟩ (pj_Y_up (by decide) (ct_83 G0 hI ((Int8.ofInt 97).toInt32) z15 ⟨by omega, by omega⟩ ⟨by omega, by omega⟩)) ?_
      rintro _ G18 ⟨y17, rfl, iG18, jG18, ry17, ey17⟩
      have kG18 : pj_kpt kc_87 G0 G18 := pj_kpt_t hK (pj_kpt_s jG18 rfl)
      obtain ⟨y19, hy19⟩ : ∃ z : Int32, z = pj_fi G18 2 4 := ⟨_, rfl⟩
      have ey19 : (pj_fi G18 2 4).toInt = y19.toInt := by rw [hy19]
      have ry19 : (-1 : Int) ≤ y19.toInt ∧ y19.toInt ≤ 80 := by rw [hy19]; exact iG18.2.1 2 4 (-1, 80) rfl
      show pj_X _ _ G18 32 [(0, .ref 2), (1, .int ul), (2, .int bk)] [.int y17] _
      have q20 : (pj_fi G18 2 4).toInt = y19.toInt := by rw [show pj_fi G18 2 4 = y19 from hy19.symm]
      exact pj_X_rt rfl rfl ⟨_, rfl, iG18, kG18, ⟨by omega, by omega⟩, by omega⟩
    | false =>
      have ub13 := pj_u_neF b13
      refine pj_X_of (fun r h => pj_R_icF rfl b13 h) ?_
      refine pj_X_of (fun r h => pj_R_to (G0, 17, [(0, .ref 2), (1, .int ul), (2, .int bk)], [.ref 2], 0, 0) 17 2 (fun _ => rfl) h) ?_
      have q21 : (pj_fi G0 2 4).toInt = y1.toInt := by rw [show pj_fi G0 2 4 = y1 from hy1.symm]
      refine pj_X_ca (vs := [.ref 2]) rfl (fun _ => rfl) ⟨Nat.le_of_ble_eq_true rfl, Nat.le_of_ble_eq_true rfl, pj_T_rcv hI rfl⟩ ⟨rfl, rfl⟩ (pj_Y_up (by decide) (ct_81 G0 hI)) ?_
      rintro _ G23 ⟨rfl, iG23, jG23, eG23⟩
      have kG23 : pj_kpt kc_87 G0 G23 := pj_kpt_t hK (pj_kpt_s jG23 rfl)
      obtain ⟨y24, hy24⟩ : ∃ z : Int32, z = pj_fi G23 2 4 := ⟨_, rfl⟩
      have ey24 : (pj_fi G23 2 4).toInt = y24.toInt := by rw [hy24]
      have ry24 : (-1 : Int) ≤ y24.toInt ∧ y24.toInt ≤ 80 := by rw [hy24]; exact iG23.2.1 2 4 (-1, 80) rfl
      show pj_X _ _ G23 20 [(0, .ref 2), (1, .int ul), (2, .int bk)] [] _
      refine pj_X_of (fun r h => pj_R_to (G23, 27, [(0, .ref 2), (1, .int ul), (2, .int bk)], [.int (((Int8.ofInt 97).toInt32) + bk), .int ((Int8.ofInt 97).toInt32), .ref 2], 0, 0) 27 6 (fun _ => rfl) h) ?_
      obtain ⟨z25, hz25⟩ : ∃ z : Int32, z = ((Int8.ofInt 97).toInt32) + bk := ⟨_, rfl⟩
      rw [← hz25]
      have fz25_0 : z25.toInt = ((Int8.ofInt 97).toInt32).toInt + bk.toInt := by rw [hz25]; exact pj_addI (by have := pj_i32 ((Int8.ofInt 97).toInt32); have := pj_i32 bk; omega) (by have := pj_i32 ((Int8.ofInt 97).toInt32); have := pj_i32 bk; omega)
      refine pj_X_of (fun r h => pj_R_to (G23, 29, [(0, .ref 2), (1, .int ul), (2, .int bk)], [.int (z25 - (Int32.ofInt 1)), .int ((Int8.ofInt 97).toInt32), .ref 2], 0, 0) 29 3 (fun _ => rfl) h) ?_
      obtain ⟨z26, hz26⟩ : ∃ z : Int32, z = z25 - (Int32.ofInt 1) := ⟨_, rfl⟩
      rw [← hz26]
      have fz26_0 : z26.toInt = z25.toInt - (Int32.ofInt 1).toInt := by rw [hz26]; exact pj_subI (by have := pj_i32 z25; have := pj_i32 (Int32.ofInt 1); omega) (by have := pj_i32 z25; have := pj_i32 (Int32.ofInt 1); omega)
      have q27 : (pj_fi G23 2 4).toInt = y24.toInt := by rw [show pj_fi G23 2 4 = y24 from hy24.symm]
      refine pj_X_ca (vs := [.ref 2, .int ((Int8.ofInt 97).toInt32), .int z26]) rfl (fun _ => rfl) ⟨Nat.le_of_ble_eq_true rfl, Nat.le_of_ble_eq_true rfl, pj_T_rcv iG23 rfl⟩ ⟨rfl, rfl⟩ (pj_Y_up (by decide) (ct_83 G23 iG23 ((Int8.ofInt 97).toInt32) z26 ⟨by omega, by omega⟩ ⟨by omega, by omega⟩)) ?_
      rintro _ G29 ⟨y28, rfl, iG29, jG29, ry28, ey28⟩
      have kG29 : pj_kpt kc_87 G0 G29 := pj_kpt_t kG23 (pj_kpt_s jG29 rfl)
      obtain ⟨y30, hy30⟩ : ∃ z : Int32, z = pj_fi G29 2 4 := ⟨_, rfl⟩
      have ey30 : (pj_fi G29 2 4).toInt = y30.toInt := by rw [hy30]
      have ry30 : (-1 : Int) ≤ y30.toInt ∧ y30.toInt ≤ 80 := by rw [hy30]; exact iG29.2.1 2 4 (-1, 80) rfl
      show pj_X _ _ G29 32 [(0, .ref 2), (1, .int ul), (2, .int bk)] [.int y28] _
      have q31 : (pj_fi G29 2 4).toInt = y30.toInt := by rw [show pj_fi G29 2 4 = y30 from hy30.symm]
      exact pj_X_rt rfl rfl ⟨_, rfl, iG29, kG29, ⟨by omega, by omega⟩, by omega⟩
theorem lp_ct_11 (G0 : pj_G) (hI : pj_Inv G0) (a : Int64) (b : Int64) : ∀ mn : Nat, (∀ (v4 : Int64) (v6 : Int64) (v8 : Int32), ((0 : Int) ≤ v8.toInt ∧ v8.toInt ≤ 100) → 100 - v8.toInt < (mn : Int) → pj_X 0 pj_m11 G0 9 [(0, .long a), (2, .long b), (4, .long v4), (6, .long v6), (8, .int v8)] [] (fun v G' => ∃ y : Int64, v = some (.long y) ∧ G0 = G')) := by
  have c0_ : ((Int8.ofInt 100).toInt32).toInt = 100 := by decide
  have c1_ : (Int32.ofInt 0).toInt = 0 := by decide
  have c2_ : (Int32.ofInt 1).toInt = 1 := by decide
  have hK : pj_kpt ([], [], []) G0 G0 := pj_kpt_r _ _
  intro mn
  induction mn with
  | zero =>
    intro v4 v6 v8 rv8 hm
    exfalso
    omega
  | succ mn ih =>
    intro v4 v6 v8 rv8 hm
    refine pj_X_of (fun r h => pj_R_to (G0, 13, [(0, .long a), (2, .long b), (4, .long v4), (6, .long v6), (8, .int v8)], [.int ((Int8.ofInt 100).toInt32), .int v8], 0, 0) 13 3 (fun _ => rfl) h) ?_
    cases b1 : pj_c1 .ge v8 ((Int8.ofInt 100).toInt32) with
    | true =>
      have ub1 := pj_u_geT b1
      refine pj_X_of (fun r h => pj_R_icT 44 rfl rfl b1 h) ?_
      refine pj_X_of (fun r h => pj_R_to (G0, 46, [(0, .long a), (2, .long b), (4, .long v4), (6, .long v6), (8, .int v8)], [.long v6], 0, 0) 46 2 (fun _ => rfl) h) ?_
      exact pj_X_rt rfl rfl ⟨_, rfl, rfl⟩
    | false =>
      have ub1 := pj_u_geF b1
      refine pj_X_of (fun r h => pj_R_icF rfl b1 h) ?_
      refine pj_X_of (fun r h => pj_R_to (G0, 20, [(0, .long a), (2, .long b), (4, .long v4), (6, .long v6), (8, .int v8)], [.int (lg_cmp v4 (Int64.ofNat 0))], 0, 0) 20 4 (fun _ => rfl) h) ?_
      have lc2 : (Int64.ofNat 0).toInt = 0 := by decide
      obtain ⟨z3, hz3⟩ : ∃ z : Int32, z = lg_cmp v4 (Int64.ofNat 0) := ⟨_, rfl⟩
      rw [← hz3]
      have fz3_0 : (-1 ≤ z3.toInt ∧ z3.toInt ≤ 1) ∧ (z3.toInt < 0 ↔ v4.toInt < (Int64.ofNat 0).toInt) ∧ (0 < z3.toInt ↔ (Int64.ofNat 0).toInt < v4.toInt) := by rw [hz3]; exact pj_lcI
      cases b4 : pj_c1 .eq z3 0 with
      | true =>
        have ub4 := pj_u0_eqT b4
        refine pj_X_of (fun r h => pj_R_ifT 44 rfl rfl b4 h) ?_
        refine pj_X_of (fun r h => pj_R_to (G0, 46, [(0, .long a), (2, .long b), (4, .long v4), (6, .long v6), (8, .int v8)], [.long v6], 0, 0) 46 2 (fun _ => rfl) h) ?_
        exact pj_X_rt rfl rfl ⟨_, rfl, rfl⟩
      | false =>
        have ub4 := pj_u0_eqF b4
        refine pj_X_of (fun r h => pj_R_ifF rfl b4 h) ?_
        refine pj_X_of (fun r h => pj_R_to (G0, 27, [(0, .long a), (2, .long b), (4, .long v4), (6, .long v6), (8, .int v8)], [.long v4, .long v6], 0, 0) 27 3 (fun _ => rfl) h) ?_
        refine pj_X_of (fun r h => pj_R_lrm rfl (pj_nzl (by omega)) h) ?_
        show pj_X _ _ G0 28 [(0, .long a), (2, .long b), (4, .long v4), (6, .long v6), (8, .int v8)] [.long (v6 - v6 / v4 * v4)] _
        obtain ⟨w5, hw5⟩ : ∃ z : Int64, z = v6 - v6 / v4 * v4 := ⟨_, rfl⟩
        rw [← hw5]
        refine pj_X_of (fun r h => pj_R_to (G0, 41, [(8, .int (v8 + Int32.ofInt 1)), (4, .long w5), (6, .long v4), (9, .long w5), (0, .long a), (2, .long b)], [], 0, 0) 41 7 (fun _ => rfl) h) ?_
        obtain ⟨z6, hz6⟩ : ∃ z : Int32, z = v8 + Int32.ofInt 1 := ⟨_, rfl⟩
        rw [← hz6]
        have fz6_0 : z6.toInt = v8.toInt + (Int32.ofInt 1).toInt := by rw [hz6]; exact pj_addI (by have := pj_i32 v8; have := pj_i32 (Int32.ofInt 1); omega) (by have := pj_i32 v8; have := pj_i32 (Int32.ofInt 1); omega)
        refine pj_X_of (fun r h => pj_R_to (G0, 9, [(8, .int z6), (4, .long w5), (6, .long v4), (9, .long w5), (0, .long a), (2, .long b)], [], 0, 0) 9 2 (fun _ => rfl) h) ?_
        exact pj_X_sub [(0, .long a), (2, .long b), (4, .long w5), (6, .long v4), (8, .int z6)] (show List.Nodup [0, 2, 4, 6, 8] by decide) ⟨rfl, rfl, rfl, rfl, rfl, trivial⟩ (ih w5 v4 z6 ⟨by omega, by omega⟩ (by omega))
theorem ct_11 (G0 : pj_G) (hI : pj_Inv G0) (a : Int64) (b : Int64) : pj_Y 1 11 [.long a, .long b] G0 (fun v G' => ∃ y : Int64, v = some (.long y) ∧ G0 = G') := by
  have c0_ : ((Int8.ofInt 100).toInt32).toInt = 100 := by decide
  have c1_ : (Int32.ofInt 0).toInt = 0 := by decide
  have c2_ : (Int32.ofInt 1).toInt = 1 := by decide
  refine pj_Y_X (M := pj_m11) rfl rfl (Nat.le_of_ble_eq_true rfl) ?_
  have hK : pj_kpt ([], [], []) G0 G0 := pj_kpt_r _ _
  show pj_X _ _ G0 0 [(0, .long a), (2, .long b)] [] _
  refine pj_X_of (fun r h => pj_R_to (G0, 9, [(8, .int (Int32.ofInt 0)), (6, .long b), (4, .long a), (0, .long a), (2, .long b)], [], 0, 0) 9 7 (fun _ => rfl) h) ?_
  exact pj_X_sub [(0, .long a), (2, .long b), (4, .long a), (6, .long b), (8, .int (Int32.ofInt 0))] (show List.Nodup [0, 2, 4, 6, 8] by decide) ⟨rfl, rfl, rfl, rfl, rfl, trivial⟩ ((lp_ct_11 G0 hI a b  101) a b (Int32.ofInt 0) ⟨by omega, by omega⟩ (by omega))
def kc_10 : pj_KT := ([(4, 1)], [4, 5], [])
theorem ct_10 (G0 : pj_G) (hI : pj_Inv G0) (c : Int32) (rc : (0 : Int) ≤ c.toInt ∧ c.toInt ≤ 9) : pj_Y 3 10 [.ref 38, .ref 4, .int c] G0 (fun v G' => v = none ∧ pj_Inv G' ∧ pj_kpt kc_10 G0 G') := by
  refine pj_Y_X (M := pj_m10) rfl rfl (Nat.le_of_ble_eq_true rfl) ?_
  have hK : pj_kpt kc_10 G0 G0 := pj_kpt_r _ _
  show pj_X _ _ G0 0 [(0, .ref 38), (1, .ref 4), (2, .int c)] [] _
  refine pj_X_of (fun r h => pj_R_to (G0, 1, [(0, .ref 38), (1, .ref 4), (2, .int c)], [.ref 38], 0, 0) 1 2 (fun _ => rfl) h) ?_
  refine pj_X_of (fun r h => pj_T_gr hI rfl rfl rfl h) ?_
  refine pj_X_of (fun r h => pj_R_to (G0, 5, [(0, .ref 38), (1, .ref 4), (2, .int c)], [.ref 38, .ref 45], 0, 0) 5 2 (fun _ => rfl) h) ?_
  refine pj_X_of (fun r h => pj_T_gr hI rfl rfl rfl h) ?_
  refine pj_X_gm hI rfl rfl (fun q1 => ?_) (fun q1 => ?_)
  · refine pj_X_of (fun r h => pj_T_gr hI rfl rfl rfl h) ?_
    refine pj_X_of (fun r h => pj_R_to (G0, 15, [(0, .ref 38), (1, .ref 4), (2, .int c)], [.int c, .ref 12, .ref 45], 0, 0) 15 2 (fun _ => rfl) h) ?_
    refine pj_X_of (fun r h => pj_T_il hI rfl rfl (by omega) (by omega) h) ?_
    show pj_X _ _ G0 16 [(0, .ref 38), (1, .ref 4), (2, .int c)] [.int (pj_ai G0 12 c.toInt.toNat), .ref 45] _
    obtain ⟨z2, hz2⟩ : ∃ z : Int32, z = pj_ai G0 12 c.toInt.toNat := ⟨_, rfl⟩
    rw [← hz2]
    have ez2 : (pj_ai G0 12 c.toInt.toNat).toInt = z2.toInt := by rw [hz2]
    have fz2_0 : (0 : Int) ≤ z2.toInt ∧ z2.toInt ≤ 9 ∧ (z2.toInt ≤ 0 ∨ 0 ≤ z2.toInt) := by rw [hz2]; exact hI.2.2.1 12 (10, 0, 9, 0, 0) rfl _ (by show _ < 10; omega)
    refine pj_X_ll hI rfl rfl (by omega) (by omega) (fun w3 => ?_)
    show pj_X _ _ G0 17 [(0, .ref 38), (1, .ref 4), (2, .int c)] [.long w3] _
    refine pj_X_of (fun r h => pj_R_to (G0, 20, [(3, .long w3), (0, .ref 38), (1, .ref 4), (2, .int c)], [.ref 38, .long w3], 0, 0) 20 4 (fun _ => rfl) h) ?_
    refine pj_X_gl hI rfl rfl (fun w4 => ?_)
    show pj_X _ _ G0 23 [(3, .long w3), (0, .ref 38), (1, .ref 4), (2, .int c)] [.long w4, .long w3] _
    refine pj_X_ca (vs := [.long w3, .long w4]) rfl (fun _ => rfl) ⟨Nat.le_of_ble_eq_true rfl, Nat.le_of_ble_eq_true rfl, rfl⟩ ⟨rfl, rfl⟩ (pj_Y_up (by decide) (ct_11 G0 hI w3 w4)) ?_
    rintro _ _ ⟨y5, rfl, rfl⟩
    show pj_X _ _ G0 26 [(3, .long w3), (0, .ref 38), (1, .ref 4), (2, .int c)] [.long y5] _
    refine pj_X_of (fun r h => pj_R_to (G0, 32, [(5, .long y5), (3, .long w3), (0, .ref 38), (1, .ref 4), (2, .int c)], [.int (lg_cmp y5 (Int64.ofNat 0))], 0, 0) 32 5 (fun _ => rfl) h) ?_
    have lc6 : (Int64.ofNat 0).toInt = 0 := by decide
    obtain ⟨z7, hz7⟩ : ∃ z : Int32, z = lg_cmp y5 (Int64.ofNat 0) := ⟨_, rfl⟩
    rw [← hz7]
    have fz7_0 : (-1 ≤ z7.toInt ∧ z7.toInt ≤ 1) ∧ (z7.toInt < 0 ↔ y5.toInt < (Int64.ofNat 0).toInt) ∧ (0 < z7.toInt ↔ (Int64.ofNat 0).toInt < y5.toInt) := by rw [hz7]; exact pj_lcI
    cases b8 : pj_c1 .le z7 0 with
    | true =>
      have ub8 := pj_u0_leT b8
      refine pj_X_of (fun r h => pj_R_ifT 50 rfl rfl b8 h) ?_
      exact pj_X_rt rfl rfl ⟨rfl, hI, hK⟩
    | false =>
      have ub8 := pj_u0_leF b8
      refine pj_X_of (fun r h => pj_R_ifF rfl b8 h) ?_
      refine pj_X_of (fun r h => pj_R_to (G0, 39, [(5, .long y5), (3, .long w3), (0, .ref 38), (1, .ref 4), (2, .int c)], [.long y5, .long w3, .ref 4], 0, 0) 39 4 (fun _ => rfl) h) ?_
      refine pj_X_of (fun r h => pj_R_ldv rfl (pj_nzl (by omega)) h) ?_
      show pj_X _ _ G0 40 [(5, .long y5), (3, .long w3), (0, .ref 38), (1, .ref 4), (2, .int c)] [.long (w3 / y5), .ref 4] _
      obtain ⟨w9, hw9⟩ : ∃ z : Int64, z = w3 / y5 := ⟨_, rfl⟩
      rw [← hw9]
      refine pj_X_of (fun r h => pj_R_to (G0, 41, [(5, .long y5), (3, .long w3), (0, .ref 38), (1, .ref 4), (2, .int c)], [.ref 38, .long w9, .ref 4], 0, 0) 41 2 (fun _ => rfl) h) ?_
      refine pj_X_gl hI rfl rfl (fun w10 => ?_)
      show pj_X _ _ G0 44 [(5, .long y5), (3, .long w3), (0, .ref 38), (1, .ref 4), (2, .int c)] [.long w10, .long w9, .ref 4] _
      refine pj_X_of (fun r h => pj_R_to (G0, 46, [(5, .long y5), (3, .long w3), (0, .ref 38), (1, .ref 4), (2, .int c)], [.long y5, .long w10, .long w9, .ref 4], 0, 0) 46 2 (fun _ => rfl) h) ?_
      refine pj_X_of (fun r h => pj_R_ldv rfl (pj_nzl (by omega)) h) ?_
      show pj_X _ _ G0 47 [(5, .long y5), (3, .long w3), (0, .ref 38), (1, .ref 4), (2, .int c)] [.long (w10 / y5), .long w9, .ref 4] _
      obtain ⟨w11, hw11⟩ : ∃ z : Int64, z = w10 / y5 := ⟨_, rfl⟩
      rw [← hw11]
      refine pj_X_ca (vs := [.ref 4, .long w9, .long w11]) rfl (fun _ => rfl) ⟨Nat.le_of_ble_eq_true rfl, Nat.le_of_ble_eq_true rfl, pj_T_rcv hI rfl⟩ ⟨rfl, rfl⟩ (pj_Y_up (by decide) (ct_56x G0 hI w9 w11)) ?_
      rintro _ G13 ⟨rfl, iG13, jG13, fy12⟩
      have kG13 : pj_kpt kc_10 G0 G13 := pj_kpt_t hK (pj_kpt_s jG13 rfl)
      show pj_X _ _ G13 50 [(5, .long y5), (3, .long w3), (0, .ref 38), (1, .ref 4), (2, .int c)] [] _
      exact pj_X_rt rfl rfl ⟨rfl, iG13, kG13⟩
  · refine pj_X_of (fun r h => pj_T_gr hI rfl rfl rfl h) ?_
    refine pj_X_of (fun r h => pj_R_to (G0, 15, [(0, .ref 38), (1, .ref 4), (2, .int c)], [.int c, .ref 19, .ref 45], 0, 0) 15 2 (fun _ => rfl) h) ?_
    refine pj_X_of (fun r h => pj_T_il hI rfl rfl (by omega) (by omega) h) ?_
    show pj_X _ _ G0 16 [(0, .ref 38), (1, .ref 4), (2, .int c)] [.int (pj_ai G0 19 c.toInt.toNat), .ref 45] _
    obtain ⟨z14, hz14⟩ : ∃ z : Int32, z = pj_ai G0 19 c.toInt.toNat := ⟨_, rfl⟩
    rw [← hz14]
    have ez14 : (pj_ai G0 19 c.toInt.toNat).toInt = z14.toInt := by rw [hz14]
    have fz14_0 : (0 : Int) ≤ z14.toInt ∧ z14.toInt ≤ 9 ∧ (z14.toInt ≤ 0 ∨ 0 ≤ z14.toInt) := by rw [hz14]; exact hI.2.2.1 19 (10, 0, 9, 0, 0) rfl _ (by show _ < 10; omega)
    refine pj_X_ll hI rfl rfl (by omega) (by omega) (fun w15 => ?_)
    show pj_X _ _ G0 17 [(0, .ref 38), (1, .ref 4), (2, .int c)] [.long w15] _
    refine pj_X_of (fun r h => pj_R_to (G0, 20, [(3, .long w15), (0, .ref 38), (1, .ref 4), (2, .int c)], [.ref 38, .long w15], 0, 0) 20 4 (fun _ => rfl) h) ?_
    refine pj_X_gl hI rfl rfl (fun w16 => ?_)
    show pj_X _ _ G0 23 [(3, .long w15), (0, .ref 38), (1, .ref 4), (2, .int c)] [.long w16, .long w15] _
    refine pj_X_ca (vs := [.long w15, .long w16]) rfl (fun _ => rfl) ⟨Nat.le_of_ble_eq_true rfl, Nat.le_of_ble_eq_true rfl, rfl⟩ ⟨rfl, rfl⟩ (pj_Y_up (by decide) (ct_11 G0 hI w15 w16)) ?_
    rintro _ _ ⟨y17, rfl, rfl⟩
    show pj_X _ _ G0 26 [(3, .long w15), (0, .ref 38), (1, .ref 4), (2, .int c)] [.long y17] _
    refine pj_X_of (fun r h => pj_R_to (G0, 32, [(5, .long y17), (3, .long w15), (0, .ref 38), (1, .ref 4), (2, .int c)], [.int (lg_cmp y17 (Int64.ofNat 0))], 0, 0) 32 5 (fun _ => rfl) h) ?_
    have lc18 : (Int64.ofNat 0).toInt = 0 := by decide
    obtain ⟨z19, hz19⟩ : ∃ z : Int32, z = lg_cmp y17 (Int64.ofNat 0) := ⟨_, rfl⟩
    rw [← hz19]
    have fz19_0 : (-1 ≤ z19.toInt ∧ z19.toInt ≤ 1) ∧ (z19.toInt < 0 ↔ y17.toInt < (Int64.ofNat 0).toInt) ∧ (0 < z19.toInt ↔ (Int64.ofNat 0).toInt < y17.toInt) := by rw [hz19]; exact pj_lcI
    cases b20 : pj_c1 .le z19 0 with
    | true =>
      have ub20 := pj_u0_leT b20
      refine pj_X_of (fun r h => pj_R_ifT 50 rfl rfl b20 h) ?_
      exact pj_X_rt rfl rfl ⟨rfl, hI, hK⟩
    | false =>
      have ub20 := pj_u0_leF b20
      refine pj_X_of (fun r h => pj_R_ifF rfl b20 h) ?_
      refine pj_X_of (fun r h => pj_R_to (G0, 39, [(5, .long y17), (3, .long w15), (0, .ref 38), (1, .ref 4), (2, .int c)], [.long y17, .long w15, .ref 4], 0, 0) 39 4 (fun _ => rfl) h) ?_
      refine pj_X_of (fun r h => pj_R_ldv rfl (pj_nzl (by omega)) h) ?_
      show pj_X _ _ G0 40 [(5, .long y17), (3, .long w15), (0, .ref 38), (1, .ref 4), (2, .int c)] [.long (w15 / y17), .ref 4] _
      obtain ⟨w21, hw21⟩ : ∃ z : Int64, z = w15 / y17 := ⟨_, rfl⟩
      rw [← hw21]
      refine pj_X_of (fun r h => pj_R_to (G0, 41, [(5, .long y17), (3, .long w15), (0, .ref 38), (1, .ref 4), (2, .int c)], [.ref 38, .long w21, .ref 4], 0, 0) 41 2 (fun _ => rfl) h) ?_
      refine pj_X_gl hI rfl rfl (fun w22 => ?_)
      show pj_X _ _ G0 44 [(5, .long y17), (3, .long w15), (0, .ref 38), (1, .ref 4), (2, .int c)] [.long w22, .long w21, .ref 4] _
      refine pj_X_of (fun r h => pj_R_to (G0, 46, [(5, .long y17), (3, .long w15), (0, .ref 38), (1, .ref 4), (2, .int c)], [.long y17, .long w22, .long w21, .ref 4], 0, 0) 46 2 (fun _ => rfl) h) ?_
      refine pj_X_of (fun r h => pj_R_ldv rfl (pj_nzl (by omega)) h) ?_
      show pj_X _ _ G0 47 [(5, .long y17), (3, .long w15), (0, .ref 38), (1, .ref 4), (2, .int c)] [.long (w22 / y17), .long w21, .ref 4] _
      obtain ⟨w23, hw23⟩ : ∃ z : Int64, z = w22 / y17 := ⟨_, rfl⟩
      rw [← hw23]
      refine pj_X_ca (vs := [.ref 4, .long w21, .long w23]) rfl (fun _ => rfl) ⟨Nat.le_of_ble_eq_true rfl, Nat.le_of_ble_eq_true rfl, pj_T_rcv hI rfl⟩ ⟨rfl, rfl⟩ (pj_Y_up (by decide) (ct_56x G0 hI w21 w23)) ?_
      rintro _ G25 ⟨rfl, iG25, jG25, fy24⟩
      have kG25 : pj_kpt kc_10 G0 G25 := pj_kpt_t hK (pj_kpt_s jG25 rfl)
      show pj_X _ _ G25 50 [(5, .long y17), (3, .long w15), (0, .ref 38), (1, .ref 4), (2, .int c)] [] _
      exact pj_X_rt rfl rfl ⟨rfl, iG25, kG25⟩
def kc_13 : pj_KT := ([], [40], [40])
theorem ct_13 (G0 : pj_G) (hI : pj_Inv G0) (b : Int32) (rb : (0 : Int) ≤ b.toInt ∧ b.toInt ≤ 5) : pj_Y 3 13 [.ref 38, .int b] G0 (fun v G' => ∃ y : Int32, v = some (.int y) ∧ pj_Inv G' ∧ pj_kpt kc_13 G0 G' ∧ ((0 : Int) ≤ y.toInt ∧ y.toInt ≤ 1)) := by
  have c0_ : (Int32.ofInt (-1)).toInt = -1 := by decide
  have c1_ : (Int32.ofInt 0).toInt = 0 := by decide
  have c2_ : (Int32.ofInt 1).toInt = 1 := by decide
  refine pj_Y_X (M := pj_m13) rfl rfl (Nat.le_of_ble_eq_true rfl) ?_
  have hK : pj_kpt kc_13 G0 G0 := pj_kpt_r _ _
  show pj_X _ _ G0 0 [(0, .ref 38), (1, .int b)] [] _
  refine pj_X_of (fun r h => pj_R_to (G0, 1, [(0, .ref 38), (1, .int b)], [.ref 38], 0, 0) 1 2 (fun _ => rfl) h) ?_
  refine pj_X_of (fun r h => pj_T_gr hI rfl rfl rfl h) ?_
  refine pj_X_of (fun r h => pj_R_to (G0, 5, [(0, .ref 38), (1, .int b)], [.int b, .ref 39], 0, 0) 5 2 (fun _ => rfl) h) ?_
  refine pj_X_ca (vs := [.ref 39, .int b]) rfl (fun _ => rfl) ⟨Nat.le_of_ble_eq_true rfl, Nat.le_of_ble_eq_true rfl, pj_T_rcv hI rfl⟩ ⟨rfl, rfl⟩ (pj_Y_up (by decide) (ct_69_39x G0 hI b ⟨by omega, by omega⟩)) ?_
  rintro _ _ ⟨y1, rfl, rfl, ry1, ey1, fy1⟩
  replace ey1 := ey1 _ rfl
  show pj_X _ _ G0 8 [(0, .ref 38), (1, .int b)] [.int y1] _
  cases b2 : pj_c1 .eq y1 0 with
  | true =>
    have ub2 := pj_u0_eqT b2
    refine pj_X_of (fun r h => pj_R_ifT 33 rfl rfl b2 h) ?_
    refine pj_X_of (fun r h => pj_R_to (G0, 37, [(2, .int (Int32.ofInt (-1))), (0, .ref 38), (1, .int b)], [.int (Int32.ofInt (-1)), .int (Int32.ofInt (-1))], 0, 0) 37 5 (fun _ => rfl) h) ?_
    refine pj_X_of (fun r h => pj_R_icF rfl (pj_b_neF (by omega)) h) ?_
    refine pj_X_of (fun r h => pj_R_to (G0, 41, [(2, .int (Int32.ofInt (-1))), (0, .ref 38), (1, .int b)], [.int (Int32.ofInt 0)], 0, 0) 41 2 (fun _ => rfl) h) ?_
    exact pj_X_rt rfl rfl ⟨_, rfl, hI, hK, ⟨by omega, by omega⟩⟩
  | false =>
    have ub2 := pj_u0_eqF b2
    refine pj_X_of (fun r h => pj_R_ifF rfl b2 h) ?_
    refine pj_X_of (fun r h => pj_R_to (G0, 12, [(0, .ref 38), (1, .int b)], [.ref 38], 0, 0) 12 2 (fun _ => rfl) h) ?_
    refine pj_X_of (fun r h => pj_T_gr hI rfl rfl rfl h) ?_
    refine pj_X_gm hI rfl rfl (fun q3 => ?_) (fun q3 => ?_)
    · refine pj_X_of (fun r h => pj_R_to (G0, 19, [(0, .ref 38), (1, .int b)], [.ref 38, .ref 7], 0, 0) 19 2 (fun _ => rfl) h) ?_
      refine pj_X_of (fun r h => pj_T_gr hI rfl rfl rfl h) ?_
      refine pj_X_of (fun r h => pj_T_gr hI rfl rfl rfl h) ?_
      refine pj_X_of (fun r h => pj_R_to (G0, 26, [(0, .ref 38), (1, .int b)], [.int b, .ref 40, .ref 7], 0, 0) 26 2 (fun _ => rfl) h) ?_
      refine pj_X_of (fun r h => pj_T_il hI rfl rfl (by omega) (by omega) h) ?_
      show pj_X _ _ G0 27 [(0, .ref 38), (1, .int b)] [.int (pj_ai G0 40 b.toInt.toNat), .ref 7] _
      obtain ⟨z4, hz4⟩ : ∃ z : Int32, z = pj_ai G0 40 b.toInt.toNat := ⟨_, rfl⟩
      rw [← hz4]
      have ez4 : (pj_ai G0 40 b.toInt.toNat).toInt = z4.toInt := by rw [hz4]
      have fz4_0 : (-1 : Int) ≤ z4.toInt ∧ z4.toInt ≤ 9 ∧ (z4.toInt ≤ -1 ∨ -1 ≤ z4.toInt) := by rw [hz4]; exact hI.2.2.1 40 (6, -1, 9, -1, -1) rfl _ (by show _ < 6; omega)
      refine pj_X_ca (vs := [.ref 7, .int z4]) rfl (fun _ => rfl) ⟨Nat.le_of_ble_eq_true rfl, Nat.le_of_ble_eq_true rfl, pj_T_rcv hI rfl⟩ ⟨rfl, rfl⟩ (pj_Y_up (by decide) (ct_43_7 G0 hI z4 ⟨by omega, by omega⟩)) ?_
      rintro _ _ ⟨y5, rfl, rfl, ry5⟩
      show pj_X _ _ G0 30 [(0, .ref 38), (1, .int b)] [.int y5] _
      refine pj_X_of (fun r h => pj_R_to (G0, 37, [(2, .int y5), (0, .ref 38), (1, .int b)], [.int (Int32.ofInt (-1)), .int y5], 0, 0) 37 5 (fun _ => rfl) h) ?_
      cases b6 : pj_c1 .ne y5 (Int32.ofInt (-1)) with
      | true =>
        have ub6 := pj_u_neT b6
        refine pj_X_of (fun r h => pj_R_icT 42 rfl rfl b6 h) ?_
        refine pj_X_of (fun r h => pj_R_to (G0, 43, [(2, .int y5), (0, .ref 38), (1, .int b)], [.ref 38], 0, 0) 43 2 (fun _ => rfl) h) ?_
        refine pj_X_of (fun r h => pj_T_gr hI rfl rfl rfl h) ?_
        refine pj_X_of (fun r h => pj_R_to (G0, 47, [(2, .int y5), (0, .ref 38), (1, .int b)], [.int y5, .ref 39], 0, 0) 47 2 (fun _ => rfl) h) ?_
        refine pj_X_ca (vs := [.ref 39, .int y5]) rfl (fun _ => rfl) ⟨Nat.le_of_ble_eq_true rfl, Nat.le_of_ble_eq_true rfl, pj_T_rcv hI rfl⟩ ⟨rfl, rfl⟩ (pj_Y_up (by decide) (ct_72_39x G0 hI y5)) ?_
        rintro _ _ ⟨y7, rfl, rfl, ry7, fy7⟩
        show pj_X _ _ G0 50 [(2, .int y5), (0, .ref 38), (1, .int b)] [.int y7] _
        cases b8 : pj_c1 .eq y7 0 with
        | true =>
          have ub8 := pj_u0_eqT b8
          refine pj_X_of (fun r h => pj_R_ifT 89 rfl rfl b8 h) ?_
          refine pj_X_of (fun r h => pj_R_to (G0, 90, [(2, .int y5), (0, .ref 38), (1, .int b)], [.ref 38], 0, 0) 90 2 (fun _ => rfl) h) ?_
          refine pj_X_of (fun r h => pj_T_gr hI rfl rfl rfl h) ?_
          refine pj_X_of (fun r h => pj_T_gr hI rfl rfl rfl h) ?_
          refine pj_X_of (fun r h => pj_R_to (G0, 98, [(2, .int y5), (0, .ref 38), (1, .int b)], [.int (Int32.ofInt (-1)), .int b, .ref 40], 0, 0) 98 3 (fun _ => rfl) h) ?_
          refine pj_X_of (fun r h => pj_T_is hI rfl rfl (by omega) (by omega) h) ?_
          show pj_X _ _ (pj_wa G0 40 b.toInt.toNat (Int32.ofInt (-1))) 99 [(2, .int y5), (0, .ref 38), (1, .int b)] [] _
          obtain ⟨G9, hG9⟩ : ∃ H, H = pj_wa G0 40 b.toInt.toNat (Int32.ofInt (-1)) := ⟨_, rfl⟩
          have iG9 : pj_Inv G9 := by rw [hG9]; exact pj_Inv_wa hI rfl (fun q hq => by cases hq; exact ⟨by show (-1 : Int) ≤ _; omega, by show _ ≤ (9 : Int); omega, by show _ ≤ (-1 : Int) ∨ (-1 : Int) ≤ _; omega⟩) (fun n hn => by cases hn)
          have kG9 : pj_kpt kc_13 G0 G9 := by rw [hG9]; exact pj_kpt_a hK rfl
          rw [← hG9]
          refine pj_X_of (fun r h => pj_R_to (G9, 100, [(2, .int y5), (0, .ref 38), (1, .int b)], [.int (Int32.ofInt 1)], 0, 0) 100 2 (fun _ => rfl) h) ?_
          exact pj_X_rt rfl rfl ⟨_, rfl, iG9, kG9, ⟨by omega, by omega⟩⟩
        | false =>
          have ub8 := pj_u0_eqF b8
          refine pj_X_of (fun r h => pj_R_ifF rfl b8 h) ?_
          refine pj_X_of (fun r h => pj_R_to (G0, 54, [(2, .int y5), (0, .ref 38), (1, .int b)], [.ref 38], 0, 0) 54 2 (fun _ => rfl) h) ?_
          refine pj_X_of (fun r h => pj_T_gr hI rfl rfl rfl h) ?_
          refine pj_X_of (fun r h => pj_T_gr hI rfl rfl rfl h) ?_
          refine pj_X_of (fun r h => pj_R_to (G0, 61, [(2, .int y5), (0, .ref 38), (1, .int b)], [.int b, .ref 31], 0, 0) 61 2 (fun _ => rfl) h) ?_
          refine pj_X_of (fun r h => pj_T_il hI rfl rfl (by omega) (by omega) h) ?_
          show pj_X _ _ G0 62 [(2, .int y5), (0, .ref 38), (1, .int b)] [.int (pj_ai G0 31 b.toInt.toNat)] _
          obtain ⟨z10, hz10⟩ : ∃ z : Int32, z = pj_ai G0 31 b.toInt.toNat := ⟨_, rfl⟩
          rw [← hz10]
          have ez10 : (pj_ai G0 31 b.toInt.toNat).toInt = z10.toInt := by rw [hz10]
          refine pj_X_of (fun r h => pj_R_to (G0, 63, [(2, .int y5), (0, .ref 38), (1, .int b)], [.ref 38, .int z10], 0, 0) 63 2 (fun _ => rfl) h) ?_
          refine pj_X_of (fun r h => pj_T_gr hI rfl rfl rfl h) ?_
          refine pj_X_gk hI rfl rfl q3 ?_
          refine pj_X_of (fun r h => pj_T_gr hI rfl rfl rfl h) ?_
          refine pj_X_of (fun r h => pj_R_to (G0, 73, [(2, .int y5), (0, .ref 38), (1, .int b)], [.int y5, .ref 11, .int z10], 0, 0) 73 2 (fun _ => rfl) h) ?_
          refine pj_X_of (fun r h => pj_T_il hI rfl rfl (by omega) (by omega) h) ?_
          show pj_X _ _ G0 74 [(2, .int y5), (0, .ref 38), (1, .int b)] [.int (pj_ai G0 11 y5.toInt.toNat), .int z10] _
          obtain ⟨z11, hz11⟩ : ∃ z : Int32, z = pj_ai G0 11 y5.toInt.toNat := ⟨_, rfl⟩
          rw [← hz11]
          have ez11 : (pj_ai G0 11 y5.toInt.toNat).toInt = z11.toInt := by rw [hz11]
          have fz11_0 : (0 : Int) ≤ z11.toInt ∧ z11.toInt ≤ 9 ∧ (z11.toInt ≤ 0 ∨ 0 ≤ z11.toInt) := by rw [hz11]; exact hI.2.2.1 11 (10, 0, 9, 0, 0) rfl _ (by show _ < 10; omega)
          cases b12 : pj_c1 .lt z10 z11 with
          | true =>
            have ub12 := pj_u_ltT b12
            refine pj_X_of (fun r h => pj_R_icT 89 rfl rfl b12 h) ?_
            refine pj_X_of (fun r h => pj_R_to (G0, 90, [(2, .int y5), (0, .ref 38), (1, .int b)], [.ref 38], 0, 0) 90 2 (fun _ => rfl) h) ?_
            refine pj_X_of (fun r h => pj_T_gr hI rfl rfl rfl h) ?_
            refine pj_X_of (fun r h => pj_T_gr hI rfl rfl rfl h) ?_
            refine pj_X_of (fun r h => pj_R_to (G0, 98, [(2, .int y5), (0, .ref 38), (1, .int b)], [.int (Int32.ofInt (-1)), .int b, .ref 40], 0, 0) 98 3 (fun _ => rfl) h) ?_
            refine pj_X_of (fun r h => pj_T_is hI rfl rfl (by omega) (by omega) h) ?_
            show pj_X _ _ (pj_wa G0 40 b.toInt.toNat (Int32.ofInt (-1))) 99 [(2, .int y5), (0, .ref 38), (1, .int b)] [] _
            obtain ⟨G13, hG13⟩ : ∃ H, H = pj_wa G0 40 b.toInt.toNat (Int32.ofInt (-1)) := ⟨_, rfl⟩
            have iG13 : pj_Inv G13 := by rw [hG13]; exact pj_Inv_wa hI rfl (fun q hq => by cases hq; exact ⟨by show (-1 : Int) ≤ _; omega, by show _ ≤ (9 : Int); omega, by show _ ≤ (-1 : Int) ∨ (-1 : Int) ≤ _; omega⟩) (fun n hn => by cases hn)
            have kG13 : pj_kpt kc_13 G0 G13 := by rw [hG13]; exact pj_kpt_a hK rfl
            rw [← hG13]
            refine pj_X_of (fun r h => pj_R_to (G13, 100, [(2, .int y5), (0, .ref 38), (1, .int b)], [.int (Int32.ofInt 1)], 0, 0) 100 2 (fun _ => rfl) h) ?_
            exact pj_X_rt rfl rfl ⟨_, rfl, iG13, kG13, ⟨by omega, by omega⟩⟩
          | false =>
            have ub12 := pj_u_ltF b12
            refine pj_X_of (fun r h => pj_R_icF rfl b12 h) ?_
            refine pj_X_of (fun r h => pj_R_to (G0, 78, [(2, .int y5), (0, .ref 38), (1, .int b)], [.ref 38], 0, 0) 78 2 (fun _ => rfl) h) ?_
            refine pj_X_of (fun r h => pj_T_gr hI rfl rfl rfl h) ?_
            refine pj_X_of (fun r h => pj_T_gr hI rfl rfl rfl h) ?_
            refine pj_X_of (fun r h => pj_R_to (G0, 86, [(2, .int y5), (0, .ref 38), (1, .int b)], [.int y5, .int b, .ref 40], 0, 0) 86 3 (fun _ => rfl) h) ?_
            refine pj_X_of (fun r h => pj_T_is hI rfl rfl (by omega) (by omega) h) ?_
            show pj_X _ _ (pj_wa G0 40 b.toInt.toNat y5) 87 [(2, .int y5), (0, .ref 38), (1, .int b)] [] _
            obtain ⟨G14, hG14⟩ : ∃ H, H = pj_wa G0 40 b.toInt.toNat y5 := ⟨_, rfl⟩
            have iG14 : pj_Inv G14 := by rw [hG14]; exact pj_Inv_wa hI rfl (fun q hq => by cases hq; exact ⟨by show (-1 : Int) ≤ _; omega, by show _ ≤ (9 : Int); omega, by show _ ≤ (-1 : Int) ∨ (-1 : Int) ≤ _; omega⟩) (fun n hn => by cases hn)
            have kG14 : pj_kpt kc_13 G0 G14 := by rw [hG14]; exact pj_kpt_a hK rfl
            rw [← hG14]
            refine pj_X_of (fun r h => pj_R_to (G14, 88, [(2, .int y5), (0, .ref 38), (1, .int b)], [.int (Int32.ofInt 0)], 0, 0) 88 2 (fun _ => rfl) h) ?_
            exact pj_X_rt rfl rfl ⟨_, rfl, iG14, kG14, ⟨by omega, by omega⟩⟩
      | false =>
        have ub6 := pj_u_neF b6
        refine pj_X_of (fun r h => pj_R_icF rfl b6 h) ?_
        refine pj_X_of (fun r h => pj_R_to (G0, 41, [(2, .int y5), (0, .ref 38), (1, .int b)], [.int (Int32.ofInt 0)], 0, 0) 41 2 (fun _ => rfl) h) ?_
        exact pj_X_rt rfl rfl ⟨_, rfl, hI, hK, ⟨by omega, by omega⟩⟩
    · refine pj_X_of (fun r h => pj_R_to (G0, 19, [(0, .ref 38), (1, .int b)], [.ref 38, .ref 14], 0, 0) 19 2 (fun _ => rfl) h) ?_
      refine pj_X_of (fun r h => pj_T_gr hI rfl rfl rfl h) ?_
      refine pj_X_of (fun r h => pj_T_gr hI rfl rfl rfl h) ?_
      refine pj_X_of (fun r h => pj_R_to (G0, 26, [(0, .ref 38), (1, .int b)], [.int b, .ref 40, .ref 14], 0, 0) 26 2 (fun _ => rfl) h) ?_
      refine pj_X_of (fun r h => pj_T_il hI rfl rfl (by omega) (by omega) h) ?_
      show pj_X _ _ G0 27 [(0, .ref 38), (1, .int b)] [.int (pj_ai G0 40 b.toInt.toNat), .ref 14] _
      obtain ⟨z15, hz15⟩ : ∃ z : Int32, z = pj_ai G0 40 b.toInt.toNat := ⟨_, rfl⟩
      rw [← hz15]
      have ez15 : (pj_ai G0 40 b.toInt.toNat).toInt = z15.toInt := by rw [hz15]
      have fz15_0 : (-1 : Int) ≤ z15.toInt ∧ z15.toInt ≤ 9 ∧ (z15.toInt ≤ -1 ∨ -1 ≤ z15.toInt) := by rw [hz15]; exact hI.2.2.1 40 (6, -1, 9, -1, -1) rfl _ (by show _ < 6; omega)
      refine pj_X_ca (vs := [.ref 14, .int z15]) rfl (fun _ => rfl) ⟨Nat.le_of_ble_eq_true rfl, Nat.le_of_ble_eq_true rfl, pj_T_rcv hI rfl⟩ ⟨rfl, rfl⟩ (pj_Y_up (by decide) (ct_43_14 G0 hI z15 ⟨by omega, by omega⟩)) ?_
      rintro _ _ ⟨y16, rfl, rfl, ry16⟩
      show pj_X _ _ G0 30 [(0, .ref 38), (1, .int b)] [.int y16] _
      refine pj_X_of (fun r h => pj_R_to (G0, 37, [(2, .int y16), (0, .ref 38), (1, .int b)], [.int (Int32.ofInt (-1)), .int y16], 0, 0) 37 5 (fun _ => rfl) h) ?_
      cases b17 : pj_c1 .ne y16 (Int32.ofInt (-1)) with
      | true =>
        have ub17 := pj_u_neT b17
        refine pj_X_of (fun r h => pj_R_icT 42 rfl rfl b17 h) ?_
        refine pj_X_of (fun r h => pj_R_to (G0, 43, [(2, .int y16), (0, .ref 38), (1, .int b)], [.ref 38], 0, 0) 43 2 (fun _ => rfl) h) ?_
        refine pj_X_of (fun r h => pj_T_gr hI rfl rfl rfl h) ?_
        refine pj_X_of (fun r h => pj_R_to (G0, 47, [(2, .int y16), (0, .ref 38), (1, .int b)], [.int y16, .ref 39], 0, 0) 47 2 (fun _ => rfl) h) ?_
        refine pj_X_ca (vs := [.ref 39, .int y16]) rfl (fun _ => rfl) ⟨Nat.le_of_ble_eq_true rfl, Nat.le_of_ble_eq_true rfl, pj_T_rcv hI rfl⟩ ⟨rfl, rfl⟩ (pj_Y_up (by decide) (ct_72_39x G0 hI y16)) ?_
        rintro _ _ ⟨y18, rfl, rfl, ry18, fy18⟩
        show pj_X _ _ G0 50 [(2, .int y16), (0, .ref 38), (1, .int b)] [.int y18] _
        cases b19 : pj_c1 .eq y18 0 with
        | true =>
          have ub19 := pj_u0_eqT b19
          refine pj_X_of (fun r h => pj_R_ifT 89 rfl rfl b19 h) ?_
          refine pj_X_of (fun r h => pj_R_to (G0, 90, [(2, .int y16), (0, .ref 38), (1, .int b)], [.ref 38], 0, 0) 90 2 (fun _ => rfl) h) ?_
          refine pj_X_of (fun r h => pj_T_gr hI rfl rfl rfl h) ?_
          refine pj_X_of (fun r h => pj_T_gr hI rfl rfl rfl h) ?_
          refine pj_X_of (fun r h => pj_R_to (G0, 98, [(2, .int y16), (0, .ref 38), (1, .int b)], [.int (Int32.ofInt (-1)), .int b, .ref 40], 0, 0) 98 3 (fun _ => rfl) h) ?_
          refine pj_X_of (fun r h => pj_T_is hI rfl rfl (by omega) (by omega) h) ?_
          show pj_X _ _ (pj_wa G0 40 b.toInt.toNat (Int32.ofInt (-1))) 99 [(2, .int y16), (0, .ref 38), (1, .int b)] [] _
          obtain ⟨G20, hG20⟩ : ∃ H, H = pj_wa G0 40 b.toInt.toNat (Int32.ofInt (-1)) := ⟨_, rfl⟩
          have iG20 : pj_Inv G20 := by rw [hG20]; exact pj_Inv_wa hI rfl (fun q hq => by cases hq; exact ⟨by show (-1 : Int) ≤ _; omega, by show _ ≤ (9 : Int); omega, by show _ ≤ (-1 : Int) ∨ (-1 : Int) ≤ _; omega⟩) (fun n hn => by cases hn)
          have kG20 : pj_kpt kc_13 G0 G20 := by rw [hG20]; exact pj_kpt_a hK rfl
          rw [← hG20]
          refine pj_X_of (fun r h => pj_R_to (G20, 100, [(2, .int y16), (0, .ref 38), (1, .int b)], [.int (Int32.ofInt 1)], 0, 0) 100 2 (fun _ => rfl) h) ?_
          exact pj_X_rt rfl rfl ⟨_, rfl, iG20, kG20, ⟨by omega, by omega⟩⟩
        | false =>
          have ub19 := pj_u0_eqF b19
          refine pj_X_of (fun r h => pj_R_ifF rfl b19 h) ?_
          refine pj_X_of (fun r h => pj_R_to (G0, 54, [(2, .int y16), (0, .ref 38), (1, .int b)], [.ref 38], 0, 0) 54 2 (fun _ => rfl) h) ?_
          refine pj_X_of (fun r h => pj_T_gr hI rfl rfl rfl h) ?_
          refine pj_X_of (fun r h => pj_T_gr hI rfl rfl rfl h) ?_
          refine pj_X_of (fun r h => pj_R_to (G0, 61, [(2, .int y16), (0, .ref 38), (1, .int b)], [.int b, .ref 31], 0, 0) 61 2 (fun _ => rfl) h) ?_
          refine pj_X_of (fun r h => pj_T_il hI rfl rfl (by omega) (by omega) h) ?_
          show pj_X _ _ G0 62 [(2, .int y16), (0, .ref 38), (1, .int b)] [.int (pj_ai G0 31 b.toInt.toNat)] _
          obtain ⟨z21, hz21⟩ : ∃ z : Int32, z = pj_ai G0 31 b.toInt.toNat := ⟨_, rfl⟩
          rw [← hz21]
          have ez21 : (pj_ai G0 31 b.toInt.toNat).toInt = z21.toInt := by rw [hz21]
          refine pj_X_of (fun r h => pj_R_to (G0, 63, [(2, .int y16), (0, .ref 38), (1, .int b)], [.ref 38, .int z21], 0, 0) 63 2 (fun _ => rfl) h) ?_
          refine pj_X_of (fun r h => pj_T_gr hI rfl rfl rfl h) ?_
          refine pj_X_gk hI rfl rfl q3 ?_
          refine pj_X_of (fun r h => pj_T_gr hI rfl rfl rfl h) ?_
          refine pj_X_of (fun r h => pj_R_to (G0, 73, [(2, .int y16), (0, .ref 38), (1, .int b)], [.int y16, .ref 18, .int z21], 0, 0) 73 2 (fun _ => rfl) h) ?_
          refine pj_X_of (fun r h => pj_T_il hI rfl rfl (by omega) (by omega) h) ?_
          show pj_X _ _ G0 74 [(2, .int y16), (0, .ref 38), (1, .int b)] [.int (pj_ai G0 18 y16.toInt.toNat), .int z21] _
          obtain ⟨z22, hz22⟩ : ∃ z : Int32, z = pj_ai G0 18 y16.toInt.toNat := ⟨_, rfl⟩
          rw [← hz22]
          have ez22 : (pj_ai G0 18 y16.toInt.toNat).toInt = z22.toInt := by rw [hz22]
          have fz22_0 : (0 : Int) ≤ z22.toInt ∧ z22.toInt ≤ 9 ∧ (z22.toInt ≤ 0 ∨ 0 ≤ z22.toInt) := by rw [hz22]; exact hI.2.2.1 18 (10, 0, 9, 0, 0) rfl _ (by show _ < 10; omega)
          cases b23 : pj_c1 .lt z21 z22 with
          | true =>
            have ub23 := pj_u_ltT b23
            refine pj_X_of (fun r h => pj_R_icT 89 rfl rfl b23 h) ?_
            refine pj_X_of (fun r h => pj_R_to (G0, 90, [(2, .int y16), (0, .ref 38), (1, .int b)], [.ref 38], 0, 0) 90 2 (fun _ => rfl) h) ?_
            refine pj_X_of (fun r h => pj_T_gr hI rfl rfl rfl h) ?_
            refine pj_X_of (fun r h => pj_T_gr hI rfl rfl rfl h) ?_
            refine pj_X_of (fun r h => pj_R_to (G0, 98, [(2, .int y16), (0, .ref 38), (1, .int b)], [.int (Int32.ofInt (-1)), .int b, .ref 40], 0, 0) 98 3 (fun _ => rfl) h) ?_
            refine pj_X_of (fun r h => pj_T_is hI rfl rfl (by omega) (by omega) h) ?_
            show pj_X _ _ (pj_wa G0 40 b.toInt.toNat (Int32.ofInt (-1))) 99 [(2, .int y16), (0, .ref 38), (1, .int b)] [] _
            obtain ⟨G24, hG24⟩ : ∃ H, H = pj_wa G0 40 b.toInt.toNat (Int32.ofInt (-1)) := ⟨_, rfl⟩
            have iG24 : pj_Inv G24 := by rw [hG24]; exact pj_Inv_wa hI rfl (fun q hq => by cases hq; exact ⟨by show (-1 : Int) ≤ _; omega, by show _ ≤ (9 : Int); omega, by show _ ≤ (-1 : Int) ∨ (-1 : Int) ≤ _; omega⟩) (fun n hn => by cases hn)
            have kG24 : pj_kpt kc_13 G0 G24 := by rw [hG24]; exact pj_kpt_a hK rfl
            rw [← hG24]
            refine pj_X_of (fun r h => pj_R_to (G24, 100, [(2, .int y16), (0, .ref 38), (1, .int b)], [.int (Int32.ofInt 1)], 0, 0) 100 2 (fun _ => rfl) h) ?_
            exact pj_X_rt rfl rfl ⟨_, rfl, iG24, kG24, ⟨by omega, by omega⟩⟩
          | false =>
            have ub23 := pj_u_ltF b23
            refine pj_X_of (fun r h => pj_R_icF rfl b23 h) ?_
            refine pj_X_of (fun r h => pj_R_to (G0, 78, [(2, .int y16), (0, .ref 38), (1, .int b)], [.ref 38], 0, 0) 78 2 (fun _ => rfl) h) ?_
            refine pj_X_of (fun r h => pj_T_gr hI rfl rfl rfl h) ?_
            refine pj_X_of (fun r h => pj_T_gr hI rfl rfl rfl h) ?_
            refine pj_X_of (fun r h => pj_R_to (G0, 86, [(2, .int y16), (0, .ref 38), (1, .int b)], [.int y16, .int b, .ref 40], 0, 0) 86 3 (fun _ => rfl) h) ?_
            refine pj_X_of (fun r h => pj_T_is hI rfl rfl (by omega) (by omega) h) ?_
            show pj_X _ _ (pj_wa G0 40 b.toInt.toNat y16) 87 [(2, .int y16), (0, .ref 38), (1, .int b)] [] _
            obtain ⟨G25, hG25⟩ : ∃ H, H = pj_wa G0 40 b.toInt.toNat y16 := ⟨_, rfl⟩
            have iG25 : pj_Inv G25 := by rw [hG25]; exact pj_Inv_wa hI rfl (fun q hq => by cases hq; exact ⟨by show (-1 : Int) ≤ _; omega, by show _ ≤ (9 : Int); omega, by show _ ≤ (-1 : Int) ∨ (-1 : Int) ≤ _; omega⟩) (fun n hn => by cases hn)
            have kG25 : pj_kpt kc_13 G0 G25 := by rw [hG25]; exact pj_kpt_a hK rfl
            rw [← hG25]
            refine pj_X_of (fun r h => pj_R_to (G25, 88, [(2, .int y16), (0, .ref 38), (1, .int b)], [.int (Int32.ofInt 0)], 0, 0) 88 2 (fun _ => rfl) h) ?_
            exact pj_X_rt rfl rfl ⟨_, rfl, iG25, kG25, ⟨by omega, by omega⟩⟩
      | false =>
        have ub17 := pj_u_neF b17
        refine pj_X_of (fun r h => pj_R_icF rfl b17 h) ?_
        refine pj_X_of (fun r h => pj_R_to (G0, 41, [(2, .int y16), (0, .ref 38), (1, .int b)], [.int (Int32.ofInt 0)], 0, 0) 41 2 (fun _ => rfl) h) ?_
        exact pj_X_rt rfl rfl ⟨_, rfl, hI, hK, ⟨by omega, by omega⟩⟩
theorem lp_ct_14 (G0 : pj_G) (hI : pj_Inv G0) : ∀ mn : Nat, (∀ (v1 : Int32) (v2 : Int32), ((-2147483648 : Int) ≤ v1.toInt ∧ v1.toInt ≤ 2147483647) → ((0 : Int) ≤ v2.toInt ∧ v2.toInt ≤ 6) → 6 - v2.toInt < (mn : Int) → pj_X 4 pj_m14 G0 4 [(0, .ref 38), (1, .int v1), (2, .int v2)] [] (fun v G' => ∃ y : Int32, v = some (.int y) ∧ G0 = G' ∧ ((-2147483648 : Int) ≤ y.toInt ∧ y.toInt ≤ 2147483647))) := by
  have c0_ : (Int32.ofInt 0).toInt = 0 := by decide
  have c1_ : (Int32.ofInt 1).toInt = 1 := by decide
  have hK : pj_kpt ([], [], []) G0 G0 := pj_kpt_r _ _
  intro mn
  induction mn with
  | zero =>
    intro v1 v2 rv1 rv2 hm
    exfalso
    omega
  | succ mn ih =>
    intro v1 v2 rv1 rv2 hm
    refine pj_X_of (fun r h => pj_R_to (G0, 6, [(0, .ref 38), (1, .int v1), (2, .int v2)], [.ref 38, .int v2], 0, 0) 6 3 (fun _ => rfl) h) ?_
    refine pj_X_of (fun r h => pj_T_gr hI rfl rfl rfl h) ?_
    refine pj_X_of (fun r h => pj_T_gi hI rfl rfl h) ?_
    show pj_X _ _ G0 12 [(0, .ref 38), (1, .int v1), (2, .int v2)] [.int (pj_fi G0 39 0), .int v2] _
    obtain ⟨y1, hy1⟩ : ∃ z : Int32, z = pj_fi G0 39 0 := ⟨_, rfl⟩
    rw [← hy1]
    have ey1 : (pj_fi G0 39 0).toInt = y1.toInt := by rw [hy1]
    have ry1 : (0 : Int) ≤ y1.toInt ∧ y1.toInt ≤ 6 := by rw [hy1]; exact hI.2.1 39 0 (0, 6) rfl
    cases b2 : pj_c1 .ge v2 y1 with
    | true =>
      have ub2 := pj_u_geT b2
      refine pj_X_of (fun r h => pj_R_icT 50 rfl rfl b2 h) ?_
      refine pj_X_of (fun r h => pj_R_to (G0, 51, [(0, .ref 38), (1, .int v1), (2, .int v2)], [.ref 38], 0, 0) 51 2 (fun _ => rfl) h) ?_
      refine pj_X_of (fun r h => pj_T_gr hI rfl rfl rfl h) ?_
      refine pj_X_gm hI rfl rfl (fun q3 => ?_) (fun q3 => ?_)
      · refine pj_X_of (fun r h => pj_R_to (G0, 58, [(0, .ref 38), (1, .int v1), (2, .int v2)], [.int v1, .ref 7], 0, 0) 58 2 (fun _ => rfl) h) ?_
        refine pj_X_ca (vs := [.ref 7, .int v1]) rfl (fun _ => rfl) ⟨Nat.le_of_ble_eq_true rfl, Nat.le_of_ble_eq_true rfl, pj_T_rcv hI rfl⟩ ⟨rfl, rfl⟩ (pj_Y_up (by decide) (ct_49_7 G0 hI v1)) ?_
        rintro _ _ ⟨y4, rfl, rfl, ry4⟩
        show pj_X _ _ G0 61 [(0, .ref 38), (1, .int v1), (2, .int v2)] [.int y4] _
        exact pj_X_rt rfl rfl ⟨_, rfl, rfl, pj_i32 _⟩
      · refine pj_X_of (fun r h => pj_R_to (G0, 58, [(0, .ref 38), (1, .int v1), (2, .int v2)], [.int v1, .ref 14], 0, 0) 58 2 (fun _ => rfl) h) ?_
        refine pj_X_ca (vs := [.ref 14, .int v1]) rfl (fun _ => rfl) ⟨Nat.le_of_ble_eq_true rfl, Nat.le_of_ble_eq_true rfl, pj_T_rcv hI rfl⟩ ⟨rfl, rfl⟩ (pj_Y_up (by decide) (ct_49_14 G0 hI v1)) ?_
        rintro _ _ ⟨y5, rfl, rfl, ry5⟩
        show pj_X _ _ G0 61 [(0, .ref 38), (1, .int v1), (2, .int v2)] [.int y5] _
        exact pj_X_rt rfl rfl ⟨_, rfl, rfl, pj_i32 _⟩
    | false =>
      have ub2 := pj_u_geF b2
      refine pj_X_of (fun r h => pj_R_icF rfl b2 h) ?_
      refine pj_X_of (fun r h => pj_R_to (G0, 17, [(0, .ref 38), (1, .int v1), (2, .int v2)], [.ref 38, .int v1], 0, 0) 17 3 (fun _ => rfl) h) ?_
      refine pj_X_of (fun r h => pj_T_gr hI rfl rfl rfl h) ?_
      refine pj_X_of (fun r h => pj_R_to (G0, 21, [(0, .ref 38), (1, .int v1), (2, .int v2)], [.int v2, .ref 39, .int v1], 0, 0) 21 2 (fun _ => rfl) h) ?_
      refine pj_X_ca (vs := [.ref 39, .int v2]) rfl (fun _ => rfl) ⟨Nat.le_of_ble_eq_true rfl, Nat.le_of_ble_eq_true rfl, pj_T_rcv hI rfl⟩ ⟨rfl, rfl⟩ (pj_Y_up (by decide) (ct_69_39x G0 hI v2 ⟨by omega, by omega⟩)) ?_
      rintro _ _ ⟨y6, rfl, rfl, ry6, ey6, fy6⟩
      replace ey6 := ey6 _ rfl
      show pj_X _ _ G0 24 [(0, .ref 38), (1, .int v1), (2, .int v2)] [.int y6, .int v1] _
      cases b7 : pj_c1 .eq y6 0 with
      | true =>
        have ub7 := pj_u0_eqT b7
        refine pj_X_of (fun r h => pj_R_ifT 41 rfl rfl b7 h) ?_
        refine pj_X_of (fun r h => pj_R_to (G0, 43, [(0, .ref 38), (1, .int v1), (2, .int v2)], [.int (v1 ||| (Int32.ofInt 0))], 0, 0) 43 3 (fun _ => rfl) h) ?_
        obtain ⟨z8, hz8⟩ : ∃ z : Int32, z = v1 ||| (Int32.ofInt 0) := ⟨_, rfl⟩
        rw [← hz8]
        refine pj_X_of (fun r h => pj_R_to (G0, 47, [(2, .int (v2 + Int32.ofInt 1)), (1, .int z8), (0, .ref 38)], [], 0, 0) 47 3 (fun _ => rfl) h) ?_
        obtain ⟨z9, hz9⟩ : ∃ z : Int32, z = v2 + Int32.ofInt 1 := ⟨_, rfl⟩
        rw [← hz9]
        have fz9_0 : z9.toInt = v2.toInt + (Int32.ofInt 1).toInt := by rw [hz9]; exact pj_addI (by have := pj_i32 v2; have := pj_i32 (Int32.ofInt 1); omega) (by have := pj_i32 v2; have := pj_i32 (Int32.ofInt 1); omega)
        refine pj_X_of (fun r h => pj_R_to (G0, 4, [(2, .int z9), (1, .int z8), (0, .ref 38)], [], 0, 0) 4 2 (fun _ => rfl) h) ?_
        exact pj_X_sub [(0, .ref 38), (1, .int z8), (2, .int z9)] (show List.Nodup [0, 1, 2] by decide) ⟨rfl, rfl, rfl, trivial⟩ (ih z8 z9 (pj_i32 _) ⟨by omega, by omega⟩ (by omega))
      | false =>
        have ub7 := pj_u0_eqF b7
        refine pj_X_of (fun r h => pj_R_ifF rfl b7 h) ?_
        refine pj_X_of (fun r h => pj_R_to (G0, 29, [(0, .ref 38), (1, .int v1), (2, .int v2)], [.ref 38, .int (Int32.ofInt 1), .int v1], 0, 0) 29 3 (fun _ => rfl) h) ?_
        refine pj_X_of (fun r h => pj_T_gr hI rfl rfl rfl h) ?_
        refine pj_X_of (fun r h => pj_T_gr hI rfl rfl rfl h) ?_
        refine pj_X_of (fun r h => pj_R_to (G0, 36, [(0, .ref 38), (1, .int v1), (2, .int v2)], [.int v2, .ref 40, .int (Int32.ofInt 1), .int v1], 0, 0) 36 2 (fun _ => rfl) h) ?_
        refine pj_X_of (fun r h => pj_T_il hI rfl rfl (by omega) (by omega) h) ?_
        show pj_X _ _ G0 37 [(0, .ref 38), (1, .int v1), (2, .int v2)] [.int (pj_ai G0 40 v2.toInt.toNat), .int (Int32.ofInt 1), .int v1] _
        obtain ⟨z10, hz10⟩ : ∃ z : Int32, z = pj_ai G0 40 v2.toInt.toNat := ⟨_, rfl⟩
        rw [← hz10]
        have ez10 : (pj_ai G0 40 v2.toInt.toNat).toInt = z10.toInt := by rw [hz10]
        have fz10_0 : (-1 : Int) ≤ z10.toInt ∧ z10.toInt ≤ 9 ∧ (z10.toInt ≤ -1 ∨ -1 ≤ z10.toInt) := by rw [hz10]; exact hI.2.2.1 40 (6, -1, 9, -1, -1) rfl _ (by show _ < 6; omega)
        refine pj_X_of (fun r h => pj_R_to (G0, 38, [(0, .ref 38), (1, .int v1), (2, .int v2)], [.int ((Int32.ofInt 1) <<< (z10 &&& 31)), .int v1], 0, 0) 38 2 (fun _ => rfl) h) ?_
        obtain ⟨z11, hz11⟩ : ∃ z : Int32, z = (Int32.ofInt 1) <<< (z10 &&& 31) := ⟨_, rfl⟩
        rw [← hz11]
        refine pj_X_of (fun r h => pj_R_to (G0, 43, [(0, .ref 38), (1, .int v1), (2, .int v2)], [.int (v1 ||| z11)], 0, 0) 43 3 (fun _ => rfl) h) ?_
        obtain ⟨z12, hz12⟩ : ∃ z : Int32, z = v1 ||| z11 := ⟨_, rfl⟩
        rw [← hz12]
        refine pj_X_of (fun r h => pj_R_to (G0, 47, [(2, .int (v2 + Int32.ofInt 1)), (1, .int z12), (0, .ref 38)], [], 0, 0) 47 3 (fun _ => rfl) h) ?_
        obtain ⟨z13, hz13⟩ : ∃ z : Int32, z = v2 + Int32.ofInt 1 := ⟨_, rfl⟩
        rw [← hz13]
        have fz13_0 : z13.toInt = v2.toInt + (Int32.ofInt 1).toInt := by rw [hz13]; exact pj_addI (by have := pj_i32 v2; have := pj_i32 (Int32.ofInt 1); omega) (by have := pj_i32 v2; have := pj_i32 (Int32.ofInt 1); omega)
        refine pj_X_of (fun r h => pj_R_to (G0, 4, [(2, .int z13), (1, .int z12), (0, .ref 38)], [], 0, 0) 4 2 (fun _ => rfl) h) ?_
        exact pj_X_sub [(0, .ref 38), (1, .int z12), (2, .int z13)] (show List.Nodup [0, 1, 2] by decide) ⟨rfl, rfl, rfl, trivial⟩ (ih z12 z13 (pj_i32 _) ⟨by omega, by omega⟩ (by omega))
theorem ct_14 (G0 : pj_G) (hI : pj_Inv G0) : pj_Y 5 14 [.ref 38] G0 (fun v G' => ∃ y : Int32, v = some (.int y) ∧ G0 = G' ∧ ((-2147483648 : Int) ≤ y.toInt ∧ y.toInt ≤ 2147483647)) := by
  have c0_ : (Int32.ofInt 0).toInt = 0 := by decide
  have c1_ : (Int32.ofInt 1).toInt = 1 := by decide
  refine pj_Y_X (M := pj_m14) rfl rfl (Nat.le_of_ble_eq_true rfl) ?_
  have hK : pj_kpt ([], [], []) G0 G0 := pj_kpt_r _ _
  show pj_X _ _ G0 0 [(0, .ref 38)] [] _
  refine pj_X_of (fun r h => pj_R_to (G0, 4, [(2, .int (Int32.ofInt 0)), (1, .int (Int32.ofInt 0)), (0, .ref 38)], [], 0, 0) 4 5 (fun _ => rfl) h) ?_
  exact pj_X_sub [(0, .ref 38), (1, .int (Int32.ofInt 0)), (2, .int (Int32.ofInt 0))] (show List.Nodup [0, 1, 2] by decide) ⟨rfl, rfl, rfl, trivial⟩ ((lp_ct_14 G0 hI   7) (Int32.ofInt 0) (Int32.ofInt 0) (pj_i32 _) ⟨by omega, by omega⟩ (by omega))
def kc_12 : pj_KT := ([(4, 1), (39, 0), (39, 5), (39, 7), (39, 8)], [4, 5, 39, 40, 41, 42, 43, 44], [40, 41, 42, 43, 44])
theorem lp_ct_12 (G0 : pj_G) (hI0 : pj_Inv G0) (sd : Int32) (n : Int32) (rn : (1 : Int) ≤ n.toInt ∧ n.toInt ≤ 60) : ∀ mn : Nat, (∀ (G : pj_G) (hI : pj_Inv G) (hK : pj_kpt kc_12 G0 G) (v4 : Int32) (v5 : Int32) (v6 : Int32) (v7 : Int32) (v8 : Int32), ((-2147483648 : Int) ≤ v4.toInt ∧ v4.toInt ≤ 2147483647) → ((-2147483648 : Int) ≤ v5.toInt ∧ v5.toInt ≤ 2147483647) → ((-2147483648 : Int) ≤ v6.toInt ∧ v6.toInt ≤ 2147483647) → ((-2147483648 : Int) ≤ v7.toInt ∧ v7.toInt ≤ 2147483647) → ((0 : Int) ≤ v8.toInt ∧ v8.toInt ≤ 60) → 60 - v8.toInt < (mn : Int) → pj_X 5 pj_m12 G 29 [(0, .ref 38), (1, .ref 4), (2, .int sd), (3, .int n), (4, .int v4), (5, .int v5), (6, .int v6), (7, .int v7), (8, .int v8)] [] (fun v G' => ∃ y : Int32, v = some (.int y) ∧ pj_Inv G' ∧ pj_kpt kc_12 G0 G' ∧ ((-2147483648 : Int) ≤ y.toInt ∧ y.toInt ≤ 2147483647))) := by
  have c0_ : ((Int16.ofInt 12345).toInt32).toInt = 12345 := by decide
  have c1_ : ((Int8.ofInt 16).toInt32).toInt = 16 := by decide
  have c2_ : (Int32.ofInt (-1)).toInt = -1 := by decide
  have c3_ : (Int32.ofInt 0).toInt = 0 := by decide
  have c4_ : (Int32.ofInt 1).toInt = 1 := by decide
  have c5_ : (Int32.ofInt 1103515245).toInt = 1103515245 := by decide
  intro mn
  induction mn with
  | zero =>
    intro G hI hK v4 v5 v6 v7 v8 rv4 rv5 rv6 rv7 rv8 hm
    exfalso
    omega
  | succ mn ih =>
    intro G hI hK v4 v5 v6 v7 v8 rv4 rv5 rv6 rv7 rv8 hm
    refine pj_X_of (fun r h => pj_R_to (G, 32, [(0, .ref 38), (1, .ref 4), (2, .int sd), (3, .int n), (4, .int v4), (5, .int v5), (6, .int v6), (7, .int v7), (8, .int v8)], [.int n, .int v8], 0, 0) 32 3 (fun _ => rfl) h) ?_
    cases b1 : pj_c1 .ge v8 n with
    | true =>
      have ub1 := pj_u_geT b1
      refine pj_X_of (fun r h => pj_R_icT 122 rfl rfl b1 h) ?_
      refine pj_X_of (fun r h => pj_R_to (G, 129, [(0, .ref 38), (1, .ref 4), (2, .int sd), (3, .int n), (4, .int v4), (5, .int v5), (6, .int v6), (7, .int v7), (8, .int v8)], [.long v7.toInt64, .long v5.toInt64, .ref 4], 0, 0) 129 6 (fun _ => rfl) h) ?_
      have lc2 : (v5.toInt64).toInt = v5.toInt := Int32.toInt_toInt64 _
      have lc3 : (v7.toInt64).toInt = v7.toInt := Int32.toInt_toInt64 _
      refine pj_X_ca (vs := [.ref 4, .long v5.toInt64, .long v7.toInt64]) rfl (fun _ => rfl) ⟨Nat.le_of_ble_eq_true rfl, Nat.le_of_ble_eq_true rfl, pj_T_rcv hI rfl⟩ ⟨rfl, rfl⟩ (pj_Y_up (by decide) (ct_56x G hI v5.toInt64 v7.toInt64)) ?_
      rintro _ G5 ⟨rfl, iG5, jG5, fy4⟩
      have kG5 : pj_kpt kc_12 G0 G5 := pj_kpt_t hK (pj_kpt_s jG5 rfl)
      show pj_X _ _ G5 132 [(0, .ref 38), (1, .ref 4), (2, .int sd), (3, .int n), (4, .int v4), (5, .int v5), (6, .int v6), (7, .int v7), (8, .int v8)] [] _
      refine pj_X_of (fun r h => pj_R_to (G5, 134, [(0, .ref 38), (1, .ref 4), (2, .int sd), (3, .int n), (4, .int v4), (5, .int v5), (6, .int v6), (7, .int v7), (8, .int v8)], [.int v6], 0, 0) 134 2 (fun _ => rfl) h) ?_
      exact pj_X_rt rfl rfl ⟨_, rfl, iG5, kG5, pj_i32 _⟩
    | false =>
      have ub1 := pj_u_geF b1
      refine pj_X_of (fun r h => pj_R_icF rfl b1 h) ?_
      refine pj_X_of (fun r h => pj_R_to (G, 36, [(0, .ref 38), (1, .ref 4), (2, .int sd), (3, .int n), (4, .int v4), (5, .int v5), (6, .int v6), (7, .int v7), (8, .int v8)], [.ref 38], 0, 0) 36 2 (fun _ => rfl) h) ?_
      refine pj_X_of (fun r h => pj_T_gr hI rfl rfl rfl h) ?_
      refine pj_X_of (fun r h => pj_T_gi hI rfl rfl h) ?_
      show pj_X _ _ G 42 [(0, .ref 38), (1, .ref 4), (2, .int sd), (3, .int n), (4, .int v4), (5, .int v5), (6, .int v6), (7, .int v7), (8, .int v8)] [.int (pj_fi G 39 0)] _
      obtain ⟨y6, hy6⟩ : ∃ z : Int32, z = pj_fi G 39 0 := ⟨_, rfl⟩
      rw [← hy6]
      have ey6 : (pj_fi G 39 0).toInt = y6.toInt := by rw [hy6]
      have ry6 : (0 : Int) ≤ y6.toInt ∧ y6.toInt ≤ 6 := by rw [hy6]; exact hI.2.1 39 0 (0, 6) rfl
      cases b7 : pj_c1 .le y6 0 with
      | true =>
        have ub7 := pj_u0_leT b7
        refine pj_X_of (fun r h => pj_R_ifT 122 rfl rfl b7 h) ?_
        refine pj_X_of (fun r h => pj_R_to (G, 129, [(0, .ref 38), (1, .ref 4), (2, .int sd), (3, .int n), (4, .int v4), (5, .int v5), (6, .int v6), (7, .int v7), (8, .int v8)], [.long v7.toInt64, .long v5.toInt64, .ref 4], 0, 0) 129 6 (fun _ => rfl) h) ?_
        have lc8 : (v5.toInt64).toInt = v5.toInt := Int32.toInt_toInt64 _
        have lc9 : (v7.toInt64).toInt = v7.toInt := Int32.toInt_toInt64 _
        refine pj_X_ca (vs := [.ref 4, .long v5.toInt64, .long v7.toInt64]) rfl (fun _ => rfl) ⟨Nat.le_of_ble_eq_true rfl, Nat.le_of_ble_eq_true rfl, pj_T_rcv hI rfl⟩ ⟨rfl, rfl⟩ (pj_Y_up (by decide) (ct_56x G hI v5.toInt64 v7.toInt64)) ?_
        rintro _ G11 ⟨rfl, iG11, jG11, fy10⟩
        have kG11 : pj_kpt kc_12 G0 G11 := pj_kpt_t hK (pj_kpt_s jG11 rfl)
        show pj_X _ _ G11 132 [(0, .ref 38), (1, .ref 4), (2, .int sd), (3, .int n), (4, .int v4), (5, .int v5), (6, .int v6), (7, .int v7), (8, .int v8)] [] _
        refine pj_X_of (fun r h => pj_R_to (G11, 134, [(0, .ref 38), (1, .ref 4), (2, .int sd), (3, .int n), (4, .int v4), (5, .int v5), (6, .int v6), (7, .int v7), (8, .int v8)], [.int v6], 0, 0) 134 2 (fun _ => rfl) h) ?_
        exact pj_X_rt rfl rfl ⟨_, rfl, iG11, kG11, pj_i32 _⟩
      | false =>
        have ub7 := pj_u0_leF b7
        refine pj_X_of (fun r h => pj_R_ifF rfl b7 h) ?_
        refine pj_X_of (fun r h => pj_R_to (G, 50, [(0, .ref 38), (1, .ref 4), (2, .int sd), (3, .int n), (4, .int v4), (5, .int v5), (6, .int v6), (7, .int v7), (8, .int v8)], [.int (v4 * (Int32.ofInt 1103515245))], 0, 0) 50 4 (fun _ => rfl) h) ?_
        obtain ⟨z12, hz12⟩ : ∃ z : Int32, z = v4 * (Int32.ofInt 1103515245) := ⟨_, rfl⟩
        rw [← hz12]
        refine pj_X_of (fun r h => pj_R_to (G, 54, [(0, .ref 38), (1, .ref 4), (2, .int sd), (3, .int n), (4, .int v4), (5, .int v5), (6, .int v6), (7, .int v7), (8, .int v8)], [.int (z12 + ((Int16.ofInt 12345).toInt32))], 0, 0) 54 3 (fun _ => rfl) h) ?_
        obtain ⟨z13, hz13⟩ : ∃ z : Int32, z = z12 + ((Int16.ofInt 12345).toInt32) := ⟨_, rfl⟩
        rw [← hz13]
        refine pj_X_of (fun r h => pj_R_to (G, 61, [(4, .int z13), (0, .ref 38), (1, .ref 4), (2, .int sd), (3, .int n), (5, .int v5), (6, .int v6), (7, .int v7), (8, .int v8)], [.int ((z13.toUInt32 >>> (((Int8.ofInt 16).toInt32).toUInt32 &&& Int32.toUInt32 31)).toInt32)], 0, 0) 61 5 (fun _ => rfl) h) ?_
        obtain ⟨z14, hz14⟩ : ∃ z : Int32, z = (z13.toUInt32 >>> (((Int8.ofInt 16).toInt32).toUInt32 &&& Int32.toUInt32 31)).toInt32 := ⟨_, rfl⟩
        rw [← hz14]
        have fz14_0 : 0 ≤ z14.toInt ∧ z14.toInt ≤ 65535 := by rw [hz14]; exact pj_us16
        refine pj_X_of (fun r h => pj_R_to (G, 62, [(4, .int z13), (0, .ref 38), (1, .ref 4), (2, .int sd), (3, .int n), (5, .int v5), (6, .int v6), (7, .int v7), (8, .int v8)], [.ref 38, .int z14], 0, 0) 62 2 (fun _ => rfl) h) ?_
        refine pj_X_of (fun r h => pj_T_gr hI rfl rfl rfl h) ?_
        refine pj_X_of (fun r h => pj_T_gi hI rfl rfl h) ?_
        show pj_X _ _ G 68 [(4, .int z13), (0, .ref 38), (1, .ref 4), (2, .int sd), (3, .int n), (5, .int v5), (6, .int v6), (7, .int v7), (8, .int v8)] [.int (pj_fi G 39 0), .int z14] _
        rw [show pj_fi G 39 0 = y6 from hy6.symm]
        refine pj_X_of (fun r h => pj_R_rm rfl (pj_nz (by omega)) h) ?_
        show pj_X _ _ G 69 [(4, .int z13), (0, .ref 38), (1, .ref 4), (2, .int sd), (3, .int n), (5, .int v5), (6, .int v6), (7, .int v7), (8, .int v8)] [.int (z14 - z14 / y6 * y6)] _
        obtain ⟨z15, hz15⟩ : ∃ z : Int32, z = z14 - z14 / y6 * y6 := ⟨_, rfl⟩
        rw [← hz15]
        have fz15_0 : 0 ≤ z15.toInt ∧ z15.toInt < y6.toInt := by rw [hz15]; exact pj_remI (by omega) (by omega)
        refine pj_X_of (fun r h => pj_R_to (G, 76, [(9, .int z15), (4, .int z13), (0, .ref 38), (1, .ref 4), (2, .int sd), (3, .int n), (5, .int v5), (6, .int v6), (7, .int v7), (8, .int v8)], [.int z15, .ref 38, .int v5], 0, 0) 76 5 (fun _ => rfl) h) ?_
        refine pj_X_ca (vs := [.ref 38, .int z15]) rfl (fun _ => rfl) ⟨Nat.le_of_ble_eq_true rfl, Nat.le_of_ble_eq_true rfl, pj_T_rcv hI rfl⟩ ⟨rfl, rfl⟩ (pj_Y_up (by decide) (ct_13 G hI z15 ⟨by omega, by omega⟩)) ?_
        rintro _ G17 ⟨y16, rfl, iG17, jG17, ry16⟩
        have kG17 : pj_kpt kc_12 G0 G17 := pj_kpt_t hK (pj_kpt_s jG17 rfl)
        show pj_X _ _ G17 79 [(9, .int z15), (4, .int z13), (0, .ref 38), (1, .ref 4), (2, .int sd), (3, .int n), (5, .int v5), (6, .int v6), (7, .int v7), (8, .int v8)] [.int y16, .int v5] _
        cases b18 : pj_c1 .eq y16 0 with
        | true =>
          have ub18 := pj_u0_eqT b18
          refine pj_X_of (fun r h => pj_R_ifT 86 rfl rfl b18 h) ?_
          refine pj_X_of (fun r h => pj_R_to (G17, 88, [(9, .int z15), (4, .int z13), (0, .ref 38), (1, .ref 4), (2, .int sd), (3, .int n), (5, .int v5), (6, .int v6), (7, .int v7), (8, .int v8)], [.int (v5 + (Int32.ofInt 0))], 0, 0) 88 3 (fun _ => rfl) h) ?_
          obtain ⟨z19, hz19⟩ : ∃ z : Int32, z = v5 + (Int32.ofInt 0) := ⟨_, rfl⟩
          rw [← hz19]
          have fz19_0 : z19.toInt = v5.toInt + (Int32.ofInt 0).toInt := by rw [hz19]; exact pj_addI (by have := pj_i32 v5; have := pj_i32 (Int32.ofInt 0); omega) (by have := pj_i32 v5; have := pj_i32 (Int32.ofInt 0); omega)
          refine pj_X_of (fun r h => pj_R_to (G17, 91, [(5, .int z19), (9, .int z15), (4, .int z13), (0, .ref 38), (1, .ref 4), (2, .int sd), (3, .int n), (6, .int v6), (7, .int v7), (8, .int v8)], [.ref 38], 0, 0) 91 3 (fun _ => rfl) h) ?_
          refine pj_X_ca (vs := [.ref 38]) rfl (fun _ => rfl) ⟨Nat.le_of_ble_eq_true rfl, Nat.le_of_ble_eq_true rfl, pj_T_rcv iG17 rfl⟩ ⟨rfl, rfl⟩ (pj_Y_up (by decide) (ct_14 G17 iG17)) ?_
          rintro _ _ ⟨y20, rfl, rfl, ry20⟩
          show pj_X _ _ G17 94 [(5, .int z19), (9, .int z15), (4, .int z13), (0, .ref 38), (1, .ref 4), (2, .int sd), (3, .int n), (6, .int v6), (7, .int v7), (8, .int v8)] [.int y20] _
          refine pj_X_of (fun r h => pj_R_to (G17, 99, [(6, .int y20), (5, .int z19), (9, .int z15), (4, .int z13), (0, .ref 38), (1, .ref 4), (2, .int sd), (3, .int n), (7, .int v7), (8, .int v8)], [.int (Int32.ofInt (-1)), .int v7], 0, 0) 99 4 (fun _ => rfl) h) ?_
          cases b21 : pj_c1 .ne v7 (Int32.ofInt (-1)) with
          | true =>
            have ub21 := pj_u_neT b21
            refine pj_X_of (fun r h => pj_R_icT 107 rfl rfl b21 h) ?_
            refine pj_X_of (fun r h => pj_R_to (G17, 111, [(6, .int y20), (5, .int z19), (9, .int z15), (4, .int z13), (0, .ref 38), (1, .ref 4), (2, .int sd), (3, .int n), (7, .int v7), (8, .int v8)], [.int y20, .int v7], 0, 0) 111 3 (fun _ => rfl) h) ?_
            refine pj_X_of (fun r h => pj_R_mn (v := (if y20 < v7 then y20 else v7)) rfl rfl rfl (Nat.le_of_ble_eq_true rfl) h) ?_
            show pj_X _ _ G17 114 [(6, .int y20), (5, .int z19), (9, .int z15), (4, .int z13), (0, .ref 38), (1, .ref 4), (2, .int sd), (3, .int n), (7, .int v7), (8, .int v8)] [.int (if y20 < v7 then y20 else v7)] _
            obtain ⟨z22, hz22⟩ : ∃ z : Int32, z = (if y20 < v7 then y20 else v7) := ⟨_, rfl⟩
            rw [← hz22]
            have fz22_0 : z22.toInt ≤ v7.toInt ∧ z22.toInt ≤ y20.toInt ∧ (z22.toInt = v7.toInt ∨ z22.toInt = y20.toInt) := by rw [hz22]; exact pj_minI
            refine pj_X_of (fun r h => pj_R_to (G17, 119, [(8, .int (v8 + Int32.ofInt 1)), (7, .int z22), (6, .int y20), (5, .int z19), (9, .int z15), (4, .int z13), (0, .ref 38), (1, .ref 4), (2, .int sd), (3, .int n)], [], 0, 0) 119 3 (fun _ => rfl) h) ?_
            obtain ⟨z23, hz23⟩ : ∃ z : Int32, z = v8 + Int32.ofInt 1 := ⟨_, rfl⟩
            rw [← hz23]
            have fz23_0 : z23.toInt = v8.toInt + (Int32.ofInt 1).toInt := by rw [hz23]; exact pj_addI (by have := pj_i32 v8; have := pj_i32 (Int32.ofInt 1); omega) (by have := pj_i32 v8; have := pj_i32 (Int32.ofInt 1); omega)
            refine pj_X_of (fun r h => pj_R_to (G17, 29, [(8, .int z23), (7, .int z22), (6, .int y20), (5, .int z19), (9, .int z15), (4, .int z13), (0, .ref 38), (1, .ref 4), (2, .int sd), (3, .int n)], [], 0, 0) 29 2 (fun _ => rfl) h) ?_
            exact pj_X_sub [(0, .ref 38), (1, .ref 4), (2, .int sd), (3, .int n), (4, .int z13), (5, .int z19), (6, .int y20), (7, .int z22), (8, .int z23)] (show List.Nodup [0, 1, 2, 3, 4, 5, 6, 7, 8] by decide) ⟨rfl, rfl, rfl, rfl, rfl, rfl, rfl, rfl, rfl, trivial⟩ (ih G17 iG17 kG17 z13 z19 y20 z22 z23 (pj_i32 _) (pj_i32 _) (pj_i32 _) (pj_i32 _) ⟨by omega, by omega⟩ (by omega))
          | false =>
            have ub21 := pj_u_neF b21
            refine pj_X_of (fun r h => pj_R_icF rfl b21 h) ?_
            refine pj_X_of (fun r h => pj_R_to (G17, 119, [(8, .int (v8 + Int32.ofInt 1)), (7, .int y20), (6, .int y20), (5, .int z19), (9, .int z15), (4, .int z13), (0, .ref 38), (1, .ref 4), (2, .int sd), (3, .int n)], [], 0, 0) 119 5 (fun _ => rfl) h) ?_
            obtain ⟨z24, hz24⟩ : ∃ z : Int32, z = v8 + Int32.ofInt 1 := ⟨_, rfl⟩
            rw [← hz24]
            have fz24_0 : z24.toInt = v8.toInt + (Int32.ofInt 1).toInt := by rw [hz24]; exact pj_addI (by have := pj_i32 v8; have := pj_i32 (Int32.ofInt 1); omega) (by have := pj_i32 v8; have := pj_i32 (Int32.ofInt 1); omega)
            refine pj_X_of (fun r h => pj_R_to (G17, 29, [(8, .int z24), (7, .int y20), (6, .int y20), (5, .int z19), (9, .int z15), (4, .int z13), (0, .ref 38), (1, .ref 4), (2, .int sd), (3, .int n)], [], 0, 0) 29 2 (fun _ => rfl) h) ?_
            exact pj_X_sub [(0, .ref 38), (1, .ref 4), (2, .int sd), (3, .int n), (4, .int z13), (5, .int z19), (6, .int y20), (7, .int y20), (8, .int z24)] (show List.Nodup [0, 1, 2, 3, 4, 5, 6, 7, 8] by decide) ⟨rfl, rfl, rfl, rfl, rfl, rfl, rfl, rfl, rfl, trivial⟩ (ih G17 iG17 kG17 z13 z19 y20 y20 z24 (pj_i32 _) (pj_i32 _) (pj_i32 _) (pj_i32 _) ⟨by omega, by omega⟩ (by omega))
        | false =>
          have ub18 := pj_u0_eqF b18
          refine pj_X_of (fun r h => pj_R_ifF rfl b18 h) ?_
          refine pj_X_of (fun r h => pj_R_to (G17, 88, [(9, .int z15), (4, .int z13), (0, .ref 38), (1, .ref 4), (2, .int sd), (3, .int n), (5, .int v5), (6, .int v6), (7, .int v7), (8, .int v8)], [.int (v5 + (Int32.ofInt 1))], 0, 0) 88 4 (fun _ => rfl) h) ?_
          obtain ⟨z25, hz25⟩ : ∃ z : Int32, z = v5 + (Int32.ofInt 1) := ⟨_, rfl⟩
          rw [← hz25]
          refine pj_X_of (fun r h => pj_R_to (G17, 91, [(5, .int z25), (9, .int z15), (4, .int z13), (0, .ref 38), (1, .ref 4), (2, .int sd), (3, .int n), (6, .int v6), (7, .int v7), (8, .int v8)], [.ref 38], 0, 0) 91 3 (fun _ => rfl) h) ?_
          refine pj_X_ca (vs := [.ref 38]) rfl (fun _ => rfl) ⟨Nat.le_of_ble_eq_true rfl, Nat.le_of_ble_eq_true rfl, pj_T_rcv iG17 rfl⟩ ⟨rfl, rfl⟩ (pj_Y_up (by decide) (ct_14 G17 iG17)) ?_
          rintro _ _ ⟨y26, rfl, rfl, ry26⟩
          show pj_X _ _ G17 94 [(5, .int z25), (9, .int z15), (4, .int z13), (0, .ref 38), (1, .ref 4), (2, .int sd), (3, .int n), (6, .int v6), (7, .int v7), (8, .int v8)] [.int y26] _
          refine pj_X_of (fun r h => pj_R_to (G17, 99, [(6, .int y26), (5, .int z25), (9, .int z15), (4, .int z13), (0, .ref 38), (1, .ref 4), (2, .int sd), (3, .int n), (7, .int v7), (8, .int v8)], [.int (Int32.ofInt (-1)), .int v7], 0, 0) 99 4 (fun _ => rfl) h) ?_
          cases b27 : pj_c1 .ne v7 (Int32.ofInt (-1)) with
          | true =>
            have ub27 := pj_u_neT b27
            refine pj_X_of (fun r h => pj_R_icT 107 rfl rfl b27 h) ?_
            refine pj_X_of (fun r h => pj_R_to (G17, 111, [(6, .int y26), (5, .int z25), (9, .int z15), (4, .int z13), (0, .ref 38), (1, .ref 4), (2, .int sd), (3, .int n), (7, .int v7), (8, .int v8)], [.int y26, .int v7], 0, 0) 111 3 (fun _ => rfl) h) ?_
            refine pj_X_of (fun r h => pj_R_mn (v := (if y26 < v7 then y26 else v7)) rfl rfl rfl (Nat.le_of_ble_eq_true rfl) h) ?_
            show pj_X _ _ G17 114 [(6, .int y26), (5, .int z25), (9, .int z15), (4, .int z13), (0, .ref 38), (1, .ref 4), (2, .int sd), (3, .int n), (7, .int v7), (8, .int v8)] [.int (if y26 < v7 then y26 else v7)] _
            obtain ⟨z28, hz28⟩ : ∃ z : Int32, z = (if y26 < v7 then y26 else v7) := ⟨_, rfl⟩
            rw [← hz28]
            have fz28_0 : z28.toInt ≤ v7.toInt ∧ z28.toInt ≤ y26.toInt ∧ (z28.toInt = v7.toInt ∨ z28.toInt = y26.toInt) := by rw [hz28]; exact pj_minI
            refine pj_X_of (fun r h => pj_R_to (G17, 119, [(8, .int (v8 + Int32.ofInt 1)), (7, .int z28), (6, .int y26), (5, .int z25), (9, .int z15), (4, .int z13), (0, .ref 38), (1, .ref 4), (2, .int sd), (3, .int n)], [], 0, 0) 119 3 (fun _ => rfl) h) ?_
            obtain ⟨z29, hz29⟩ : ∃ z : Int32, z = v8 + Int32.ofInt 1 := ⟨_, rfl⟩
            rw [← hz29]
            have fz29_0 : z29.toInt = v8.toInt + (Int32.ofInt 1).toInt := by rw [hz29]; exact pj_addI (by have := pj_i32 v8; have := pj_i32 (Int32.ofInt 1); omega) (by have := pj_i32 v8; have := pj_i32 (Int32.ofInt 1); omega)
            refine pj_X_of (fun r h => pj_R_to (G17, 29, [(8, .int z29), (7, .int z28), (6, .int y26), (5, .int z25), (9, .int z15), (4, .int z13), (0, .ref 38), (1, .ref 4), (2, .int sd), (3, .int n)], [], 0, 0) 29 2 (fun _ => rfl) h) ?_
            exact pj_X_sub [(0, .ref 38), (1, .ref 4), (2, .int sd), (3, .int n), (4, .int z13), (5, .int z25), (6, .int y26), (7, .int z28), (8, .int z29)] (show List.Nodup [0, 1, 2, 3, 4, 5, 6, 7, 8] by decide) ⟨rfl, rfl, rfl, rfl, rfl, rfl, rfl, rfl, rfl, trivial⟩ (ih G17 iG17 kG17 z13 z25 y26 z28 z29 (pj_i32 _) (pj_i32 _) (pj_i32 _) (pj_i32 _) ⟨by omega, by omega⟩ (by omega))
          | false =>
            have ub27 := pj_u_neF b27
            refine pj_X_of (fun r h => pj_R_icF rfl b27 h) ?_
            refine pj_X_of (fun r h => pj_R_to (G17, 119, [(8, .int (v8 + Int32.ofInt 1)), (7, .int y26), (6, .int y26), (5, .int z25), (9, .int z15), (4, .int z13), (0, .ref 38), (1, .ref 4), (2, .int sd), (3, .int n)], [], 0, 0) 119 5 (fun _ => rfl) h) ?_
            obtain ⟨z30, hz30⟩ : ∃ z : Int32, z = v8 + Int32.ofInt 1 := ⟨_, rfl⟩
            rw [← hz30]
            have fz30_0 : z30.toInt = v8.toInt + (Int32.ofInt 1).toInt := by rw [hz30]; exact pj_addI (by have := pj_i32 v8; have := pj_i32 (Int32.ofInt 1); omega) (by have := pj_i32 v8; have := pj_i32 (Int32.ofInt 1); omega)
            refine pj_X_of (fun r h => pj_R_to (G17, 29, [(8, .int z30), (7, .int y26), (6, .int y26), (5, .int z25), (9, .int z15), (4, .int z13), (0, .ref 38), (1, .ref 4), (2, .int sd), (3, .int n)], [], 0, 0) 29 2 (fun _ => rfl) h) ?_
            exact pj_X_sub [(0, .ref 38), (1, .ref 4), (2, .int sd), (3, .int n), (4, .int z13), (5, .int z25), (6, .int y26), (7, .int y26), (8, .int z30)] (show List.Nodup [0, 1, 2, 3, 4, 5, 6, 7, 8] by decide) ⟨rfl, rfl, rfl, rfl, rfl, rfl, rfl, rfl, rfl, trivial⟩ (ih G17 iG17 kG17 z13 z25 y26 y26 z30 (pj_i32 _) (pj_i32 _) (pj_i32 _) (pj_i32 _) ⟨by omega, by omega⟩ (by omega))
theorem ct_12 (G0 : pj_G) (hI : pj_Inv G0) (sd : Int32) (n : Int32) (rn : (1 : Int) ≤ n.toInt ∧ n.toInt ≤ 60) : pj_Y 6 12 [.ref 38, .ref 4, .int sd, .int n] G0 (fun v G' => ∃ y : Int32, v = some (.int y) ∧ pj_Inv G' ∧ pj_kpt kc_12 G0 G' ∧ ((-2147483648 : Int) ≤ y.toInt ∧ y.toInt ≤ 2147483647)) := by
  have c0_ : ((Int16.ofInt 12345).toInt32).toInt = 12345 := by decide
  have c1_ : ((Int8.ofInt 16).toInt32).toInt = 16 := by decide
  have c2_ : (Int32.ofInt (-1)).toInt = -1 := by decide
  have c3_ : (Int32.ofInt 0).toInt = 0 := by decide
  have c4_ : (Int32.ofInt 1).toInt = 1 := by decide
  have c5_ : (Int32.ofInt 1103515245).toInt = 1103515245 := by decide
  refine pj_Y_X (M := pj_m12) rfl rfl (Nat.le_of_ble_eq_true rfl) ?_
  have hK : pj_kpt kc_12 G0 G0 := pj_kpt_r _ _
  show pj_X _ _ G0 0 [(0, .ref 38), (1, .ref 4), (2, .int sd), (3, .int n)] [] _
  refine pj_X_of (fun r h => pj_R_to (G0, 1, [(0, .ref 38), (1, .ref 4), (2, .int sd), (3, .int n)], [.ref 38], 0, 0) 1 2 (fun _ => rfl) h) ?_
  refine pj_X_of (fun r h => pj_T_gr hI rfl rfl rfl h) ?_
  refine pj_X_of (fun r h => pj_R_to (G0, 5, [(0, .ref 38), (1, .ref 4), (2, .int sd), (3, .int n)], [.ref 38, .ref 39], 0, 0) 5 2 (fun _ => rfl) h) ?_
  refine pj_X_of (fun r h => pj_T_gr hI rfl rfl rfl h) ?_
  refine pj_X_of (fun r h => pj_T_gr hI rfl rfl rfl h) ?_
  refine pj_X_ca (vs := [.ref 39, .ref 21]) rfl (fun _ => rfl) ⟨Nat.le_of_ble_eq_true rfl, Nat.le_of_ble_eq_true rfl, pj_T_rcv hI rfl⟩ ⟨rfl, rfl⟩ (pj_Y_up (by decide) (ct_68_39_21x G0 hI)) ?_
  rintro _ G32 ⟨rfl, iG32, jG32, eG32, fy31⟩
  replace eG32 := eG32 _ rfl
  have kG32 : pj_kpt kc_12 G0 G32 := pj_kpt_t hK (pj_kpt_s jG32 rfl)
  show pj_X _ _ G32 14 [(0, .ref 38), (1, .ref 4), (2, .int sd), (3, .int n)] [] _
  refine pj_X_of (fun r h => pj_R_to (G32, 29, [(8, .int (Int32.ofInt 0)), (7, .int (Int32.ofInt (-1))), (6, .int (Int32.ofInt 0)), (5, .int (Int32.ofInt 0)), (4, .int sd), (0, .ref 38), (1, .ref 4), (2, .int sd), (3, .int n)], [], 0, 0) 29 11 (fun _ => rfl) h) ?_
  exact pj_X_sub [(0, .ref 38), (1, .ref 4), (2, .int sd), (3, .int n), (4, .int sd), (5, .int (Int32.ofInt 0)), (6, .int (Int32.ofInt 0)), (7, .int (Int32.ofInt (-1))), (8, .int (Int32.ofInt 0))] (show List.Nodup [0, 1, 2, 3, 4, 5, 6, 7, 8] by decide) ⟨rfl, rfl, rfl, rfl, rfl, rfl, rfl, rfl, rfl, trivial⟩ ((lp_ct_12 G0 hI sd n rn 61) G32 iG32 kG32 sd (Int32.ofInt 0) (Int32.ofInt 0) (Int32.ofInt (-1)) (Int32.ofInt 0) (pj_i32 _) (pj_i32 _) (pj_i32 _) (pj_i32 _) ⟨by omega, by omega⟩ (by omega))
theorem ct_39 (G0 : pj_G) (hI : pj_Inv G0) (i : Int32) : pj_Y 1 39 [.ref 53, .int i, .ref 21] G0 (fun v G' => ∃ y : Int32, v = some (.int y) ∧ G0 = G' ∧ ((0 : Int) ≤ y.toInt ∧ y.toInt ≤ 1) ∧ (1 ≤ y.toInt → 0 ≤ i.toInt ∧ i.toInt ≤ 2)) := by
  have c0_ : (Int32.ofInt 0).toInt = 0 := by decide
  have c1_ : (Int32.ofInt 1).toInt = 1 := by decide
  have c2_ : (Int32.ofInt 3).toInt = 3 := by decide
  refine pj_Y_X (M := pj_m39) rfl rfl (Nat.le_of_ble_eq_true rfl) ?_
  have hK : pj_kpt ([], [], []) G0 G0 := pj_kpt_r _ _
  show pj_X _ _ G0 0 [(0, .ref 53), (1, .int i), (2, .ref 21)] [] _
  refine pj_X_of (fun r h => pj_R_to (G0, 1, [(0, .ref 53), (1, .int i), (2, .ref 21)], [.int i], 0, 0) 1 2 (fun _ => rfl) h) ?_
  cases b1 : pj_c1 .lt i 0 with
  | true =>
    have ub1 := pj_u0_ltT b1
    refine pj_X_of (fun r h => pj_R_ifT 54 rfl rfl b1 h) ?_
    refine pj_X_of (fun r h => pj_R_to (G0, 55, [(0, .ref 53), (1, .int i), (2, .ref 21)], [.int (Int32.ofInt 0)], 0, 0) 55 2 (fun _ => rfl) h) ?_
    exact pj_X_rt rfl rfl ⟨_, rfl, rfl, ⟨by omega, by omega⟩, by omega⟩
  | false =>
    have ub1 := pj_u0_ltF b1
    refine pj_X_of (fun r h => pj_R_ifF rfl b1 h) ?_
    refine pj_X_of (fun r h => pj_R_to (G0, 6, [(0, .ref 53), (1, .int i), (2, .ref 21)], [.int (Int32.ofInt 3), .int i], 0, 0) 6 3 (fun _ => rfl) h) ?_
    cases b2 : pj_c1 .ge i (Int32.ofInt 3) with
    | true =>
      have ub2 := pj_u_geT b2
      refine pj_X_of (fun r h => pj_R_icT 54 rfl rfl b2 h) ?_
      refine pj_X_of (fun r h => pj_R_to (G0, 55, [(0, .ref 53), (1, .int i), (2, .ref 21)], [.int (Int32.ofInt 0)], 0, 0) 55 2 (fun _ => rfl) h) ?_
      exact pj_X_rt rfl rfl ⟨_, rfl, rfl, ⟨by omega, by omega⟩, by omega⟩
    | false =>
      have ub2 := pj_u_geF b2
      refine pj_X_of (fun r h => pj_R_icF rfl b2 h) ?_
      refine pj_X_of (fun r h => pj_R_to (G0, 10, [(0, .ref 53), (1, .int i), (2, .ref 21)], [.ref 53], 0, 0) 10 2 (fun _ => rfl) h) ?_
      refine pj_X_of (fun r h => pj_T_gr hI rfl rfl rfl h) ?_
      refine pj_X_of (fun r h => pj_R_to (G0, 14, [(0, .ref 53), (1, .int i), (2, .ref 21)], [.int i, .ref 56], 0, 0) 14 2 (fun _ => rfl) h) ?_
      refine pj_X_of (fun r h => pj_T_bl hI rfl rfl (by omega) (by omega) h) ?_
      show pj_X _ _ G0 15 [(0, .ref 53), (1, .int i), (2, .ref 21)] [.int (pj_ai G0 56 i.toInt.toNat)] _
      obtain ⟨z3, hz3⟩ : ∃ z : Int32, z = pj_ai G0 56 i.toInt.toNat := ⟨_, rfl⟩
      rw [← hz3]
      have ez3 : (pj_ai G0 56 i.toInt.toNat).toInt = z3.toInt := by rw [hz3]
      cases b4 : pj_c1 .eq z3 0 with
      | true =>
        have ub4 := pj_u0_eqT b4
        refine pj_X_of (fun r h => pj_R_ifT 54 rfl rfl b4 h) ?_
        refine pj_X_of (fun r h => pj_R_to (G0, 55, [(0, .ref 53), (1, .int i), (2, .ref 21)], [.int (Int32.ofInt 0)], 0, 0) 55 2 (fun _ => rfl) h) ?_
        exact pj_X_rt rfl rfl ⟨_, rfl, rfl, ⟨by omega, by omega⟩, by omega⟩
      | false =>
        have ub4 := pj_u0_eqF b4
        refine pj_X_of (fun r h => pj_R_ifF rfl b4 h) ?_
        refine pj_X_of (fun r h => pj_R_to (G0, 19, [(0, .ref 53), (1, .int i), (2, .ref 21)], [.ref 53], 0, 0) 19 2 (fun _ => rfl) h) ?_
        refine pj_X_of (fun r h => pj_T_gr hI rfl rfl rfl h) ?_
        refine pj_X_of (fun r h => pj_R_to (G0, 23, [(0, .ref 53), (1, .int i), (2, .ref 21)], [.int i, .ref 55], 0, 0) 23 2 (fun _ => rfl) h) ?_
        by_cases t5 : i.toInt = 0
        · refine pj_X_aa hI rfl rfl (k := 0) (by show _ = ((0 : Nat) : Int); omega) (by decide) rfl ?_
          refine pj_X_of (fun r h => pj_T_gi hI rfl rfl h) ?_
          show pj_X _ _ G0 27 [(0, .ref 53), (1, .int i), (2, .ref 21)] [.int (pj_fi G0 153 0)] _
          obtain ⟨y6, hy6⟩ : ∃ z : Int32, z = pj_fi G0 153 0 := ⟨_, rfl⟩
          rw [← hy6]
          have ey6 : (pj_fi G0 153 0).toInt = y6.toInt := by rw [hy6]
          have ry6 : (0 : Int) ≤ y6.toInt ∧ y6.toInt ≤ 6 := by rw [hy6]; exact hI.2.1 153 0 (0, 6) rfl
          refine pj_X_of (fun r h => pj_R_to (G0, 28, [(0, .ref 53), (1, .int i), (2, .ref 21)], [.ref 21, .int y6], 0, 0) 28 2 (fun _ => rfl) h) ?_
          refine pj_X_of (fun r h => pj_T_gi hI rfl rfl h) ?_
          show pj_X _ _ G0 31 [(0, .ref 53), (1, .int i), (2, .ref 21)] [.int (pj_fi G0 21 0), .int y6] _
          obtain ⟨y7, hy7⟩ : ∃ z : Int32, z = pj_fi G0 21 0 := ⟨_, rfl⟩
          rw [← hy7]
          have ey7 : (pj_fi G0 21 0).toInt = y7.toInt := by rw [hy7]
          have ry7 : (0 : Int) ≤ y7.toInt ∧ y7.toInt ≤ 6 := by rw [hy7]; exact hI.2.1 21 0 (0, 6) rfl
          cases b8 : pj_c1 .ne y6 y7 with
          | true =>
            have ub8 := pj_u_neT b8
            refine pj_X_of (fun r h => pj_R_icT 54 rfl rfl b8 h) ?_
            refine pj_X_of (fun r h => pj_R_to (G0, 55, [(0, .ref 53), (1, .int i), (2, .ref 21)], [.int (Int32.ofInt 0)], 0, 0) 55 2 (fun _ => rfl) h) ?_
            exact pj_X_rt rfl rfl ⟨_, rfl, rfl, ⟨by omega, by omega⟩, by omega⟩
          | false =>
            have ub8 := pj_u_neF b8
            refine pj_X_of (fun r h => pj_R_icF rfl b8 h) ?_
            refine pj_X_of (fun r h => pj_R_to (G0, 35, [(0, .ref 53), (1, .int i), (2, .ref 21)], [.ref 53], 0, 0) 35 2 (fun _ => rfl) h) ?_
            refine pj_X_of (fun r h => pj_T_gr hI rfl rfl rfl h) ?_
            refine pj_X_of (fun r h => pj_R_to (G0, 39, [(0, .ref 53), (1, .int i), (2, .ref 21)], [.int i, .ref 55], 0, 0) 39 2 (fun _ => rfl) h) ?_
            · refine pj_X_aa hI rfl rfl (k := 0) (by show _ = ((0 : Nat) : Int); omega) (by decide) rfl ?_
              refine pj_X_of (fun r h => pj_T_gi hI rfl rfl h) ?_
              show pj_X _ _ G0 43 [(0, .ref 53), (1, .int i), (2, .ref 21)] [.int (pj_fi G0 153 5)] _
              obtain ⟨y9, hy9⟩ : ∃ z : Int32, z = pj_fi G0 153 5 := ⟨_, rfl⟩
              rw [← hy9]
              have ey9 : (pj_fi G0 153 5).toInt = y9.toInt := by rw [hy9]
              have ry9 : (0 : Int) ≤ y9.toInt ∧ y9.toInt ≤ 6 := by rw [hy9]; exact hI.2.1 153 5 (0, 6) rfl
              refine pj_X_of (fun r h => pj_R_to (G0, 44, [(0, .ref 53), (1, .int i), (2, .ref 21)], [.ref 21, .int y9], 0, 0) 44 2 (fun _ => rfl) h) ?_
              refine pj_X_of (fun r h => pj_T_gi hI rfl rfl h) ?_
              show pj_X _ _ G0 47 [(0, .ref 53), (1, .int i), (2, .ref 21)] [.int (pj_fi G0 21 5), .int y9] _
              obtain ⟨y10, hy10⟩ : ∃ z : Int32, z = pj_fi G0 21 5 := ⟨_, rfl⟩
              rw [← hy10]
              have ey10 : (pj_fi G0 21 5).toInt = y10.toInt := by rw [hy10]
              have ry10 : (0 : Int) ≤ y10.toInt ∧ y10.toInt ≤ 6 := by rw [hy10]; exact hI.2.1 21 5 (0, 6) rfl
              cases b11 : pj_c1 .ne y9 y10 with
              | true =>
                have ub11 := pj_u_neT b11
                refine pj_X_of (fun r h => pj_R_icT 54 rfl rfl b11 h) ?_
                refine pj_X_of (fun r h => pj_R_to (G0, 55, [(0, .ref 53), (1, .int i), (2, .ref 21)], [.int (Int32.ofInt 0)], 0, 0) 55 2 (fun _ => rfl) h) ?_
                exact pj_X_rt rfl rfl ⟨_, rfl, rfl, ⟨by omega, by omega⟩, by omega⟩
              | false =>
                have ub11 := pj_u_neF b11
                refine pj_X_of (fun r h => pj_R_icF rfl b11 h) ?_
                refine pj_X_of (fun r h => pj_R_to (G0, 55, [(0, .ref 53), (1, .int i), (2, .ref 21)], [.int (Int32.ofInt 1)], 0, 0) 55 3 (fun _ => rfl) h) ?_
                exact pj_X_rt rfl rfl ⟨_, rfl, rfl, ⟨by omega, by omega⟩, by omega⟩
        by_cases t12 : i.toInt = 1
        · refine pj_X_aa hI rfl rfl (k := 1) (by show _ = ((1 : Nat) : Int); omega) (by decide) rfl ?_
          refine pj_X_of (fun r h => pj_T_gi hI rfl rfl h) ?_
          show pj_X _ _ G0 27 [(0, .ref 53), (1, .int i), (2, .ref 21)] [.int (pj_fi G0 159 0)] _
          obtain ⟨y13, hy13⟩ : ∃ z : Int32, z = pj_fi G0 159 0 := ⟨_, rfl⟩
          rw [← hy13]
          have ey13 : (pj_fi G0 159 0).toInt = y13.toInt := by rw [hy13]
          have ry13 : (0 : Int) ≤ y13.toInt ∧ y13.toInt ≤ 6 := by rw [hy13]; exact hI.2.1 159 0 (0, 6) rfl
          refine pj_X_of (fun r h => pj_R_to (G0, 28, [(0, .ref 53), (1, .int i), (2, .ref 21)], [.ref 21, .int y13], 0, 0) 28 2 (fun _ => rfl) h) ?_
          refine pj_X_of (fun r h => pj_T_gi hI rfl rfl h) ?_
          show pj_X _ _ G0 31 [(0, .ref 53), (1, .int i), (2, .ref 21)] [.int (pj_fi G0 21 0), .int y13] _
          obtain ⟨y14, hy14⟩ : ∃ z : Int32, z = pj_fi G0 21 0 := ⟨_, rfl⟩
          rw [← hy14]
          have ey14 : (pj_fi G0 21 0).toInt = y14.toInt := by rw [hy14]
          have ry14 : (0 : Int) ≤ y14.toInt ∧ y14.toInt ≤ 6 := by rw [hy14]; exact hI.2.1 21 0 (0, 6) rfl
          cases b15 : pj_c1 .ne y13 y14 with
          | true =>
            have ub15 := pj_u_neT b15
            refine pj_X_of (fun r h => pj_R_icT 54 rfl rfl b15 h) ?_
            refine pj_X_of (fun r h => pj_R_to (G0, 55, [(0, .ref 53), (1, .int i), (2, .ref 21)], [.int (Int32.ofInt 0)], 0, 0) 55 2 (fun _ => rfl) h) ?_
            exact pj_X_rt rfl rfl ⟨_, rfl, rfl, ⟨by omega, by omega⟩, by omega⟩
          | false =>
            have ub15 := pj_u_neF b15
            refine pj_X_of (fun r h => pj_R_icF rfl b15 h) ?_
            refine pj_X_of (fun r h => pj_R_to (G0, 35, [(0, .ref 53), (1, .int i), (2, .ref 21)], [.ref 53], 0, 0) 35 2 (fun _ => rfl) h) ?_
            refine pj_X_of (fun r h => pj_T_gr hI rfl rfl rfl h) ?_
            refine pj_X_of (fun r h => pj_R_to (G0, 39, [(0, .ref 53), (1, .int i), (2, .ref 21)], [.int i, .ref 55], 0, 0) 39 2 (fun _ => rfl) h) ?_
            · refine pj_X_aa hI rfl rfl (k := 1) (by show _ = ((1 : Nat) : Int); omega) (by decide) rfl ?_
              refine pj_X_of (fun r h => pj_T_gi hI rfl rfl h) ?_
              show pj_X _ _ G0 43 [(0, .ref 53), (1, .int i), (2, .ref 21)] [.int (pj_fi G0 159 5)] _
              obtain ⟨y16, hy16⟩ : ∃ z : Int32, z = pj_fi G0 159 5 := ⟨_, rfl⟩
              rw [← hy16]
              have ey16 : (pj_fi G0 159 5).toInt = y16.toInt := by rw [hy16]
              have ry16 : (0 : Int) ≤ y16.toInt ∧ y16.toInt ≤ 6 := by rw [hy16]; exact hI.2.1 159 5 (0, 6) rfl
              refine pj_X_of (fun r h => pj_R_to (G0, 44, [(0, .ref 53), (1, .int i), (2, .ref 21)], [.ref 21, .int y16], 0, 0) 44 2 (fun _ => rfl) h) ?_
              refine pj_X_of (fun r h => pj_T_gi hI rfl rfl h) ?_
              show pj_X _ _ G0 47 [(0, .ref 53), (1, .int i), (2, .ref 21)] [.int (pj_fi G0 21 5), .int y16] _
              obtain ⟨y17, hy17⟩ : ∃ z : Int32, z = pj_fi G0 21 5 := ⟨_, rfl⟩
              rw [← hy17]
              have ey17 : (pj_fi G0 21 5).toInt = y17.toInt := by rw [hy17]
              have ry17 : (0 : Int) ≤ y17.toInt ∧ y17.toInt ≤ 6 := by rw [hy17]; exact hI.2.1 21 5 (0, 6) rfl
              cases b18 : pj_c1 .ne y16 y17 with
              | true =>
                have ub18 := pj_u_neT b18
                refine pj_X_of (fun r h => pj_R_icT 54 rfl rfl b18 h) ?_
                refine pj_X_of (fun r h => pj_R_to (G0, 55, [(0, .ref 53), (1, .int i), (2, .ref 21)], [.int (Int32.ofInt 0)], 0, 0) 55 2 (fun _ => rfl) h) ?_
                exact pj_X_rt rfl rfl ⟨_, rfl, rfl, ⟨by omega, by omega⟩, by omega⟩
              | false =>
                have ub18 := pj_u_neF b18
                refine pj_X_of (fun r h => pj_R_icF rfl b18 h) ?_
                refine pj_X_of (fun r h => pj_R_to (G0, 55, [(0, .ref 53), (1, .int i), (2, .ref 21)], [.int (Int32.ofInt 1)], 0, 0) 55 3 (fun _ => rfl) h) ?_
                exact pj_X_rt rfl rfl ⟨_, rfl, rfl, ⟨by omega, by omega⟩, by omega⟩
        · refine pj_X_aa hI rfl rfl (k := 2) (by show _ = ((2 : Nat) : Int); omega) (by decide) rfl ?_
          refine pj_X_of (fun r h => pj_T_gi hI rfl rfl h) ?_
          show pj_X _ _ G0 27 [(0, .ref 53), (1, .int i), (2, .ref 21)] [.int (pj_fi G0 165 0)] _
          obtain ⟨y19, hy19⟩ : ∃ z : Int32, z = pj_fi G0 165 0 := ⟨_, rfl⟩
          rw [← hy19]
          have ey19 : (pj_fi G0 165 0).toInt = y19.toInt := by rw [hy19]
          have ry19 : (0 : Int) ≤ y19.toInt ∧ y19.toInt ≤ 6 := by rw [hy19]; exact hI.2.1 165 0 (0, 6) rfl
          refine pj_X_of (fun r h => pj_R_to (G0, 28, [(0, .ref 53), (1, .int i), (2, .ref 21)], [.ref 21, .int y19], 0, 0) 28 2 (fun _ => rfl) h) ?_
          refine pj_X_of (fun r h => pj_T_gi hI rfl rfl h) ?_
          show pj_X _ _ G0 31 [(0, .ref 53), (1, .int i), (2, .ref 21)] [.int (pj_fi G0 21 0), .int y19] _
          obtain ⟨y20, hy20⟩ : ∃ z : Int32, z = pj_fi G0 21 0 := ⟨_, rfl⟩
          rw [← hy20]
          have ey20 : (pj_fi G0 21 0).toInt = y20.toInt := by rw [hy20]
          have ry20 : (0 : Int) ≤ y20.toInt ∧ y20.toInt ≤ 6 := by rw [hy20]; exact hI.2.1 21 0 (0, 6) rfl
          cases b21 : pj_c1 .ne y19 y20 with
          | true =>
            have ub21 := pj_u_neT b21
            refine pj_X_of (fun r h => pj_R_icT 54 rfl rfl b21 h) ?_
            refine pj_X_of (fun r h => pj_R_to (G0, 55, [(0, .ref 53), (1, .int i), (2, .ref 21)], [.int (Int32.ofInt 0)], 0, 0) 55 2 (fun _ => rfl) h) ?_
            exact pj_X_rt rfl rfl ⟨_, rfl, rfl, ⟨by omega, by omega⟩, by omega⟩
          | false =>
            have ub21 := pj_u_neF b21
            refine pj_X_of (fun r h => pj_R_icF rfl b21 h) ?_
            refine pj_X_of (fun r h => pj_R_to (G0, 35, [(0, .ref 53), (1, .int i), (2, .ref 21)], [.ref 53], 0, 0) 35 2 (fun _ => rfl) h) ?_
            refine pj_X_of (fun r h => pj_T_gr hI rfl rfl rfl h) ?_
            refine pj_X_of (fun r h => pj_R_to (G0, 39, [(0, .ref 53), (1, .int i), (2, .ref 21)], [.int i, .ref 55], 0, 0) 39 2 (fun _ => rfl) h) ?_
            · refine pj_X_aa hI rfl rfl (k := 2) (by show _ = ((2 : Nat) : Int); omega) (by decide) rfl ?_
              refine pj_X_of (fun r h => pj_T_gi hI rfl rfl h) ?_
              show pj_X _ _ G0 43 [(0, .ref 53), (1, .int i), (2, .ref 21)] [.int (pj_fi G0 165 5)] _
              obtain ⟨y22, hy22⟩ : ∃ z : Int32, z = pj_fi G0 165 5 := ⟨_, rfl⟩
              rw [← hy22]
              have ey22 : (pj_fi G0 165 5).toInt = y22.toInt := by rw [hy22]
              have ry22 : (0 : Int) ≤ y22.toInt ∧ y22.toInt ≤ 6 := by rw [hy22]; exact hI.2.1 165 5 (0, 6) rfl
              refine pj_X_of (fun r h => pj_R_to (G0, 44, [(0, .ref 53), (1, .int i), (2, .ref 21)], [.ref 21, .int y22], 0, 0) 44 2 (fun _ => rfl) h) ?_
              refine pj_X_of (fun r h => pj_T_gi hI rfl rfl h) ?_
              show pj_X _ _ G0 47 [(0, .ref 53), (1, .int i), (2, .ref 21)] [.int (pj_fi G0 21 5), .int y22] _
              obtain ⟨y23, hy23⟩ : ∃ z : Int32, z = pj_fi G0 21 5 := ⟨_, rfl⟩
              rw [← hy23]
              have ey23 : (pj_fi G0 21 5).toInt = y23.toInt := by rw [hy23]
              have ry23 : (0 : Int) ≤ y23.toInt ∧ y23.toInt ≤ 6 := by rw [hy23]; exact hI.2.1 21 5 (0, 6) rfl
              cases b24 : pj_c1 .ne y22 y23 with
              | true =>
                have ub24 := pj_u_neT b24
                refine pj_X_of (fun r h => pj_R_icT 54 rfl rfl b24 h) ?_
                refine pj_X_of (fun r h => pj_R_to (G0, 55, [(0, .ref 53), (1, .int i), (2, .ref 21)], [.int (Int32.ofInt 0)], 0, 0) 55 2 (fun _ => rfl) h) ?_
                exact pj_X_rt rfl rfl ⟨_, rfl, rfl, ⟨by omega, by omega⟩, by omega⟩
              | false =>
                have ub24 := pj_u_neF b24
                refine pj_X_of (fun r h => pj_R_icF rfl b24 h) ?_
                refine pj_X_of (fun r h => pj_R_to (G0, 55, [(0, .ref 53), (1, .int i), (2, .ref 21)], [.int (Int32.ofInt 1)], 0, 0) 55 3 (fun _ => rfl) h) ?_
                exact pj_X_rt rfl rfl ⟨_, rfl, rfl, ⟨by omega, by omega⟩, by omega⟩
def kc_51_7 : pj_KT := ([(4, 1)], [4, 5], [])
theorem lp_ct_51_7 (G0 : pj_G) (hI0 : pj_Inv G0) (f : Int32) (to : Int32) (st : Int32) (op : Int32) (rst : (0 : Int) ≤ st.toInt ∧ st.toInt ≤ 8) : ∀ mn : Nat, (∀ (G : pj_G) (hI : pj_Inv G) (hK : pj_kpt kc_51_7 G0 G) (v6 : Int32) (v7 : Int32), ((-2147483648 : Int) ≤ v6.toInt ∧ v6.toInt ≤ 2147483647) → ((-1 : Int) ≤ v7.toInt ∧ v7.toInt ≤ 7) → 30 * (v7.toInt + 1) < (mn : Int) → pj_X 3 pj_m51 G 9 [(0, .ref 7), (1, .ref 4), (2, .int f), (3, .int to), (4, .int st), (5, .int op), (6, .int v6), (7, .int v7)] [] (fun v G' => v = none ∧ pj_Inv G' ∧ pj_kpt kc_51_7 G0 G')) ∧ (∀ (G : pj_G) (hI : pj_Inv G) (hK : pj_kpt kc_51_7 G0 G) (v6 : Int32) (v7 : Int32) (v8 : Int32) (v9 : Int32) (v10 : Int32), ((-2147483648 : Int) ≤ v6.toInt ∧ v6.toInt ≤ 2147483647) → ((0 : Int) ≤ v7.toInt ∧ v7.toInt ≤ 7) → ((-2147483648 : Int) ≤ v8.toInt ∧ v8.toInt ≤ 2147483647) → ((-2147483648 : Int) ≤ v9.toInt ∧ v9.toInt ≤ 2147483647) → ((0 : Int) ≤ v10.toInt ∧ v10.toInt ≤ 10) → 30 * (v7.toInt + 1) - 1 - v10.toInt < (mn : Int) → pj_X 3 pj_m51 G 31 [(0, .ref 7), (1, .ref 4), (2, .int f), (3, .int to), (4, .int st), (5, .int op), (6, .int v6), (7, .int v7), (8, .int v8), (9, .int v9), (10, .int v10)] [] (fun v G' => v = none ∧ pj_Inv G' ∧ pj_kpt kc_51_7 G0 G')) := by
  have c0_ : (Int32.ofInt (-1)).toInt = -1 := by decide
  have c1_ : (Int32.ofInt 0).toInt = 0 := by decide
  have c2_ : (Int32.ofInt 1).toInt = 1 := by decide
  intro mn
  induction mn with
  | zero =>
    refine ⟨?_, ?_⟩
    · intro G hI hK v6 v7 rv6 rv7 hm
      exfalso
      omega
    · intro G hI hK v6 v7 v8 v9 v10 rv6 rv7 rv8 rv9 rv10 hm
      exfalso
      omega
  | succ mn ih =>
    refine ⟨?_, ?_⟩
    · intro G hI hK v6 v7 rv6 rv7 hm
      refine pj_X_of (fun r h => pj_R_to (G, 11, [(0, .ref 7), (1, .ref 4), (2, .int f), (3, .int to), (4, .int st), (5, .int op), (6, .int v6), (7, .int v7)], [.int v7], 0, 0) 11 2 (fun _ => rfl) h) ?_
      cases b1 : pj_c1 .lt v7 0 with
      | true =>
        have ub1 := pj_u0_ltT b1
        refine pj_X_of (fun r h => pj_R_ifT 111 rfl rfl b1 h) ?_
        exact pj_X_rt rfl rfl ⟨rfl, hI, hK⟩
      | false =>
        have ub1 := pj_u0_ltF b1
        refine pj_X_of (fun r h => pj_R_ifF rfl b1 h) ?_
        refine pj_X_of (fun r h => pj_R_to (G, 20, [(0, .ref 7), (1, .ref 4), (2, .int f), (3, .int to), (4, .int st), (5, .int op), (6, .int v6), (7, .int v7)], [.int op, .int v7, .int to, .ref 7], 0, 0) 20 5 (fun _ => rfl) h) ?_
        refine pj_X_ca (vs := [.ref 7, .int to, .int v7, .int op]) rfl (fun _ => rfl) ⟨Nat.le_of_ble_eq_true rfl, Nat.le_of_ble_eq_true rfl, pj_T_rcv hI rfl⟩ ⟨rfl, rfl⟩ (pj_Y_up (by decide) (ct_46_7 G hI to v7 op ⟨by omega, by omega⟩)) ?_
        rintro _ _ ⟨y2, rfl, rfl, ry2⟩
        show pj_X _ _ G 23 [(0, .ref 7), (1, .ref 4), (2, .int f), (3, .int to), (4, .int st), (5, .int op), (6, .int v6), (7, .int v7)] [.int y2] _
        refine pj_X_of (fun r h => pj_R_to (G, 31, [(10, .int (Int32.ofInt 0)), (9, .int (Int32.ofInt 0)), (8, .int y2), (0, .ref 7), (1, .ref 4), (2, .int f), (3, .int to), (4, .int st), (5, .int op), (6, .int v6), (7, .int v7)], [], 0, 0) 31 6 (fun _ => rfl) h) ?_
        exact pj_X_sub [(0, .ref 7), (1, .ref 4), (2, .int f), (3, .int to), (4, .int st), (5, .int op), (6, .int v6), (7, .int v7), (8, .int y2), (9, .int (Int32.ofInt 0)), (10, .int (Int32.ofInt 0))] (show List.Nodup [0, 1, 2, 3, 4, 5, 6, 7, 8, 9, 10] by decide) ⟨rfl, rfl, rfl, rfl, rfl, rfl, rfl, rfl, rfl, rfl, rfl, trivial⟩ (ih.2 G hI hK v6 v7 y2 (Int32.ofInt 0) (Int32.ofInt 0) (pj_i32 _) ⟨by omega, by omega⟩ (pj_i32 _) (pj_i32 _) ⟨by omega, by omega⟩ (by omega))
    · intro G hI hK v6 v7 v8 v9 v10 rv6 rv7 rv8 rv9 rv10 hm
      refine pj_X_of (fun r h => pj_R_to (G, 34, [(0, .ref 7), (1, .ref 4), (2, .int f), (3, .int to), (4, .int st), (5, .int op), (6, .int v6), (7, .int v7), (8, .int v8), (9, .int v9), (10, .int v10)], [.ref 7, .int v10], 0, 0) 34 3 (fun _ => rfl) h) ?_
      refine pj_X_of (fun r h => pj_T_gi hI rfl rfl h) ?_
      show pj_X _ _ G 37 [(0, .ref 7), (1, .ref 4), (2, .int f), (3, .int to), (4, .int st), (5, .int op), (6, .int v6), (7, .int v7), (8, .int v8), (9, .int v9), (10, .int v10)] [.int (pj_fi G 7 1), .int v10] _
      obtain ⟨y3, hy3⟩ : ∃ z : Int32, z = pj_fi G 7 1 := ⟨_, rfl⟩
      rw [← hy3]
      have ey3 : (pj_fi G 7 1).toInt = y3.toInt := by rw [hy3]
      have ry3 : (0 : Int) ≤ y3.toInt ∧ y3.toInt ≤ 10 := by rw [hy3]; exact hI.2.1 7 1 (0, 10) rfl
      cases b4 : pj_c1 .ge v10 y3 with
      | true =>
        have ub4 := pj_u_geT b4
        refine pj_X_of (fun r h => pj_R_icT 105 rfl rfl b4 h) ?_
        refine pj_X_of (fun r h => pj_R_to (G, 108, [(7, .int (v7 + Int32.ofInt (-1))), (0, .ref 7), (1, .ref 4), (2, .int f), (3, .int to), (4, .int st), (5, .int op), (6, .int v6), (8, .int v8), (9, .int v9), (10, .int v10)], [], 0, 0) 108 2 (fun _ => rfl) h) ?_
        obtain ⟨z5, hz5⟩ : ∃ z : Int32, z = v7 + Int32.ofInt (-1) := ⟨_, rfl⟩
        rw [← hz5]
        have fz5_0 : z5.toInt = v7.toInt + (Int32.ofInt (-1)).toInt := by rw [hz5]; exact pj_addI (by have := pj_i32 v7; have := pj_i32 (Int32.ofInt (-1)); omega) (by have := pj_i32 v7; have := pj_i32 (Int32.ofInt (-1)); omega)
        refine pj_X_of (fun r h => pj_R_to (G, 9, [(7, .int z5), (0, .ref 7), (1, .ref 4), (2, .int f), (3, .int to), (4, .int st), (5, .int op), (6, .int v6), (8, .int v8), (9, .int v9), (10, .int v10)], [], 0, 0) 9 2 (fun _ => rfl) h) ?_
        exact pj_X_sub [(0, .ref 7), (1, .ref 4), (2, .int f), (3, .int to), (4, .int st), (5, .int op), (6, .int v6), (7, .int z5)] (show List.Nodup [0, 1, 2, 3, 4, 5, 6, 7] by decide) ⟨rfl, rfl, rfl, rfl, rfl, rfl, rfl, rfl, trivial⟩ (ih.1 G hI hK v6 z5 (pj_i32 _) ⟨by omega, by omega⟩ (by omega))
      | false =>
        have ub4 := pj_u_geF b4
        refine pj_X_of (fun r h => pj_R_icF rfl b4 h) ?_
        refine pj_X_of (fun r h => pj_R_to (G, 42, [(0, .ref 7), (1, .ref 4), (2, .int f), (3, .int to), (4, .int st), (5, .int op), (6, .int v6), (7, .int v7), (8, .int v8), (9, .int v9), (10, .int v10)], [.int v9], 0, 0) 42 2 (fun _ => rfl) h) ?_
        cases b6 : pj_c1 .ne v9 0 with
        | true =>
          have ub6 := pj_u0_neT b6
          refine pj_X_of (fun r h => pj_R_ifT 105 rfl rfl b6 h) ?_
          refine pj_X_of (fun r h => pj_R_to (G, 108, [(7, .int (v7 + Int32.ofInt (-1))), (0, .ref 7), (1, .ref 4), (2, .int f), (3, .int to), (4, .int st), (5, .int op), (6, .int v6), (8, .int v8), (9, .int v9), (10, .int v10)], [], 0, 0) 108 2 (fun _ => rfl) h) ?_
          obtain ⟨z7, hz7⟩ : ∃ z : Int32, z = v7 + Int32.ofInt (-1) := ⟨_, rfl⟩
          rw [← hz7]
          have fz7_0 : z7.toInt = v7.toInt + (Int32.ofInt (-1)).toInt := by rw [hz7]; exact pj_addI (by have := pj_i32 v7; have := pj_i32 (Int32.ofInt (-1)); omega) (by have := pj_i32 v7; have := pj_i32 (Int32.ofInt (-1)); omega)
          refine pj_X_of (fun r h => pj_R_to (G, 9, [(7, .int z7), (0, .ref 7), (1, .ref 4), (2, .int f), (3, .int to), (4, .int st), (5, .int op), (6, .int v6), (8, .int v8), (9, .int v9), (10, .int v10)], [], 0, 0) 9 2 (fun _ => rfl) h) ?_
          exact pj_X_sub [(0, .ref 7), (1, .ref 4), (2, .int f), (3, .int to), (4, .int st), (5, .int op), (6, .int v6), (7, .int z7)] (show List.Nodup [0, 1, 2, 3, 4, 5, 6, 7] by decide) ⟨rfl, rfl, rfl, rfl, rfl, rfl, rfl, rfl, trivial⟩ (ih.1 G hI hK v6 z7 (pj_i32 _) ⟨by omega, by omega⟩ (by omega))
        | false =>
          have ub6 := pj_u0_neF b6
          refine pj_X_of (fun r h => pj_R_ifF rfl b6 h) ?_
          refine pj_X_of (fun r h => pj_R_to (G, 49, [(0, .ref 7), (1, .ref 4), (2, .int f), (3, .int to), (4, .int st), (5, .int op), (6, .int v6), (7, .int v7), (8, .int v8), (9, .int v9), (10, .int v10)], [.int v10, .int op], 0, 0) 49 3 (fun _ => rfl) h) ?_
          refine pj_X_ca (vs := [.int op, .int v10]) rfl (fun _ => rfl) ⟨Nat.le_of_ble_eq_true rfl, Nat.le_of_ble_eq_true rfl, rfl⟩ ⟨rfl, rfl⟩ (pj_Y_up (by decide) (ct_163x G hI op v10)) ?_
          rintro _ _ ⟨y8, rfl, rfl, ry8, fy8⟩
          show pj_X _ _ G 52 [(0, .ref 7), (1, .ref 4), (2, .int f), (3, .int to), (4, .int st), (5, .int op), (6, .int v6), (7, .int v7), (8, .int v8), (9, .int v9), (10, .int v10)] [.int y8] _
          cases b9 : pj_c1 .eq y8 0 with
          | true =>
            have ub9 := pj_u0_eqT b9
            refine pj_X_of (fun r h => pj_R_ifT 66 rfl rfl b9 h) ?_
            refine pj_X_of (fun r h => pj_R_to (G, 72, [(11, .int (Int32.ofInt (-1))), (0, .ref 7), (1, .ref 4), (2, .int f), (3, .int to), (4, .int st), (5, .int op), (6, .int v6), (7, .int v7), (8, .int v8), (9, .int v9), (10, .int v10)], [.int (Int32.ofInt (-1)), .int (Int32.ofInt (-1))], 0, 0) 72 5 (fun _ => rfl) h) ?_
            refine pj_X_of (fun r h => pj_R_icT 99 rfl rfl (pj_b_eqT (by omega)) h) ?_
            refine pj_X_of (fun r h => pj_R_to (G, 102, [(10, .int (v10 + Int32.ofInt 1)), (11, .int (Int32.ofInt (-1))), (0, .ref 7), (1, .ref 4), (2, .int f), (3, .int to), (4, .int st), (5, .int op), (6, .int v6), (7, .int v7), (8, .int v8), (9, .int v9)], [], 0, 0) 102 2 (fun _ => rfl) h) ?_
            obtain ⟨z10, hz10⟩ : ∃ z : Int32, z = v10 + Int32.ofInt 1 := ⟨_, rfl⟩
            rw [← hz10]
            have fz10_0 : z10.toInt = v10.toInt + (Int32.ofInt 1).toInt := by rw [hz10]; exact pj_addI (by have := pj_i32 v10; have := pj_i32 (Int32.ofInt 1); omega) (by have := pj_i32 v10; have := pj_i32 (Int32.ofInt 1); omega)
            refine pj_X_of (fun r h => pj_R_to (G, 31, [(10, .int z10), (11, .int (Int32.ofInt (-1))), (0, .ref 7), (1, .ref 4), (2, .int f), (3, .int to), (4, .int st), (5, .int op), (6, .int v6), (7, .int v7), (8, .int v8), (9, .int v9)], [], 0, 0) 31 2 (fun _ => rfl) h) ?_
            exact pj_X_sub [(0, .ref 7), (1, .ref 4), (2, .int f), (3, .int to), (4, .int st), (5, .int op), (6, .int v6), (7, .int v7), (8, .int v8), (9, .int v9), (10, .int z10)] (show List.Nodup [0, 1, 2, 3, 4, 5, 6, 7, 8, 9, 10] by decide) ⟨rfl, rfl, rfl, rfl, rfl, rfl, rfl, rfl, rfl, rfl, rfl, trivial⟩ (ih.2 G hI hK v6 v7 v8 v9 z10 (pj_i32 _) ⟨by omega, by omega⟩ (pj_i32 _) (pj_i32 _) ⟨by omega, by omega⟩ (by omega))
          | false =>
            have ub9 := pj_u0_eqF b9
            refine pj_X_of (fun r h => pj_R_ifF rfl b9 h) ?_
            refine pj_X_of (fun r h => pj_R_to (G, 60, [(0, .ref 7), (1, .ref 4), (2, .int f), (3, .int to), (4, .int st), (5, .int op), (6, .int v6), (7, .int v7), (8, .int v8), (9, .int v9), (10, .int v10)], [.int v6, .int v10, .ref 7], 0, 0) 60 4 (fun _ => rfl) h) ?_
            refine pj_X_ca (vs := [.ref 7, .int v10, .int v6]) rfl (fun _ => rfl) ⟨Nat.le_of_ble_eq_true rfl, Nat.le_of_ble_eq_true rfl, pj_T_rcv hI rfl⟩ ⟨rfl, rfl⟩ (pj_Y_up (by decide) (ct_44_7x G hI v10 v6 ⟨by omega, by omega⟩)) ?_
            rintro _ _ ⟨y11, rfl, rfl, ry11, fy11⟩
            show pj_X _ _ G 63 [(0, .ref 7), (1, .ref 4), (2, .int f), (3, .int to), (4, .int st), (5, .int op), (6, .int v6), (7, .int v7), (8, .int v8), (9, .int v9), (10, .int v10)] [.int y11] _
            refine pj_X_of (fun r h => pj_R_to (G, 72, [(11, .int y11), (0, .ref 7), (1, .ref 4), (2, .int f), (3, .int to), (4, .int st), (5, .int op), (6, .int v6), (7, .int v7), (8, .int v8), (9, .int v9), (10, .int v10)], [.int (Int32.ofInt (-1)), .int y11], 0, 0) 72 5 (fun _ => rfl) h) ?_
            cases b12 : pj_c1 .eq y11 (Int32.ofInt (-1)) with
            | true =>
              have ub12 := pj_u_eqT b12
              refine pj_X_of (fun r h => pj_R_icT 99 rfl rfl b12 h) ?_
              refine pj_X_of (fun r h => pj_R_to (G, 102, [(10, .int (v10 + Int32.ofInt 1)), (11, .int y11), (0, .ref 7), (1, .ref 4), (2, .int f), (3, .int to), (4, .int st), (5, .int op), (6, .int v6), (7, .int v7), (8, .int v8), (9, .int v9)], [], 0, 0) 102 2 (fun _ => rfl) h) ?_
              obtain ⟨z13, hz13⟩ : ∃ z : Int32, z = v10 + Int32.ofInt 1 := ⟨_, rfl⟩
              rw [← hz13]
              have fz13_0 : z13.toInt = v10.toInt + (Int32.ofInt 1).toInt := by rw [hz13]; exact pj_addI (by have := pj_i32 v10; have := pj_i32 (Int32.ofInt 1); omega) (by have := pj_i32 v10; have := pj_i32 (Int32.ofInt 1); omega)
              refine pj_X_of (fun r h => pj_R_to (G, 31, [(10, .int z13), (11, .int y11), (0, .ref 7), (1, .ref 4), (2, .int f), (3, .int to), (4, .int st), (5, .int op), (6, .int v6), (7, .int v7), (8, .int v8), (9, .int v9)], [], 0, 0) 31 2 (fun _ => rfl) h) ?_
              exact pj_X_sub [(0, .ref 7), (1, .ref 4), (2, .int f), (3, .int to), (4, .int st), (5, .int op), (6, .int v6), (7, .int v7), (8, .int v8), (9, .int v9), (10, .int z13)] (show List.Nodup [0, 1, 2, 3, 4, 5, 6, 7, 8, 9, 10] by decide) ⟨rfl, rfl, rfl, rfl, rfl, rfl, rfl, rfl, rfl, rfl, rfl, trivial⟩ (ih.2 G hI hK v6 v7 v8 v9 z13 (pj_i32 _) ⟨by omega, by omega⟩ (pj_i32 _) (pj_i32 _) ⟨by omega, by omega⟩ (by omega))
            | false =>
              have ub12 := pj_u_eqF b12
              refine pj_X_of (fun r h => pj_R_icF rfl b12 h) ?_
              refine pj_X_of (fun r h => pj_R_to (G, 79, [(11, .int y11), (0, .ref 7), (1, .ref 4), (2, .int f), (3, .int to), (4, .int st), (5, .int op), (6, .int v6), (7, .int v7), (8, .int v8), (9, .int v9), (10, .int v10)], [.int y11, .int v8], 0, 0) 79 3 (fun _ => rfl) h) ?_
              refine pj_X_ca (vs := [.int v8, .int y11]) rfl (fun _ => rfl) ⟨Nat.le_of_ble_eq_true rfl, Nat.le_of_ble_eq_true rfl, rfl⟩ ⟨rfl, rfl⟩ (pj_Y_up (by decide) (ct_163x G hI v8 y11)) ?_
              rintro _ _ ⟨y14, rfl, rfl, ry14, fy14⟩
              show pj_X _ _ G 82 [(11, .int y11), (0, .ref 7), (1, .ref 4), (2, .int f), (3, .int to), (4, .int st), (5, .int op), (6, .int v6), (7, .int v7), (8, .int v8), (9, .int v9), (10, .int v10)] [.int y14] _
              cases b15 : pj_c1 .eq y14 0 with
              | true =>
                have ub15 := pj_u0_eqT b15
                refine pj_X_of (fun r h => pj_R_ifT 99 rfl rfl b15 h) ?_
                refine pj_X_of (fun r h => pj_R_to (G, 102, [(10, .int (v10 + Int32.ofInt 1)), (11, .int y11), (0, .ref 7), (1, .ref 4), (2, .int f), (3, .int to), (4, .int st), (5, .int op), (6, .int v6), (7, .int v7), (8, .int v8), (9, .int v9)], [], 0, 0) 102 2 (fun _ => rfl) h) ?_
                obtain ⟨z16, hz16⟩ : ∃ z : Int32, z = v10 + Int32.ofInt 1 := ⟨_, rfl⟩
                rw [← hz16]
                have fz16_0 : z16.toInt = v10.toInt + (Int32.ofInt 1).toInt := by rw [hz16]; exact pj_addI (by have := pj_i32 v10; have := pj_i32 (Int32.ofInt 1); omega) (by have := pj_i32 v10; have := pj_i32 (Int32.ofInt 1); omega)
                refine pj_X_of (fun r h => pj_R_to (G, 31, [(10, .int z16), (11, .int y11), (0, .ref 7), (1, .ref 4), (2, .int f), (3, .int to), (4, .int st), (5, .int op), (6, .int v6), (7, .int v7), (8, .int v8), (9, .int v9)], [], 0, 0) 31 2 (fun _ => rfl) h) ?_
                exact pj_X_sub [(0, .ref 7), (1, .ref 4), (2, .int f), (3, .int to), (4, .int st), (5, .int op), (6, .int v6), (7, .int v7), (8, .int v8), (9, .int v9), (10, .int z16)] (show List.Nodup [0, 1, 2, 3, 4, 5, 6, 7, 8, 9, 10] by decide) ⟨rfl, rfl, rfl, rfl, rfl, rfl, rfl, rfl, rfl, rfl, rfl, trivial⟩ (ih.2 G hI hK v6 v7 v8 v9 z16 (pj_i32 _) ⟨by omega, by omega⟩ (pj_i32 _) (pj_i32 _) ⟨by omega, by omega⟩ (by omega))
              | false =>
                have ub15 := pj_u0_eqF b15
                refine pj_X_of (fun r h => pj_R_ifF rfl b15 h) ?_
                refine pj_X_of (fun r h => pj_R_to (G, 89, [(11, .int y11), (0, .ref 7), (1, .ref 4), (2, .int f), (3, .int to), (4, .int st), (5, .int op), (6, .int v6), (7, .int v7), (8, .int v8), (9, .int v9), (10, .int v10)], [.long v10.toInt64, .ref 4], 0, 0) 89 4 (fun _ => rfl) h) ?_
                have lc17 : (v10.toInt64).toInt = v10.toInt := Int32.toInt_toInt64 _
                refine pj_X_ca (vs := [.ref 4, .long v10.toInt64]) rfl (fun _ => rfl) ⟨Nat.le_of_ble_eq_true rfl, Nat.le_of_ble_eq_true rfl, pj_T_rcv hI rfl⟩ ⟨rfl, rfl⟩ (pj_Y_up (by decide) (ct_54x G hI v10.toInt64)) ?_
                rintro _ G19 ⟨rfl, iG19, jG19, fy18⟩
                have kG19 : pj_kpt kc_51_7 G0 G19 := pj_kpt_t hK (pj_kpt_s jG19 rfl)
                show pj_X _ _ G19 92 [(11, .int y11), (0, .ref 7), (1, .ref 4), (2, .int f), (3, .int to), (4, .int st), (5, .int op), (6, .int v6), (7, .int v7), (8, .int v8), (9, .int v9), (10, .int v10)] [] _
                refine pj_X_of (fun r h => pj_R_to (G19, 102, [(10, .int (v10 + Int32.ofInt 1)), (9, .int (Int32.ofInt 1)), (6, .int y11), (11, .int y11), (0, .ref 7), (1, .ref 4), (2, .int f), (3, .int to), (4, .int st), (5, .int op), (7, .int v7), (8, .int v8)], [], 0, 0) 102 6 (fun _ => rfl) h) ?_
                obtain ⟨z20, hz20⟩ : ∃ z : Int32, z = v10 + Int32.ofInt 1 := ⟨_, rfl⟩
                rw [← hz20]
                have fz20_0 : z20.toInt = v10.toInt + (Int32.ofInt 1).toInt := by rw [hz20]; exact pj_addI (by have := pj_i32 v10; have := pj_i32 (Int32.ofInt 1); omega) (by have := pj_i32 v10; have := pj_i32 (Int32.ofInt 1); omega)
                refine pj_X_of (fun r h => pj_R_to (G19, 31, [(10, .int z20), (9, .int (Int32.ofInt 1)), (6, .int y11), (11, .int y11), (0, .ref 7), (1, .ref 4), (2, .int f), (3, .int to), (4, .int st), (5, .int op), (7, .int v7), (8, .int v8)], [], 0, 0) 31 2 (fun _ => rfl) h) ?_
                exact pj_X_sub [(0, .ref 7), (1, .ref 4), (2, .int f), (3, .int to), (4, .int st), (5, .int op), (6, .int y11), (7, .int v7), (8, .int v8), (9, .int (Int32.ofInt 1)), (10, .int z20)] (show List.Nodup [0, 1, 2, 3, 4, 5, 6, 7, 8, 9, 10] by decide) ⟨rfl, rfl, rfl, rfl, rfl, rfl, rfl, rfl, rfl, rfl, rfl, trivial⟩ (ih.2 G19 iG19 kG19 y11 v7 v8 (Int32.ofInt 1) z20 (pj_i32 _) ⟨by omega, by omega⟩ (pj_i32 _) (pj_i32 _) ⟨by omega, by omega⟩ (by omega))
theorem ct_51_7 (G0 : pj_G) (hI : pj_Inv G0) (f : Int32) (to : Int32) (st : Int32) (op : Int32) (rst : (0 : Int) ≤ st.toInt ∧ st.toInt ≤ 8) : pj_Y 4 51 [.ref 7, .ref 4, .int f, .int to, .int st, .int op] G0 (fun v G' => v = none ∧ pj_Inv G' ∧ pj_kpt kc_51_7 G0 G') := by
  have c0_ : (Int32.ofInt (-1)).toInt = -1 := by decide
  have c1_ : (Int32.ofInt 0).toInt = 0 := by decide
  have c2_ : (Int32.ofInt 1).toInt = 1 := by decide
  refine pj_Y_X (M := pj_m51) rfl rfl (Nat.le_of_ble_eq_true rfl) ?_
  have hK : pj_kpt kc_51_7 G0 G0 := pj_kpt_r _ _
  show pj_X _ _ G0 0 [(0, .ref 7), (1, .ref 4), (2, .int f), (3, .int to), (4, .int st), (5, .int op)] [] _
  refine pj_X_of (fun r h => pj_R_to (G0, 7, [(6, .int f), (0, .ref 7), (1, .ref 4), (2, .int f), (3, .int to), (4, .int st), (5, .int op)], [.int (st - (Int32.ofInt 1))], 0, 0) 7 6 (fun _ => rfl) h) ?_
  obtain ⟨z21, hz21⟩ : ∃ z : Int32, z = st - (Int32.ofInt 1) := ⟨_, rfl⟩
  rw [← hz21]
  have fz21_0 : z21.toInt = st.toInt - (Int32.ofInt 1).toInt := by rw [hz21]; exact pj_subI (by have := pj_i32 st; have := pj_i32 (Int32.ofInt 1); omega) (by have := pj_i32 st; have := pj_i32 (Int32.ofInt 1); omega)
  refine pj_X_of (fun r h => pj_R_to (G0, 9, [(7, .int z21), (6, .int f), (0, .ref 7), (1, .ref 4), (2, .int f), (3, .int to), (4, .int st), (5, .int op)], [], 0, 0) 9 2 (fun _ => rfl) h) ?_
  exact pj_X_sub [(0, .ref 7), (1, .ref 4), (2, .int f), (3, .int to), (4, .int st), (5, .int op), (6, .int f), (7, .int z21)] (show List.Nodup [0, 1, 2, 3, 4, 5, 6, 7] by decide) ⟨rfl, rfl, rfl, rfl, rfl, rfl, rfl, rfl, trivial⟩ ((lp_ct_51_7 G0 hI f to st op rst 301).1 G0 hI hK f z21 (pj_i32 _) ⟨by omega, by omega⟩ (by omega))
def kc_51_14 : pj_KT := ([(4, 1)], [4, 5], [])
theorem lp_ct_51_14 (G0 : pj_G) (hI0 : pj_Inv G0) (f : Int32) (to : Int32) (st : Int32) (op : Int32) (rst : (0 : Int) ≤ st.toInt ∧ st.toInt ≤ 8) : ∀ mn : Nat, (∀ (G : pj_G) (hI : pj_Inv G) (hK : pj_kpt kc_51_14 G0 G) (v6 : Int32) (v7 : Int32), ((-2147483648 : Int) ≤ v6.toInt ∧ v6.toInt ≤ 2147483647) → ((-1 : Int) ≤ v7.toInt ∧ v7.toInt ≤ 7) → 30 * (v7.toInt + 1) < (mn : Int) → pj_X 3 pj_m51 G 9 [(0, .ref 14), (1, .ref 4), (2, .int f), (3, .int to), (4, .int st), (5, .int op), (6, .int v6), (7, .int v7)] [] (fun v G' => v = none ∧ pj_Inv G' ∧ pj_kpt kc_51_14 G0 G')) ∧ (∀ (G : pj_G) (hI : pj_Inv G) (hK : pj_kpt kc_51_14 G0 G) (v6 : Int32) (v7 : Int32) (v8 : Int32) (v9 : Int32) (v10 : Int32), ((-2147483648 : Int) ≤ v6.toInt ∧ v6.toInt ≤ 2147483647) → ((0 : Int) ≤ v7.toInt ∧ v7.toInt ≤ 7) → ((-2147483648 : Int) ≤ v8.toInt ∧ v8.toInt ≤ 2147483647) → ((-2147483648 : Int) ≤ v9.toInt ∧ v9.toInt ≤ 2147483647) → ((0 : Int) ≤ v10.toInt ∧ v10.toInt ≤ 10) → 30 * (v7.toInt + 1) - 1 - v10.toInt < (mn : Int) → pj_X 3 pj_m51 G 31 [(0, .ref 14), (1, .ref 4), (2, .int f), (3, .int to), (4, .int st), (5, .int op), (6, .int v6), (7, .int v7), (8, .int v8), (9, .int v9), (10, .int v10)] [] (fun v G' => v = none ∧ pj_Inv G' ∧ pj_kpt kc_51_14 G0 G')) := by
  have c0_ : (Int32.ofInt (-1)).toInt = -1 := by decide
  have c1_ : (Int32.ofInt 0).toInt = 0 := by decide
  have c2_ : (Int32.ofInt 1).toInt = 1 := by decide
  intro mn
  induction mn with
  | zero =>
    refine ⟨?_, ?_⟩
    · intro G hI hK v6 v7 rv6 rv7 hm
      exfalso
      omega
    · intro G hI hK v6 v7 v8 v9 v10 rv6 rv7 rv8 rv9 rv10 hm
      exfalso
      omega
  | succ mn ih =>
    refine ⟨?_, ?_⟩
    · intro G hI hK v6 v7 rv6 rv7 hm
      refine pj_X_of (fun r h => pj_R_to (G, 11, [(0, .ref 14), (1, .ref 4), (2, .int f), (3, .int to), (4, .int st), (5, .int op), (6, .int v6), (7, .int v7)], [.int v7], 0, 0) 11 2 (fun _ => rfl) h) ?_
      cases b1 : pj_c1 .lt v7 0 with
      | true =>
        have ub1 := pj_u0_ltT b1
        refine pj_X_of (fun r h => pj_R_ifT 111 rfl rfl b1 h) ?_
        exact pj_X_rt rfl rfl ⟨rfl, hI, hK⟩
      | false =>
        have ub1 := pj_u0_ltF b1
        refine pj_X_of (fun r h => pj_R_ifF rfl b1 h) ?_
        refine pj_X_of (fun r h => pj_R_to (G, 20, [(0, .ref 14), (1, .ref 4), (2, .int f), (3, .int to), (4, .int st), (5, .int op), (6, .int v6), (7, .int v7)], [.int op, .int v7, .int to, .ref 14], 0, 0) 20 5 (fun _ => rfl) h) ?_
        refine pj_X_ca (vs := [.ref 14, .int to, .int v7, .int op]) rfl (fun _ => rfl) ⟨Nat.le_of_ble_eq_true rfl, Nat.le_of_ble_eq_true rfl, pj_T_rcv hI rfl⟩ ⟨rfl, rfl⟩ (pj_Y_up (by decide) (ct_46_14 G hI to v7 op ⟨by omega, by omega⟩)) ?_
        rintro _ _ ⟨y2, rfl, rfl, ry2⟩
        show pj_X _ _ G 23 [(0, .ref 14), (1, .ref 4), (2, .int f), (3, .int to), (4, .int st), (5, .int op), (6, .int v6), (7, .int v7)] [.int y2] _
        refine pj_X_of (fun r h => pj_R_to (G, 31, [(10, .int (Int32.ofInt 0)), (9, .int (Int32.ofInt 0)), (8, .int y2), (0, .ref 14), (1, .ref 4), (2, .int f), (3, .int to), (4, .int st), (5, .int op), (6, .int v6), (7, .int v7)], [], 0, 0) 31 6 (fun _ => rfl) h) ?_
        exact pj_X_sub [(0, .ref 14), (1, .ref 4), (2, .int f), (3, .int to), (4, .int st), (5, .int op), (6, .int v6), (7, .int v7), (8, .int y2), (9, .int (Int32.ofInt 0)), (10, .int (Int32.ofInt 0))] (show List.Nodup [0, 1, 2, 3, 4, 5, 6, 7, 8, 9, 10] by decide) ⟨rfl, rfl, rfl, rfl, rfl, rfl, rfl, rfl, rfl, rfl, rfl, trivial⟩ (ih.2 G hI hK v6 v7 y2 (Int32.ofInt 0) (Int32.ofInt 0) (pj_i32 _) ⟨by omega, by omega⟩ (pj_i32 _) (pj_i32 _) ⟨by omega, by omega⟩ (by omega))
    · intro G hI hK v6 v7 v8 v9 v10 rv6 rv7 rv8 rv9 rv10 hm
      refine pj_X_of (fun r h => pj_R_to (G, 34, [(0, .ref 14), (1, .ref 4), (2, .int f), (3, .int to), (4, .int st), (5, .int op), (6, .int v6), (7, .int v7), (8, .int v8), (9, .int v9), (10, .int v10)], [.ref 14, .int v10], 0, 0) 34 3 (fun _ => rfl) h) ?_
      refine pj_X_of (fun r h => pj_T_gi hI rfl rfl h) ?_
      show pj_X _ _ G 37 [(0, .ref 14), (1, .ref 4), (2, .int f), (3, .int to), (4, .int st), (5, .int op), (6, .int v6), (7, .int v7), (8, .int v8), (9, .int v9), (10, .int v10)] [.int (pj_fi G 14 1), .int v10] _
      obtain ⟨y3, hy3⟩ : ∃ z : Int32, z = pj_fi G 14 1 := ⟨_, rfl⟩
      rw [← hy3]
      have ey3 : (pj_fi G 14 1).toInt = y3.toInt := by rw [hy3]
      have ry3 : (0 : Int) ≤ y3.toInt ∧ y3.toInt ≤ 10 := by rw [hy3]; exact hI.2.1 14 1 (0, 10) rfl
      cases b4 : pj_c1 .ge v10 y3 with
      | true =>
        have ub4 := pj_u_geT b4
        refine pj_X_of (fun r h => pj_R_icT 105 rfl rfl b4 h) ?_
        refine pj_X_of (fun r h => pj_R_to (G, 108, [(7, .int (v7 + Int32.ofInt (-1))), (0, .ref 14), (1, .ref 4), (2, .int f), (3, .int to), (4, .int st), (5, .int op), (6, .int v6), (8, .int v8), (9, .int v9), (10, .int v10)], [], 0, 0) 108 2 (fun _ => rfl) h) ?_
        obtain ⟨z5, hz5⟩ : ∃ z : Int32, z = v7 + Int32.ofInt (-1) := ⟨_, rfl⟩
        rw [← hz5]
        have fz5_0 : z5.toInt = v7.toInt + (Int32.ofInt (-1)).toInt := by rw [hz5]; exact pj_addI (by have := pj_i32 v7; have := pj_i32 (Int32.ofInt (-1)); omega) (by have := pj_i32 v7; have := pj_i32 (Int32.ofInt (-1)); omega)
        refine pj_X_of (fun r h => pj_R_to (G, 9, [(7, .int z5), (0, .ref 14), (1, .ref 4), (2, .int f), (3, .int to), (4, .int st), (5, .int op), (6, .int v6), (8, .int v8), (9, .int v9), (10, .int v10)], [], 0, 0) 9 2 (fun _ => rfl) h) ?_
        exact pj_X_sub [(0, .ref 14), (1, .ref 4), (2, .int f), (3, .int to), (4, .int st), (5, .int op), (6, .int v6), (7, .int z5)] (show List.Nodup [0, 1, 2, 3, 4, 5, 6, 7] by decide) ⟨rfl, rfl, rfl, rfl, rfl, rfl, rfl, rfl, trivial⟩ (ih.1 G hI hK v6 z5 (pj_i32 _) ⟨by omega, by omega⟩ (by omega))
      | false =>
        have ub4 := pj_u_geF b4
        refine pj_X_of (fun r h => pj_R_icF rfl b4 h) ?_
        refine pj_X_of (fun r h => pj_R_to (G, 42, [(0, .ref 14), (1, .ref 4), (2, .int f), (3, .int to), (4, .int st), (5, .int op), (6, .int v6), (7, .int v7), (8, .int v8), (9, .int v9), (10, .int v10)], [.int v9], 0, 0) 42 2 (fun _ => rfl) h) ?_
        cases b6 : pj_c1 .ne v9 0 with
        | true =>
          have ub6 := pj_u0_neT b6
          refine pj_X_of (fun r h => pj_R_ifT 105 rfl rfl b6 h) ?_
          refine pj_X_of (fun r h => pj_R_to (G, 108, [(7, .int (v7 + Int32.ofInt (-1))), (0, .ref 14), (1, .ref 4), (2, .int f), (3, .int to), (4, .int st), (5, .int op), (6, .int v6), (8, .int v8), (9, .int v9), (10, .int v10)], [], 0, 0) 108 2 (fun _ => rfl) h) ?_
          obtain ⟨z7, hz7⟩ : ∃ z : Int32, z = v7 + Int32.ofInt (-1) := ⟨_, rfl⟩
          rw [← hz7]
          have fz7_0 : z7.toInt = v7.toInt + (Int32.ofInt (-1)).toInt := by rw [hz7]; exact pj_addI (by have := pj_i32 v7; have := pj_i32 (Int32.ofInt (-1)); omega) (by have := pj_i32 v7; have := pj_i32 (Int32.ofInt (-1)); omega)
          refine pj_X_of (fun r h => pj_R_to (G, 9, [(7, .int z7), (0, .ref 14), (1, .ref 4), (2, .int f), (3, .int to), (4, .int st), (5, .int op), (6, .int v6), (8, .int v8), (9, .int v9), (10, .int v10)], [], 0, 0) 9 2 (fun _ => rfl) h) ?_
          exact pj_X_sub [(0, .ref 14), (1, .ref 4), (2, .int f), (3, .int to), (4, .int st), (5, .int op), (6, .int v6), (7, .int z7)] (show List.Nodup [0, 1, 2, 3, 4, 5, 6, 7] by decide) ⟨rfl, rfl, rfl, rfl, rfl, rfl, rfl, rfl, trivial⟩ (ih.1 G hI hK v6 z7 (pj_i32 _) ⟨by omega, by omega⟩ (by omega))
        | false =>
          have ub6 := pj_u0_neF b6
          refine pj_X_of (fun r h => pj_R_ifF rfl b6 h) ?_
          refine pj_X_of (fun r h => pj_R_to (G, 49, [(0, .ref 14), (1, .ref 4), (2, .int f), (3, .int to), (4, .int st), (5, .int op), (6, .int v6), (7, .int v7), (8, .int v8), (9, .int v9), (10, .int v10)], [.int v10, .int op], 0, 0) 49 3 (fun _ => rfl) h) ?_
          refine pj_X_ca (vs := [.int op, .int v10]) rfl (fun _ => rfl) ⟨Nat.le_of_ble_eq_true rfl, Nat.le_of_ble_eq_true rfl, rfl⟩ ⟨rfl, rfl⟩ (pj_Y_up (by decide) (ct_163x G hI op v10)) ?_
          rintro _ _ ⟨y8, rfl, rfl, ry8, fy8⟩
          show pj_X _ _ G 52 [(0, .ref 14), (1, .ref 4), (2, .int f), (3, .int to), (4, .int st), (5, .int op), (6, .int v6), (7, .int v7), (8, .int v8), (9, .int v9), (10, .int v10)] [.int y8] _
          cases b9 : pj_c1 .eq y8 0 with
          | true =>
            have ub9 := pj_u0_eqT b9
            refine pj_X_of (fun r h => pj_R_ifT 66 rfl rfl b9 h) ?_
            refine pj_X_of (fun r h => pj_R_to (G, 72, [(11, .int (Int32.ofInt (-1))), (0, .ref 14), (1, .ref 4), (2, .int f), (3, .int to), (4, .int st), (5, .int op), (6, .int v6), (7, .int v7), (8, .int v8), (9, .int v9), (10, .int v10)], [.int (Int32.ofInt (-1)), .int (Int32.ofInt (-1))], 0, 0) 72 5 (fun _ => rfl) h) ?_
            refine pj_X_of (fun r h => pj_R_icT 99 rfl rfl (pj_b_eqT (by omega)) h) ?_
            refine pj_X_of (fun r h => pj_R_to (G, 102, [(10, .int (v10 + Int32.ofInt 1)), (11, .int (Int32.ofInt (-1))), (0, .ref 14), (1, .ref 4), (2, .int f), (3, .int to), (4, .int st), (5, .int op), (6, .int v6), (7, .int v7), (8, .int v8), (9, .int v9)], [], 0, 0) 102 2 (fun _ => rfl) h) ?_
            obtain ⟨z10, hz10⟩ : ∃ z : Int32, z = v10 + Int32.ofInt 1 := ⟨_, rfl⟩
            rw [← hz10]
            have fz10_0 : z10.toInt = v10.toInt + (Int32.ofInt 1).toInt := by rw [hz10]; exact pj_addI (by have := pj_i32 v10; have := pj_i32 (Int32.ofInt 1); omega) (by have := pj_i32 v10; have := pj_i32 (Int32.ofInt 1); omega)
            refine pj_X_of (fun r h => pj_R_to (G, 31, [(10, .int z10), (11, .int (Int32.ofInt (-1))), (0, .ref 14), (1, .ref 4), (2, .int f), (3, .int to), (4, .int st), (5, .int op), (6, .int v6), (7, .int v7), (8, .int v8), (9, .int v9)], [], 0, 0) 31 2 (fun _ => rfl) h) ?_
            exact pj_X_sub [(0, .ref 14), (1, .ref 4), (2, .int f), (3, .int to), (4, .int st), (5, .int op), (6, .int v6), (7, .int v7), (8, .int v8), (9, .int v9), (10, .int z10)] (show List.Nodup [0, 1, 2, 3, 4, 5, 6, 7, 8, 9, 10] by decide) ⟨rfl, rfl, rfl, rfl, rfl, rfl, rfl, rfl, rfl, rfl, rfl, trivial⟩ (ih.2 G hI hK v6 v7 v8 v9 z10 (pj_i32 _) ⟨by omega, by omega⟩ (pj_i32 _) (pj_i32 _) ⟨by omega, by omega⟩ (by omega))
          | false =>
            have ub9 := pj_u0_eqF b9
            refine pj_X_of (fun r h => pj_R_ifF rfl b9 h) ?_
            refine pj_X_of (fun r h => pj_R_to (G, 60, [(0, .ref 14), (1, .ref 4), (2, .int f), (3, .int to), (4, .int st), (5, .int op), (6, .int v6), (7, .int v7), (8, .int v8), (9, .int v9), (10, .int v10)], [.int v6, .int v10, .ref 14], 0, 0) 60 4 (fun _ => rfl) h) ?_
            refine pj_X_ca (vs := [.ref 14, .int v10, .int v6]) rfl (fun _ => rfl) ⟨Nat.le_of_ble_eq_true rfl, Nat.le_of_ble_eq_true rfl, pj_T_rcv hI rfl⟩ ⟨rfl, rfl⟩ (pj_Y_up (by decide) (ct_44_14x G hI v10 v6 ⟨by omega, by omega⟩)) ?_
            rintro _ _ ⟨y11, rfl, rfl, ry11, fy11⟩
            show pj_X _ _ G 63 [(0, .ref 14), (1, .ref 4), (2, .int f), (3, .int to), (4, .int st), (5, .int op), (6, .int v6), (7, .int v7), (8, .int v8), (9, .int v9), (10, .int v10)] [.int y11] _
            refine pj_X_of (fun r h => pj_R_to (G, 72, [(11, .int y11), (0, .ref 14), (1, .ref 4), (2, .int f), (3, .int to), (4, .int st), (5, .int op), (6, .int v6), (7, .int v7), (8, .int v8), (9, .int v9), (10, .int v10)], [.int (Int32.ofInt (-1)), .int y11], 0, 0) 72 5 (fun _ => rfl) h) ?_
            cases b12 : pj_c1 .eq y11 (Int32.ofInt (-1)) with
            | true =>
              have ub12 := pj_u_eqT b12
              refine pj_X_of (fun r h => pj_R_icT 99 rfl rfl b12 h) ?_
              refine pj_X_of (fun r h => pj_R_to (G, 102, [(10, .int (v10 + Int32.ofInt 1)), (11, .int y11), (0, .ref 14), (1, .ref 4), (2, .int f), (3, .int to), (4, .int st), (5, .int op), (6, .int v6), (7, .int v7), (8, .int v8), (9, .int v9)], [], 0, 0) 102 2 (fun _ => rfl) h) ?_
              obtain ⟨z13, hz13⟩ : ∃ z : Int32, z = v10 + Int32.ofInt 1 := ⟨_, rfl⟩
              rw [← hz13]
              have fz13_0 : z13.toInt = v10.toInt + (Int32.ofInt 1).toInt := by rw [hz13]; exact pj_addI (by have := pj_i32 v10; have := pj_i32 (Int32.ofInt 1); omega) (by have := pj_i32 v10; have := pj_i32 (Int32.ofInt 1); omega)
              refine pj_X_of (fun r h => pj_R_to (G, 31, [(10, .int z13), (11, .int y11), (0, .ref 14), (1, .ref 4), (2, .int f), (3, .int to), (4, .int st), (5, .int op), (6, .int v6), (7, .int v7), (8, .int v8), (9, .int v9)], [], 0, 0) 31 2 (fun _ => rfl) h) ?_
              exact pj_X_sub [(0, .ref 14), (1, .ref 4), (2, .int f), (3, .int to), (4, .int st), (5, .int op), (6, .int v6), (7, .int v7), (8, .int v8), (9, .int v9), (10, .int z13)] (show List.Nodup [0, 1, 2, 3, 4, 5, 6, 7, 8, 9, 10] by decide) ⟨rfl, rfl, rfl, rfl, rfl, rfl, rfl, rfl, rfl, rfl, rfl, trivial⟩ (ih.2 G hI hK v6 v7 v8 v9 z13 (pj_i32 _) ⟨by omega, by omega⟩ (pj_i32 _) (pj_i32 _) ⟨by omega, by omega⟩ (by omega))
            | false =>
              have ub12 := pj_u_eqF b12
              refine pj_X_of (fun r h => pj_R_icF rfl b12 h) ?_
              refine pj_X_of (fun r h => pj_R_to (G, 79, [(11, .int y11), (0, .ref 14), (1, .ref 4), (2, .int f), (3, .int to), (4, .int st), (5, .int op), (6, .int v6), (7, .int v7), (8, .int v8), (9, .int v9), (10, .int v10)], [.int y11, .int v8], 0, 0) 79 3 (fun _ => rfl) h) ?_
              refine pj_X_ca (vs := [.int v8, .int y11]) rfl (fun _ => rfl) ⟨Nat.le_of_ble_eq_true rfl, Nat.le_of_ble_eq_true rfl, rfl⟩ ⟨rfl, rfl⟩ (pj_Y_up (by decide) (ct_163x G hI v8 y11)) ?_
              rintro _ _ ⟨y14, rfl, rfl, ry14, fy14⟩
              show pj_X _ _ G 82 [(11, .int y11), (0, .ref 14), (1, .ref 4), (2, .int f), (3, .int to), (4, .int st), (5, .int op), (6, .int v6), (7, .int v7), (8, .int v8), (9, .int v9), (10, .int v10)] [.int y14] _
              cases b15 : pj_c1 .eq y14 0 with
              | true =>
                have ub15 := pj_u0_eqT b15
                refine pj_X_of (fun r h => pj_R_ifT 99 rfl rfl b15 h) ?_
                refine pj_X_of (fun r h => pj_R_to (G, 102, [(10, .int (v10 + Int32.ofInt 1)), (11, .int y11), (0, .ref 14), (1, .ref 4), (2, .int f), (3, .int to), (4, .int st), (5, .int op), (6, .int v6), (7, .int v7), (8, .int v8), (9, .int v9)], [], 0, 0) 102 2 (fun _ => rfl) h) ?_
                obtain ⟨z16, hz16⟩ : ∃ z : Int32, z = v10 + Int32.ofInt 1 := ⟨_, rfl⟩
                rw [← hz16]
                have fz16_0 : z16.toInt = v10.toInt + (Int32.ofInt 1).toInt := by rw [hz16]; exact pj_addI (by have := pj_i32 v10; have := pj_i32 (Int32.ofInt 1); omega) (by have := pj_i32 v10; have := pj_i32 (Int32.ofInt 1); omega)
                refine pj_X_of (fun r h => pj_R_to (G, 31, [(10, .int z16), (11, .int y11), (0, .ref 14), (1, .ref 4), (2, .int f), (3, .int to), (4, .int st), (5, .int op), (6, .int v6), (7, .int v7), (8, .int v8), (9, .int v9)], [], 0, 0) 31 2 (fun _ => rfl) h) ?_
                exact pj_X_sub [(0, .ref 14), (1, .ref 4), (2, .int f), (3, .int to), (4, .int st), (5, .int op), (6, .int v6), (7, .int v7), (8, .int v8), (9, .int v9), (10, .int z16)] (show List.Nodup [0, 1, 2, 3, 4, 5, 6, 7, 8, 9, 10] by decide) ⟨rfl, rfl, rfl, rfl, rfl, rfl, rfl, rfl, rfl, rfl, rfl, trivial⟩ (ih.2 G hI hK v6 v7 v8 v9 z16 (pj_i32 _) ⟨by omega, by omega⟩ (pj_i32 _) (pj_i32 _) ⟨by omega, by omega⟩ (by omega))
              | false =>
                have ub15 := pj_u0_eqF b15
                refine pj_X_of (fun r h => pj_R_ifF rfl b15 h) ?_
                refine pj_X_of (fun r h => pj_R_to (G, 89, [(11, .int y11), (0, .ref 14), (1, .ref 4), (2, .int f), (3, .int to), (4, .int st), (5, .int op), (6, .int v6), (7, .int v7), (8, .int v8), (9, .int v9), (10, .int v10)], [.long v10.toInt64, .ref 4], 0, 0) 89 4 (fun _ => rfl) h) ?_
                have lc17 : (v10.toInt64).toInt = v10.toInt := Int32.toInt_toInt64 _
                refine pj_X_ca (vs := [.ref 4, .long v10.toInt64]) rfl (fun _ => rfl) ⟨Nat.le_of_ble_eq_true rfl, Nat.le_of_ble_eq_true rfl, pj_T_rcv hI rfl⟩ ⟨rfl, rfl⟩ (pj_Y_up (by decide) (ct_54x G hI v10.toInt64)) ?_
                rintro _ G19 ⟨rfl, iG19, jG19, fy18⟩
                have kG19 : pj_kpt kc_51_14 G0 G19 := pj_kpt_t hK (pj_kpt_s jG19 rfl)
                show pj_X _ _ G19 92 [(11, .int y11), (0, .ref 14), (1, .ref 4), (2, .int f), (3, .int to), (4, .int st), (5, .int op), (6, .int v6), (7, .int v7), (8, .int v8), (9, .int v9), (10, .int v10)] [] _
                refine pj_X_of (fun r h => pj_R_to (G19, 102, [(10, .int (v10 + Int32.ofInt 1)), (9, .int (Int32.ofInt 1)), (6, .int y11), (11, .int y11), (0, .ref 14), (1, .ref 4), (2, .int f), (3, .int to), (4, .int st), (5, .int op), (7, .int v7), (8, .int v8)], [], 0, 0) 102 6 (fun _ => rfl) h) ?_
                obtain ⟨z20, hz20⟩ : ∃ z : Int32, z = v10 + Int32.ofInt 1 := ⟨_, rfl⟩
                rw [← hz20]
                have fz20_0 : z20.toInt = v10.toInt + (Int32.ofInt 1).toInt := by rw [hz20]; exact pj_addI (by have := pj_i32 v10; have := pj_i32 (Int32.ofInt 1); omega) (by have := pj_i32 v10; have := pj_i32 (Int32.ofInt 1); omega)
                refine pj_X_of (fun r h => pj_R_to (G19, 31, [(10, .int z20), (9, .int (Int32.ofInt 1)), (6, .int y11), (11, .int y11), (0, .ref 14), (1, .ref 4), (2, .int f), (3, .int to), (4, .int st), (5, .int op), (7, .int v7), (8, .int v8)], [], 0, 0) 31 2 (fun _ => rfl) h) ?_
                exact pj_X_sub [(0, .ref 14), (1, .ref 4), (2, .int f), (3, .int to), (4, .int st), (5, .int op), (6, .int y11), (7, .int v7), (8, .int v8), (9, .int (Int32.ofInt 1)), (10, .int z20)] (show List.Nodup [0, 1, 2, 3, 4, 5, 6, 7, 8, 9, 10] by decide) ⟨rfl, rfl, rfl, rfl, rfl, rfl, rfl, rfl, rfl, rfl, rfl, trivial⟩ (ih.2 G19 iG19 kG19 y11 v7 v8 (Int32.ofInt 1) z20 (pj_i32 _) ⟨by omega, by omega⟩ (pj_i32 _) (pj_i32 _) ⟨by omega, by omega⟩ (by omega))
theorem ct_51_14 (G0 : pj_G) (hI : pj_Inv G0) (f : Int32) (to : Int32) (st : Int32) (op : Int32) (rst : (0 : Int) ≤ st.toInt ∧ st.toInt ≤ 8) : pj_Y 4 51 [.ref 14, .ref 4, .int f, .int to, .int st, .int op] G0 (fun v G' => v = none ∧ pj_Inv G' ∧ pj_kpt kc_51_14 G0 G') := by
  have c0_ : (Int32.ofInt (-1)).toInt = -1 := by decide
  have c1_ : (Int32.ofInt 0).toInt = 0 := by decide
  have c2_ : (Int32.ofInt 1).toInt = 1 := by decide
  refine pj_Y_X (M := pj_m51) rfl rfl (Nat.le_of_ble_eq_true rfl) ?_
  have hK : pj_kpt kc_51_14 G0 G0 := pj_kpt_r _ _
  show pj_X _ _ G0 0 [(0, .ref 14), (1, .ref 4), (2, .int f), (3, .int to), (4, .int st), (5, .int op)] [] _
  refine pj_X_of (fun r h => pj_R_to (G0, 7, [(6, .int f), (0, .ref 14), (1, .ref 4), (2, .int f), (3, .int to), (4, .int st), (5, .int op)], [.int (st - (Int32.ofInt 1))], 0, 0) 7 6 (fun _ => rfl) h) ?_
  obtain ⟨z21, hz21⟩ : ∃ z : Int32, z = st - (Int32.ofInt 1) := ⟨_, rfl⟩
  rw [← hz21]
  have fz21_0 : z21.toInt = st.toInt - (Int32.ofInt 1).toInt := by rw [hz21]; exact pj_subI (by have := pj_i32 st; have := pj_i32 (Int32.ofInt 1); omega) (by have := pj_i32 st; have := pj_i32 (Int32.ofInt 1); omega)
  refine pj_X_of (fun r h => pj_R_to (G0, 9, [(7, .int z21), (6, .int f), (0, .ref 14), (1, .ref 4), (2, .int f), (3, .int to), (4, .int st), (5, .int op)], [], 0, 0) 9 2 (fun _ => rfl) h) ?_
  exact pj_X_sub [(0, .ref 14), (1, .ref 4), (2, .int f), (3, .int to), (4, .int st), (5, .int op), (6, .int f), (7, .int z21)] (show List.Nodup [0, 1, 2, 3, 4, 5, 6, 7] by decide) ⟨rfl, rfl, rfl, rfl, rfl, rfl, rfl, rfl, trivial⟩ ((lp_ct_51_14 G0 hI f to st op rst 301).1 G0 hI hK f z21 (pj_i32 _) ⟨by omega, by omega⟩ (by omega))
def kc_161 : pj_KT := ([(53, 2)], [53], [])
theorem ct_161 (G0 : pj_G) (hI : pj_Inv G0) (ch : Int32) (rch : (0 : Int) ≤ ch.toInt ∧ ch.toInt ≤ 1) : pj_Y 2 161 [.ref 1, .int ch] G0 (fun v G' => v = none ∧ pj_Inv G' ∧ pj_kpt kc_161 G0 G') := by
  refine pj_Y_X (M := pj_m161) rfl rfl (Nat.le_of_ble_eq_true rfl) ?_
  have hK : pj_kpt kc_161 G0 G0 := pj_kpt_r _ _
  show pj_X _ _ G0 0 [(0, .ref 1), (1, .int ch)] [] _
  refine pj_X_of (fun r h => pj_R_to (G0, 1, [(0, .ref 1), (1, .int ch)], [.int ch], 0, 0) 1 2 (fun _ => rfl) h) ?_
  cases b1 : pj_c1 .eq ch 0 with
  | true =>
    have ub1 := pj_u0_eqT b1
    refine pj_X_of (fun r h => pj_R_ifT 11 rfl rfl b1 h) ?_
    exact pj_X_rt rfl rfl ⟨rfl, hI, hK⟩
  | false =>
    have ub1 := pj_u0_eqF b1
    refine pj_X_of (fun r h => pj_R_ifF rfl b1 h) ?_
    refine pj_X_of (fun r h => pj_R_to (G0, 5, [(0, .ref 1), (1, .int ch)], [.ref 1], 0, 0) 5 2 (fun _ => rfl) h) ?_
    refine pj_X_of (fun r h => pj_T_gr hI rfl rfl rfl h) ?_
    refine pj_X_ca (vs := [.ref 53]) rfl (fun _ => rfl) ⟨Nat.le_of_ble_eq_true rfl, Nat.le_of_ble_eq_true rfl, pj_T_rcv hI rfl⟩ ⟨rfl, rfl⟩ (pj_Y_up (by decide) (ct_36 G0 hI)) ?_
    rintro _ G3 ⟨rfl, iG3, jG3⟩
    have kG3 : pj_kpt kc_161 G0 G3 := pj_kpt_t hK (pj_kpt_s jG3 rfl)
    show pj_X _ _ G3 11 [(0, .ref 1), (1, .int ch)] [] _
    exact pj_X_rt rfl rfl ⟨rfl, iG3, kG3⟩
