theorem ct_16q (G0 : pj_G) (hI : pj_Inv G0) (what : Int32) (va : Int32) : pj_Y 1 16 [.int what, .int va] G0 (fun v G' => ∃ y : Int32, v = some (.int y) ∧ G0 = G' ∧ ((0 : Int) ≤ y.toInt ∧ y.toInt ≤ 1) ∧ ((1 ≤ y.toInt → (((what.toInt = 0 ∨ what.toInt = 1) ∧ 0 ≤ va.toInt ∧ va.toInt ≤ 18) ∨ (what.toInt = 2 ∧ 0 ≤ va.toInt ∧ va.toInt ≤ 6) ∨ (what.toInt = 3 ∧ 0 ≤ va.toInt ∧ va.toInt ≤ 1))) ∧ (y.toInt = 0 → ¬ (((what.toInt = 0 ∨ what.toInt = 1) ∧ 0 ≤ va.toInt ∧ va.toInt ≤ 18) ∨ (what.toInt = 2 ∧ 0 ≤ va.toInt ∧ va.toInt ≤ 6) ∨ (what.toInt = 3 ∧ 0 ≤ va.toInt ∧ va.toInt ≤ 1))))) := by
  have c0_ : ((Int8.ofInt 18).toInt32).toInt = 18 := by decide
  have c1_ : ((Int8.ofInt 6).toInt32).toInt = 6 := by decide
  have c2_ : (Int32.ofInt 0).toInt = 0 := by decide
  have c3_ : (Int32.ofInt 1).toInt = 1 := by decide
  refine pj_Y_X (M := pj_m16) rfl rfl (Nat.le_of_ble_eq_true rfl) ?_
  have hK : pj_kpt ([], [], []) G0 G0 := pj_kpt_r _ _
  show pj_X _ _ G0 0 [(0, .int what), (1, .int va)] [] _
  refine pj_X_of (fun r h => pj_R_to (G0, 1, [(0, .int what), (1, .int va)], [.int what], 0, 0) 1 2 (fun _ => rfl) h) ?_
  by_cases t1 : what.toInt = 0
  · refine pj_X_of (fun r h => pj_R_tw 32 rfl (n := 0) t1 rfl h) ?_
    refine pj_X_of (fun r h => pj_R_to (G0, 33, [(0, .int what), (1, .int va)], [.int va], 0, 0) 33 2 (fun _ => rfl) h) ?_
    cases b2 : pj_c1 .lt va 0 with
    | true =>
      have ub2 := pj_u0_ltT b2
      refine pj_X_of (fun r h => pj_R_ifT 46 rfl rfl b2 h) ?_
      refine pj_X_of (fun r h => pj_R_to (G0, 47, [(0, .int what), (1, .int va)], [.int (Int32.ofInt 0)], 0, 0) 47 2 (fun _ => rfl) h) ?_
      exact pj_X_rt rfl rfl ⟨_, rfl, rfl, ⟨by omega, by omega⟩, by omega⟩
    | false =>
      have ub2 := pj_u0_ltF b2
      refine pj_X_of (fun r h => pj_R_ifF rfl b2 h) ?_
      refine pj_X_of (fun r h => pj_R_to (G0, 39, [(0, .int what), (1, .int va)], [.int ((Int8.ofInt 18).toInt32), .int va], 0, 0) 39 3 (fun _ => rfl) h) ?_
      cases b3 : pj_c1 .gt va ((Int8.ofInt 18).toInt32) with
      | true =>
        have ub3 := pj_u_gtT b3
        refine pj_X_of (fun r h => pj_R_icT 46 rfl rfl b3 h) ?_
        refine pj_X_of (fun r h => pj_R_to (G0, 47, [(0, .int what), (1, .int va)], [.int (Int32.ofInt 0)], 0, 0) 47 2 (fun _ => rfl) h) ?_
        exact pj_X_rt rfl rfl ⟨_, rfl, rfl, ⟨by omega, by omega⟩, by omega⟩
      | false =>
        have ub3 := pj_u_gtF b3
        refine pj_X_of (fun r h => pj_R_icF rfl b3 h) ?_
        refine pj_X_of (fun r h => pj_R_to (G0, 47, [(0, .int what), (1, .int va)], [.int (Int32.ofInt 1)], 0, 0) 47 3 (fun _ => rfl) h) ?_
        exact pj_X_rt rfl rfl ⟨_, rfl, rfl, ⟨by omega, by omega⟩, by omega⟩
  by_cases t4 : what.toInt = 1
  · refine pj_X_of (fun r h => pj_R_tw 32 rfl (n := 1) t4 rfl h) ?_
    refine pj_X_of (fun r h => pj_R_to (G0, 33, [(0, .int what), (1, .int va)], [.int va], 0, 0) 33 2 (fun _ => rfl) h) ?_
    cases b5 : pj_c1 .lt va 0 with
    | true =>
      have ub5 := pj_u0_ltT b5
      refine pj_X_of (fun r h => pj_R_ifT 46 rfl rfl b5 h) ?_
      refine pj_X_of (fun r h => pj_R_to (G0, 47, [(0, .int what), (1, .int va)], [.int (Int32.ofInt 0)], 0, 0) 47 2 (fun _ => rfl) h) ?_
      exact pj_X_rt rfl rfl ⟨_, rfl, rfl, ⟨by omega, by omega⟩, by omega⟩
    | false =>
      have ub5 := pj_u0_ltF b5
      refine pj_X_of (fun r h => pj_R_ifF rfl b5 h) ?_
      refine pj_X_of (fun r h => pj_R_to (G0, 39, [(0, .int what), (1, .int va)], [.int ((Int8.ofInt 18).toInt32), .int va], 0, 0) 39 3 (fun _ => rfl) h) ?_
      cases b6 : pj_c1 .gt va ((Int8.ofInt 18).toInt32) with
      | true =>
        have ub6 := pj_u_gtT b6
        refine pj_X_of (fun r h => pj_R_icT 46 rfl rfl b6 h) ?_
        refine pj_X_of (fun r h => pj_R_to (G0, 47, [(0, .int what), (1, .int va)], [.int (Int32.ofInt 0)], 0, 0) 47 2 (fun _ => rfl) h) ?_
        exact pj_X_rt rfl rfl ⟨_, rfl, rfl, ⟨by omega, by omega⟩, by omega⟩
      | false =>
        have ub6 := pj_u_gtF b6
        refine pj_X_of (fun r h => pj_R_icF rfl b6 h) ?_
        refine pj_X_of (fun r h => pj_R_to (G0, 47, [(0, .int what), (1, .int va)], [.int (Int32.ofInt 1)], 0, 0) 47 3 (fun _ => rfl) h) ?_
        exact pj_X_rt rfl rfl ⟨_, rfl, rfl, ⟨by omega, by omega⟩, by omega⟩
  by_cases t7 : what.toInt = 2
  · refine pj_X_of (fun r h => pj_R_tw 48 rfl (n := 2) t7 rfl h) ?_
    refine pj_X_of (fun r h => pj_R_to (G0, 49, [(0, .int what), (1, .int va)], [.int va], 0, 0) 49 2 (fun _ => rfl) h) ?_
    cases b8 : pj_c1 .lt va 0 with
    | true =>
      have ub8 := pj_u0_ltT b8
      refine pj_X_of (fun r h => pj_R_ifT 62 rfl rfl b8 h) ?_
      refine pj_X_of (fun r h => pj_R_to (G0, 63, [(0, .int what), (1, .int va)], [.int (Int32.ofInt 0)], 0, 0) 63 2 (fun _ => rfl) h) ?_
      exact pj_X_rt rfl rfl ⟨_, rfl, rfl, ⟨by omega, by omega⟩, by omega⟩
    | false =>
      have ub8 := pj_u0_ltF b8
      refine pj_X_of (fun r h => pj_R_ifF rfl b8 h) ?_
      refine pj_X_of (fun r h => pj_R_to (G0, 55, [(0, .int what), (1, .int va)], [.int ((Int8.ofInt 6).toInt32), .int va], 0, 0) 55 3 (fun _ => rfl) h) ?_
      cases b9 : pj_c1 .gt va ((Int8.ofInt 6).toInt32) with
      | true =>
        have ub9 := pj_u_gtT b9
        refine pj_X_of (fun r h => pj_R_icT 62 rfl rfl b9 h) ?_
        refine pj_X_of (fun r h => pj_R_to (G0, 63, [(0, .int what), (1, .int va)], [.int (Int32.ofInt 0)], 0, 0) 63 2 (fun _ => rfl) h) ?_
        exact pj_X_rt rfl rfl ⟨_, rfl, rfl, ⟨by omega, by omega⟩, by omega⟩
      | false =>
        have ub9 := pj_u_gtF b9
        refine pj_X_of (fun r h => pj_R_icF rfl b9 h) ?_
        refine pj_X_of (fun r h => pj_R_to (G0, 63, [(0, .int what), (1, .int va)], [.int (Int32.ofInt 1)], 0, 0) 63 3 (fun _ => rfl) h) ?_
        exact pj_X_rt rfl rfl ⟨_, rfl, rfl, ⟨by omega, by omega⟩, by omega⟩
  by_cases t10 : what.toInt = 3
  · refine pj_X_of (fun r h => pj_R_tw 64 rfl (n := 3) t10 rfl h) ?_
    refine pj_X_of (fun r h => pj_R_to (G0, 65, [(0, .int what), (1, .int va)], [.int va], 0, 0) 65 2 (fun _ => rfl) h) ?_
    cases b11 : pj_c1 .eq va 0 with
    | true =>
      have ub11 := pj_u0_eqT b11
      refine pj_X_of (fun r h => pj_R_ifT 73 rfl rfl b11 h) ?_
      refine pj_X_of (fun r h => pj_R_to (G0, 78, [(0, .int what), (1, .int va)], [.int (Int32.ofInt 1)], 0, 0) 78 3 (fun _ => rfl) h) ?_
      exact pj_X_rt rfl rfl ⟨_, rfl, rfl, ⟨by omega, by omega⟩, by omega⟩
    | false =>
      have ub11 := pj_u0_eqF b11
      refine pj_X_of (fun r h => pj_R_ifF rfl b11 h) ?_
      refine pj_X_of (fun r h => pj_R_to (G0, 70, [(0, .int what), (1, .int va)], [.int (Int32.ofInt 1), .int va], 0, 0) 70 3 (fun _ => rfl) h) ?_
      cases b12 : pj_c1 .ne va (Int32.ofInt 1) with
      | true =>
        have ub12 := pj_u_neT b12
        refine pj_X_of (fun r h => pj_R_icT 77 rfl rfl b12 h) ?_
        refine pj_X_of (fun r h => pj_R_to (G0, 78, [(0, .int what), (1, .int va)], [.int (Int32.ofInt 0)], 0, 0) 78 2 (fun _ => rfl) h) ?_
        exact pj_X_rt rfl rfl ⟨_, rfl, rfl, ⟨by omega, by omega⟩, by omega⟩
      | false =>
        have ub12 := pj_u_neF b12
        refine pj_X_of (fun r h => pj_R_icF rfl b12 h) ?_
        refine pj_X_of (fun r h => pj_R_to (G0, 78, [(0, .int what), (1, .int va)], [.int (Int32.ofInt 1)], 0, 0) 78 3 (fun _ => rfl) h) ?_
        exact pj_X_rt rfl rfl ⟨_, rfl, rfl, ⟨by omega, by omega⟩, by omega⟩
  refine pj_X_of (fun r h => pj_R_td 79 rfl (by omega) rfl h) ?_
  refine pj_X_of (fun r h => pj_R_to (G0, 80, [(0, .int what), (1, .int va)], [.int (Int32.ofInt 0)], 0, 0) 80 2 (fun _ => rfl) h) ?_
  exact pj_X_rt rfl rfl ⟨_, rfl, rfl, ⟨by omega, by omega⟩, by omega⟩
def kc_17q : pj_KT := ([(46, 3)], [46, 47, 48], [47, 48])
theorem ct_17q (G0 : pj_G) (hI : pj_Inv G0) (w : Int32) (va : Int32) (is : Int32) : pj_Y 2 17 [.ref 46, .int w, .int va, .int is] G0 (fun v G' => ∃ y : Int32, v = some (.int y) ∧ pj_Inv G' ∧ pj_kpt kc_17q G0 G' ∧ ((-2147483648 : Int) ≤ y.toInt ∧ y.toInt ≤ 2147483647) ∧ ((((((w.toInt = 0 ∨ w.toInt = 1) ∧ 0 ≤ va.toInt ∧ va.toInt ≤ 18) ∨ (w.toInt = 2 ∧ 0 ≤ va.toInt ∧ va.toInt ≤ 6) ∨ (w.toInt = 3 ∧ 0 ≤ va.toInt ∧ va.toInt ≤ 1)) ∧ 0 ≤ is.toInt ∧ is.toInt ≤ 1 ∧ (pj_fi G0 46 3).toInt ≤ 11) → y.toInt = (pj_fi G0 46 3).toInt + 1 ∧ (pj_fi G' 46 3).toInt = (pj_fi G0 46 3).toInt + 1) ∧ (¬ ((((w.toInt = 0 ∨ w.toInt = 1) ∧ 0 ≤ va.toInt ∧ va.toInt ≤ 18) ∨ (w.toInt = 2 ∧ 0 ≤ va.toInt ∧ va.toInt ≤ 6) ∨ (w.toInt = 3 ∧ 0 ≤ va.toInt ∧ va.toInt ≤ 1)) ∧ 0 ≤ is.toInt ∧ is.toInt ≤ 1 ∧ (pj_fi G0 46 3).toInt ≤ 11) → y.toInt = -1 ∧ (pj_fi G' 46 3).toInt = (pj_fi G0 46 3).toInt))) := by
  have c0_ : ((Int8.ofInt 12).toInt32).toInt = 12 := by decide
  have c1_ : ((Int8.ofInt 19).toInt32).toInt = 19 := by decide
  have c2_ : (Int32.ofInt (-1)).toInt = -1 := by decide
  have c3_ : (Int32.ofInt 0).toInt = 0 := by decide
  have c4_ : (Int32.ofInt 1).toInt = 1 := by decide
  refine pj_Y_X (M := pj_m17) rfl rfl (Nat.le_of_ble_eq_true rfl) ?_
  have hK : pj_kpt kc_17q G0 G0 := pj_kpt_r _ _
  show pj_X _ _ G0 0 [(0, .ref 46), (1, .int w), (2, .int va), (3, .int is)] [] _
  obtain ⟨y1, hy1⟩ : ∃ z : Int32, z = pj_fi G0 46 3 := ⟨_, rfl⟩
  have ey1 : (pj_fi G0 46 3).toInt = y1.toInt := by rw [hy1]
  have ry1 : (0 : Int) ≤ y1.toInt ∧ y1.toInt ≤ 12 := by rw [hy1]; exact hI.2.1 46 3 (0, 12) rfl
  refine pj_X_of (fun r h => pj_R_to (G0, 2, [(0, .ref 46), (1, .int w), (2, .int va), (3, .int is)], [.int va, .int w], 0, 0) 2 3 (fun _ => rfl) h) ?_
  have q2 : (pj_fi G0 46 3).toInt = y1.toInt := by rw [show pj_fi G0 46 3 = y1 from hy1.symm]
  refine pj_X_ca (vs := [.int w, .int va]) rfl (fun _ => rfl) ⟨Nat.le_of_ble_eq_true rfl, Nat.le_of_ble_eq_true rfl, rfl⟩ ⟨rfl, rfl⟩ (pj_Y_up (by decide) (ct_16q G0 hI w va)) ?_
  rintro _ _ ⟨y3, rfl, rfl, ry3, ey3⟩
  show pj_X _ _ G0 5 [(0, .ref 46), (1, .int w), (2, .int va), (3, .int is)] [.int y3] _
  cases b4 : pj_c1 .eq y3 0 with
  | true =>
    have ub4 := pj_u0_eqT b4
    refine pj_X_of (fun r h => pj_R_ifT 26 rfl rfl b4 h) ?_
    refine pj_X_of (fun r h => pj_R_to (G0, 27, [(0, .ref 46), (1, .int w), (2, .int va), (3, .int is)], [.int (Int32.ofInt (-1))], 0, 0) 27 2 (fun _ => rfl) h) ?_
    have q5 : (pj_fi G0 46 3).toInt = y1.toInt := by rw [show pj_fi G0 46 3 = y1 from hy1.symm]
    exact pj_X_rt rfl rfl ⟨_, rfl, hI, hK, pj_i32 _, by omega⟩
  | false =>
    have ub4 := pj_u0_eqF b4
    refine pj_X_of (fun r h => pj_R_ifF rfl b4 h) ?_
    refine pj_X_of (fun r h => pj_R_to (G0, 9, [(0, .ref 46), (1, .int w), (2, .int va), (3, .int is)], [.int is], 0, 0) 9 2 (fun _ => rfl) h) ?_
    cases b6 : pj_c1 .lt is 0 with
    | true =>
      have ub6 := pj_u0_ltT b6
      refine pj_X_of (fun r h => pj_R_ifT 26 rfl rfl b6 h) ?_
      refine pj_X_of (fun r h => pj_R_to (G0, 27, [(0, .ref 46), (1, .int w), (2, .int va), (3, .int is)], [.int (Int32.ofInt (-1))], 0, 0) 27 2 (fun _ => rfl) h) ?_
      have q7 : (pj_fi G0 46 3).toInt = y1.toInt := by rw [show pj_fi G0 46 3 = y1 from hy1.symm]
      exact pj_X_rt rfl rfl ⟨_, rfl, hI, hK, pj_i32 _, by omega⟩
    | false =>
      have ub6 := pj_u0_ltF b6
      refine pj_X_of (fun r h => pj_R_ifF rfl b6 h) ?_
      refine pj_X_of (fun r h => pj_R_to (G0, 14, [(0, .ref 46), (1, .int w), (2, .int va), (3, .int is)], [.int (Int32.ofInt 1), .int is], 0, 0) 14 3 (fun _ => rfl) h) ?_
      cases b8 : pj_c1 .gt is (Int32.ofInt 1) with
      | true =>
        have ub8 := pj_u_gtT b8
        refine pj_X_of (fun r h => pj_R_icT 26 rfl rfl b8 h) ?_
        refine pj_X_of (fun r h => pj_R_to (G0, 27, [(0, .ref 46), (1, .int w), (2, .int va), (3, .int is)], [.int (Int32.ofInt (-1))], 0, 0) 27 2 (fun _ => rfl) h) ?_
        have q9 : (pj_fi G0 46 3).toInt = y1.toInt := by rw [show pj_fi G0 46 3 = y1 from hy1.symm]
        exact pj_X_rt rfl rfl ⟨_, rfl, hI, hK, pj_i32 _, by omega⟩
      | false =>
        have ub8 := pj_u_gtF b8
        refine pj_X_of (fun r h => pj_R_icF rfl b8 h) ?_
        refine pj_X_of (fun r h => pj_R_to (G0, 18, [(0, .ref 46), (1, .int w), (2, .int va), (3, .int is)], [.ref 46], 0, 0) 18 2 (fun _ => rfl) h) ?_
        refine pj_X_of (fun r h => pj_T_gi hI rfl rfl h) ?_
        show pj_X _ _ G0 21 [(0, .ref 46), (1, .int w), (2, .int va), (3, .int is)] [.int (pj_fi G0 46 3)] _
        refine pj_X_eqi (show pj_fi G0 46 3 = y1 from hy1.symm) ?_
        refine pj_X_of (fun r h => pj_R_to (G0, 23, [(0, .ref 46), (1, .int w), (2, .int va), (3, .int is)], [.int ((Int8.ofInt 12).toInt32), .int y1], 0, 0) 23 2 (fun _ => rfl) h) ?_
        cases b10 : pj_c1 .lt y1 ((Int8.ofInt 12).toInt32) with
        | true =>
          have ub10 := pj_u_ltT b10
          refine pj_X_of (fun r h => pj_R_icT 28 rfl rfl b10 h) ?_
          refine pj_X_of (fun r h => pj_R_to (G0, 29, [(0, .ref 46), (1, .int w), (2, .int va), (3, .int is)], [.ref 46], 0, 0) 29 2 (fun _ => rfl) h) ?_
          refine pj_X_of (fun r h => pj_T_gr hI rfl rfl rfl h) ?_
          refine pj_X_of (fun r h => pj_R_to (G0, 33, [(0, .ref 46), (1, .int w), (2, .int va), (3, .int is)], [.ref 46, .ref 47], 0, 0) 33 2 (fun _ => rfl) h) ?_
          refine pj_X_of (fun r h => pj_T_gi hI rfl rfl h) ?_
          show pj_X _ _ G0 36 [(0, .ref 46), (1, .int w), (2, .int va), (3, .int is)] [.int (pj_fi G0 46 3), .ref 47] _
          refine pj_X_eqi (show pj_fi G0 46 3 = y1 from hy1.symm) ?_
          refine pj_X_of (fun r h => pj_R_to (G0, 40, [(0, .ref 46), (1, .int w), (2, .int va), (3, .int is)], [.int (((Int8.ofInt 19).toInt32) * w), .int y1, .ref 47], 0, 0) 40 4 (fun _ => rfl) h) ?_
          obtain ⟨z11, hz11⟩ : ∃ z : Int32, z = ((Int8.ofInt 19).toInt32) * w := ⟨_, rfl⟩
          refine pj_X_eqi hz11.symm ?_
          refine pj_X_of (fun r h => pj_R_to (G0, 42, [(0, .ref 46), (1, .int w), (2, .int va), (3, .int is)], [.int (z11 + va), .int y1, .ref 47], 0, 0) 42 3 (fun _ => rfl) h) ?_
          obtain ⟨z12, hz12⟩ : ∃ z : Int32, z = z11 + va := ⟨_, rfl⟩
          refine pj_X_eqi hz12.symm ?_
          refine pj_X_of (fun r h => pj_T_is hI rfl rfl (by omega) (by omega) h) ?_
          show pj_X _ _ (pj_wa G0 47 y1.toInt.toNat z12) 43 [(0, .ref 46), (1, .int w), (2, .int va), (3, .int is)] [] _
          obtain ⟨G13, hG13⟩ : ∃ H, H = pj_wa G0 47 y1.toInt.toNat z12 := ⟨_, rfl⟩
          have iG13 : pj_Inv G13 := by rw [hG13]; exact pj_Inv_wa hI rfl (fun q hq => by cases hq) (fun n hn => by cases hn)
          have kG13 : pj_kpt kc_17q G0 G13 := by rw [hG13]; exact pj_kpt_a hK rfl
          rw [← hG13]
          refine pj_X_of (fun r h => pj_R_to (G13, 44, [(0, .ref 46), (1, .int w), (2, .int va), (3, .int is)], [.ref 46], 0, 0) 44 2 (fun _ => rfl) h) ?_
          refine pj_X_of (fun r h => pj_T_gr iG13 rfl rfl rfl h) ?_
          refine pj_X_of (fun r h => pj_R_to (G13, 48, [(0, .ref 46), (1, .int w), (2, .int va), (3, .int is)], [.ref 46, .ref 48], 0, 0) 48 2 (fun _ => rfl) h) ?_
          refine pj_X_of (fun r h => pj_T_gi iG13 rfl rfl h) ?_
          show pj_X _ _ G13 51 [(0, .ref 46), (1, .int w), (2, .int va), (3, .int is)] [.int (pj_fi G13 46 3), .ref 48] _
          refine pj_X_eqi (show pj_fi G13 46 3 = y1 from by rw [hG13, pj_fi_wa]; exact hy1.symm) ?_
          refine pj_X_of (fun r h => pj_R_to (G13, 53, [(0, .ref 46), (1, .int w), (2, .int va), (3, .int is)], [.int (Int32.ofInt 1), .int is, .int y1, .ref 48], 0, 0) 53 3 (fun _ => rfl) h) ?_
          cases b14 : pj_c1 .ne is (Int32.ofInt 1) with
          | true =>
            have ub14 := pj_u_neT b14
            refine pj_X_of (fun r h => pj_R_icT 60 rfl rfl b14 h) ?_
            refine pj_X_of (fun r h => pj_R_to (G13, 61, [(0, .ref 46), (1, .int w), (2, .int va), (3, .int is)], [.int (Int32.ofInt 0), .int y1, .ref 48], 0, 0) 61 2 (fun _ => rfl) h) ?_
            refine pj_X_of (fun r h => pj_T_bs iG13 rfl rfl (by omega) (by omega) h) ?_
            show pj_X _ _ (pj_wa G13 48 y1.toInt.toNat (vp_nar .boolean (Int32.ofInt 0))) 62 [(0, .ref 46), (1, .int w), (2, .int va), (3, .int is)] [] _
            obtain ⟨G15, hG15⟩ : ∃ H, H = pj_wa G13 48 y1.toInt.toNat (vp_nar .boolean (Int32.ofInt 0)) := ⟨_, rfl⟩
            have iG15 : pj_Inv G15 := by rw [hG15]; exact pj_Inv_wb iG13 rfl rfl rfl
            have kG15 : pj_kpt kc_17q G0 G15 := by rw [hG15]; exact pj_kpt_a kG13 rfl
            rw [← hG15]
            refine pj_X_of (fun r h => pj_R_to (G15, 64, [(0, .ref 46), (1, .int w), (2, .int va), (3, .int is)], [.ref 46, .ref 46], 0, 0) 64 3 (fun _ => rfl) h) ?_
            refine pj_X_of (fun r h => pj_T_gi iG15 rfl rfl h) ?_
            show pj_X _ _ G15 67 [(0, .ref 46), (1, .int w), (2, .int va), (3, .int is)] [.int (pj_fi G15 46 3), .ref 46] _
            refine pj_X_eqi (show pj_fi G15 46 3 = y1 from by rw [hG15, pj_fi_wa]; exact (by rw [hG13, pj_fi_wa]; exact hy1.symm)) ?_
            refine pj_X_of (fun r h => pj_R_to (G15, 69, [(0, .ref 46), (1, .int w), (2, .int va), (3, .int is)], [.int (y1 + (Int32.ofInt 1)), .ref 46], 0, 0) 69 3 (fun _ => rfl) h) ?_
            obtain ⟨z16, hz16⟩ : ∃ z : Int32, z = y1 + (Int32.ofInt 1) := ⟨_, rfl⟩
            refine pj_X_eqi hz16.symm ?_
            have fz16_0 : z16.toInt = y1.toInt + (Int32.ofInt 1).toInt := by rw [hz16]; exact pj_addI (by have := pj_i32 y1; have := pj_i32 (Int32.ofInt 1); omega) (by have := pj_i32 y1; have := pj_i32 (Int32.ofInt 1); omega)
            refine pj_X_of (fun r h => pj_T_pf iG15 rfl rfl rfl h) ?_
            show pj_X _ _ (pj_wv G15 46 3 (.int z16)) 72 [(0, .ref 46), (1, .int w), (2, .int va), (3, .int is)] [] _
            obtain ⟨G17, hG17⟩ : ∃ H, H = pj_wv G15 46 3 (.int z16) := ⟨_, rfl⟩
            have iG17 : pj_Inv G17 := by rw [hG17]; exact pj_Inv_wi iG15 (ci := 2) rfl (fun q hq => by cases hq; exact ⟨by show (0 : Int) ≤ _; omega, by show _ ≤ (12 : Int); omega⟩)
            have kG17 : pj_kpt kc_17q G0 G17 := by rw [hG17]; exact pj_kpt_v kG15 rfl
            rw [← hG17]
            refine pj_X_of (fun r h => pj_R_to (G17, 73, [(0, .ref 46), (1, .int w), (2, .int va), (3, .int is)], [.ref 46], 0, 0) 73 2 (fun _ => rfl) h) ?_
            refine pj_X_of (fun r h => pj_T_gi iG17 rfl rfl h) ?_
            show pj_X _ _ G17 76 [(0, .ref 46), (1, .int w), (2, .int va), (3, .int is)] [.int (pj_fi G17 46 3)] _
            refine pj_X_eqi (show pj_fi G17 46 3 = z16 from by rw [hG17]; exact pj_fi_wi iG15.1 (ci := 2) rfl _) ?_
            have q18 : (pj_fi G17 46 3).toInt = z16.toInt := by rw [show pj_fi G17 46 3 = z16 from by rw [hG17]; exact pj_fi_wi iG15.1 (ci := 2) rfl _]
            exact pj_X_rt rfl rfl ⟨_, rfl, iG17, kG17, pj_i32 _, by omega⟩
          | false =>
            have ub14 := pj_u_neF b14
            refine pj_X_of (fun r h => pj_R_icF rfl b14 h) ?_
            refine pj_X_of (fun r h => pj_R_to (G13, 61, [(0, .ref 46), (1, .int w), (2, .int va), (3, .int is)], [.int (Int32.ofInt 1), .int y1, .ref 48], 0, 0) 61 3 (fun _ => rfl) h) ?_
            refine pj_X_of (fun r h => pj_T_bs iG13 rfl rfl (by omega) (by omega) h) ?_
            show pj_X _ _ (pj_wa G13 48 y1.toInt.toNat (vp_nar .boolean (Int32.ofInt 1))) 62 [(0, .ref 46), (1, .int w), (2, .int va), (3, .int is)] [] _
            obtain ⟨G19, hG19⟩ : ∃ H, H = pj_wa G13 48 y1.toInt.toNat (vp_nar .boolean (Int32.ofInt 1)) := ⟨_, rfl⟩
            have iG19 : pj_Inv G19 := by rw [hG19]; exact pj_Inv_wb iG13 rfl rfl rfl
            have kG19 : pj_kpt kc_17q G0 G19 := by rw [hG19]; exact pj_kpt_a kG13 rfl
            rw [← hG19]
            refine pj_X_of (fun r h => pj_R_to (G19, 64, [(0, .ref 46), (1, .int w), (2, .int va), (3, .int is)], [.ref 46, .ref 46], 0, 0) 64 3 (fun _ => rfl) h) ?_
            refine pj_X_of (fun r h => pj_T_gi iG19 rfl rfl h) ?_
            show pj_X _ _ G19 67 [(0, .ref 46), (1, .int w), (2, .int va), (3, .int is)] [.int (pj_fi G19 46 3), .ref 46] _
            refine pj_X_eqi (show pj_fi G19 46 3 = y1 from by rw [hG19, pj_fi_wa]; exact (by rw [hG13, pj_fi_wa]; exact hy1.symm)) ?_
            refine pj_X_of (fun r h => pj_R_to (G19, 69, [(0, .ref 46), (1, .int w), (2, .int va), (3, .int is)], [.int (y1 + (Int32.ofInt 1)), .ref 46], 0, 0) 69 3 (fun _ => rfl) h) ?_
            obtain ⟨z20, hz20⟩ : ∃ z : Int32, z = y1 + (Int32.ofInt 1) := ⟨_, rfl⟩
            refine pj_X_eqi hz20.symm ?_
            have fz20_0 : z20.toInt = y1.toInt + (Int32.ofInt 1).toInt := by rw [hz20]; exact pj_addI (by have := pj_i32 y1; have := pj_i32 (Int32.ofInt 1); omega) (by have := pj_i32 y1; have := pj_i32 (Int32.ofInt 1); omega)
            refine pj_X_of (fun r h => pj_T_pf iG19 rfl rfl rfl h) ?_
            show pj_X _ _ (pj_wv G19 46 3 (.int z20)) 72 [(0, .ref 46), (1, .int w), (2, .int va), (3, .int is)] [] _
            obtain ⟨G21, hG21⟩ : ∃ H, H = pj_wv G19 46 3 (.int z20) := ⟨_, rfl⟩
            have iG21 : pj_Inv G21 := by rw [hG21]; exact pj_Inv_wi iG19 (ci := 2) rfl (fun q hq => by cases hq; exact ⟨by show (0 : Int) ≤ _; omega, by show _ ≤ (12 : Int); omega⟩)
            have kG21 : pj_kpt kc_17q G0 G21 := by rw [hG21]; exact pj_kpt_v kG19 rfl
            rw [← hG21]
            refine pj_X_of (fun r h => pj_R_to (G21, 73, [(0, .ref 46), (1, .int w), (2, .int va), (3, .int is)], [.ref 46], 0, 0) 73 2 (fun _ => rfl) h) ?_
            refine pj_X_of (fun r h => pj_T_gi iG21 rfl rfl h) ?_
            show pj_X _ _ G21 76 [(0, .ref 46), (1, .int w), (2, .int va), (3, .int is)] [.int (pj_fi G21 46 3)] _
            refine pj_X_eqi (show pj_fi G21 46 3 = z20 from by rw [hG21]; exact pj_fi_wi iG19.1 (ci := 2) rfl _) ?_
            have q22 : (pj_fi G21 46 3).toInt = z20.toInt := by rw [show pj_fi G21 46 3 = z20 from by rw [hG21]; exact pj_fi_wi iG19.1 (ci := 2) rfl _]
            exact pj_X_rt rfl rfl ⟨_, rfl, iG21, kG21, pj_i32 _, by omega⟩
        | false =>
          have ub10 := pj_u_ltF b10
          refine pj_X_of (fun r h => pj_R_icF rfl b10 h) ?_
          refine pj_X_of (fun r h => pj_R_to (G0, 27, [(0, .ref 46), (1, .int w), (2, .int va), (3, .int is)], [.int (Int32.ofInt (-1))], 0, 0) 27 2 (fun _ => rfl) h) ?_
          have q23 : (pj_fi G0 46 3).toInt = y1.toInt := by rw [show pj_fi G0 46 3 = y1 from hy1.symm]
          exact pj_X_rt rfl rfl ⟨_, rfl, hI, hK, pj_i32 _, by omega⟩
def kc_148q : pj_KT := ([(46, 3)], [46, 47, 48], [47, 48])
theorem ct_148q (G0 : pj_G) (hI : pj_Inv G0) (w : Int32) (va : Int32) (is : Int32) : pj_Y 3 148 [.ref 1, .int w, .int va, .int is] G0 (fun v G' => ∃ y : Int32, v = some (.int y) ∧ pj_Inv G' ∧ pj_kpt kc_148q G0 G' ∧ ((-2147483648 : Int) ≤ y.toInt ∧ y.toInt ≤ 2147483647) ∧ ((((((w.toInt = 0 ∨ w.toInt = 1) ∧ 0 ≤ va.toInt ∧ va.toInt ≤ 18) ∨ (w.toInt = 2 ∧ 0 ≤ va.toInt ∧ va.toInt ≤ 6) ∨ (w.toInt = 3 ∧ 0 ≤ va.toInt ∧ va.toInt ≤ 1)) ∧ 0 ≤ is.toInt ∧ is.toInt ≤ 1 ∧ (pj_fi G0 46 3).toInt ≤ 11) → y.toInt = (pj_fi G0 46 3).toInt + 1 ∧ (pj_fi G' 46 3).toInt = (pj_fi G0 46 3).toInt + 1) ∧ (¬ ((((w.toInt = 0 ∨ w.toInt = 1) ∧ 0 ≤ va.toInt ∧ va.toInt ≤ 18) ∨ (w.toInt = 2 ∧ 0 ≤ va.toInt ∧ va.toInt ≤ 6) ∨ (w.toInt = 3 ∧ 0 ≤ va.toInt ∧ va.toInt ≤ 1)) ∧ 0 ≤ is.toInt ∧ is.toInt ≤ 1 ∧ (pj_fi G0 46 3).toInt ≤ 11) → y.toInt = -1 ∧ (pj_fi G' 46 3).toInt = (pj_fi G0 46 3).toInt))) := by
  refine pj_Y_X (M := pj_m148) rfl rfl (Nat.le_of_ble_eq_true rfl) ?_
  have hK : pj_kpt kc_148q G0 G0 := pj_kpt_r _ _
  show pj_X _ _ G0 0 [(0, .ref 1), (1, .int w), (2, .int va), (3, .int is)] [] _
  obtain ⟨y1, hy1⟩ : ∃ z : Int32, z = pj_fi G0 46 3 := ⟨_, rfl⟩
  have ey1 : (pj_fi G0 46 3).toInt = y1.toInt := by rw [hy1]
  have ry1 : (0 : Int) ≤ y1.toInt ∧ y1.toInt ≤ 12 := by rw [hy1]; exact hI.2.1 46 3 (0, 12) rfl
  refine pj_X_of (fun r h => pj_R_to (G0, 1, [(0, .ref 1), (1, .int w), (2, .int va), (3, .int is)], [.ref 1], 0, 0) 1 2 (fun _ => rfl) h) ?_
  refine pj_X_of (fun r h => pj_T_gr hI rfl rfl rfl h) ?_
  refine pj_X_of (fun r h => pj_R_to (G0, 7, [(0, .ref 1), (1, .int w), (2, .int va), (3, .int is)], [.int is, .int va, .int w, .ref 46], 0, 0) 7 4 (fun _ => rfl) h) ?_
  have q2 : (pj_fi G0 46 3).toInt = y1.toInt := by rw [show pj_fi G0 46 3 = y1 from hy1.symm]
  refine pj_X_ca (vs := [.ref 46, .int w, .int va, .int is]) rfl (fun _ => rfl) ⟨Nat.le_of_ble_eq_true rfl, Nat.le_of_ble_eq_true rfl, pj_T_rcv hI rfl⟩ ⟨rfl, rfl⟩ (pj_Y_up (by decide) (ct_17q G0 hI w va is)) ?_
  rintro _ G4 ⟨y3, rfl, iG4, jG4, ry3, ey3⟩
  have kG4 : pj_kpt kc_148q G0 G4 := pj_kpt_t hK (pj_kpt_s jG4 rfl)
  obtain ⟨y5, hy5⟩ : ∃ z : Int32, z = pj_fi G4 46 3 := ⟨_, rfl⟩
  have ey5 : (pj_fi G4 46 3).toInt = y5.toInt := by rw [hy5]
  have ry5 : (0 : Int) ≤ y5.toInt ∧ y5.toInt ≤ 12 := by rw [hy5]; exact iG4.2.1 46 3 (0, 12) rfl
  show pj_X _ _ G4 10 [(0, .ref 1), (1, .int w), (2, .int va), (3, .int is)] [.int y3] _
  have q6 : (pj_fi G4 46 3).toInt = y5.toInt := by rw [show pj_fi G4 46 3 = y5 from hy5.symm]
  exact pj_X_rt rfl rfl ⟨_, rfl, iG4, kG4, pj_i32 _, by omega⟩
def kc_149q : pj_KT := ([(46, 3)], [46], [])
theorem ct_149q (G0 : pj_G) (hI : pj_Inv G0) : pj_Y 2 149 [.ref 1] G0 (fun v G' => ∃ y : Int32, v = some (.int y) ∧ pj_Inv G' ∧ pj_kpt kc_149q G0 G' ∧ ((-2147483648 : Int) ≤ y.toInt ∧ y.toInt ≤ 2147483647) ∧ (y.toInt = (pj_fi G0 46 3).toInt ∧ (pj_fi G' 46 3).toInt = 0)) := by
  have c0_ : (Int32.ofInt 0).toInt = 0 := by decide
  refine pj_Y_X (M := pj_m149) rfl rfl (Nat.le_of_ble_eq_true rfl) ?_
  have hK : pj_kpt kc_149q G0 G0 := pj_kpt_r _ _
  show pj_X _ _ G0 0 [(0, .ref 1)] [] _
  obtain ⟨y1, hy1⟩ : ∃ z : Int32, z = pj_fi G0 46 3 := ⟨_, rfl⟩
  have ey1 : (pj_fi G0 46 3).toInt = y1.toInt := by rw [hy1]
  have ry1 : (0 : Int) ≤ y1.toInt ∧ y1.toInt ≤ 12 := by rw [hy1]; exact hI.2.1 46 3 (0, 12) rfl
  refine pj_X_of (fun r h => pj_R_to (G0, 1, [(0, .ref 1)], [.ref 1], 0, 0) 1 2 (fun _ => rfl) h) ?_
  refine pj_X_of (fun r h => pj_T_gr hI rfl rfl rfl h) ?_
  refine pj_X_of (fun r h => pj_T_gi hI rfl rfl h) ?_
  show pj_X _ _ G0 7 [(0, .ref 1)] [.int (pj_fi G0 46 3)] _
  refine pj_X_eqi (show pj_fi G0 46 3 = y1 from hy1.symm) ?_
  refine pj_X_of (fun r h => pj_R_to (G0, 9, [(1, .int y1), (0, .ref 1)], [.ref 1], 0, 0) 9 3 (fun _ => rfl) h) ?_
  refine pj_X_of (fun r h => pj_T_gr hI rfl rfl rfl h) ?_
  refine pj_X_of (fun r h => pj_R_to (G0, 13, [(1, .int y1), (0, .ref 1)], [.int (Int32.ofInt 0), .ref 46], 0, 0) 13 2 (fun _ => rfl) h) ?_
  refine pj_X_of (fun r h => pj_T_pf hI rfl rfl rfl h) ?_
  show pj_X _ _ (pj_wv G0 46 3 (.int (Int32.ofInt 0))) 16 [(1, .int y1), (0, .ref 1)] [] _
  obtain ⟨G2, hG2⟩ : ∃ H, H = pj_wv G0 46 3 (.int (Int32.ofInt 0)) := ⟨_, rfl⟩
  have iG2 : pj_Inv G2 := by rw [hG2]; exact pj_Inv_wi hI (ci := 2) rfl (fun q hq => by cases hq; exact ⟨by show (0 : Int) ≤ _; omega, by show _ ≤ (12 : Int); omega⟩)
  have kG2 : pj_kpt kc_149q G0 G2 := by rw [hG2]; exact pj_kpt_v hK rfl
  rw [← hG2]
  refine pj_X_of (fun r h => pj_R_to (G2, 17, [(1, .int y1), (0, .ref 1)], [.int y1], 0, 0) 17 2 (fun _ => rfl) h) ?_
  have q3 : (pj_fi G2 46 3).toInt = (Int32.ofInt 0).toInt := by rw [show pj_fi G2 46 3 = Int32.ofInt 0 from by rw [hG2]; exact pj_fi_wi hI.1 (ci := 2) rfl _]
  exact pj_X_rt rfl rfl ⟨_, rfl, iG2, kG2, pj_i32 _, by omega⟩
theorem ct_262q (G0 : pj_G) (hI : pj_Inv G0) (w : Int32) : pj_Y 1 262 [.int w] G0 (fun v G' => ∃ y : Int32, v = some (.int y) ∧ G0 = G' ∧ ((1 : Int) ≤ y.toInt ∧ y.toInt ≤ 18) ∧ ((w.toInt < 2 → y.toInt = 18) ∧ (w.toInt = 2 → y.toInt = 6) ∧ (2 < w.toInt → y.toInt = 1))) := by
  have c0_ : ((Int8.ofInt 18).toInt32).toInt = 18 := by decide
  have c1_ : ((Int8.ofInt 6).toInt32).toInt = 6 := by decide
  have c2_ : (Int32.ofInt 1).toInt = 1 := by decide
  have c3_ : (Int32.ofInt 2).toInt = 2 := by decide
  refine pj_Y_X (M := pj_m262) rfl rfl (Nat.le_of_ble_eq_true rfl) ?_
  have hK : pj_kpt ([], [], []) G0 G0 := pj_kpt_r _ _
  show pj_X _ _ G0 0 [(0, .int w)] [] _
  refine pj_X_of (fun r h => pj_R_to (G0, 2, [(0, .int w)], [.int (Int32.ofInt 2), .int w], 0, 0) 2 3 (fun _ => rfl) h) ?_
  cases b1 : pj_c1 .ge w (Int32.ofInt 2) with
  | true =>
    have ub1 := pj_u_geT b1
    refine pj_X_of (fun r h => pj_R_icT 10 rfl rfl b1 h) ?_
    refine pj_X_of (fun r h => pj_R_to (G0, 12, [(0, .int w)], [.int (Int32.ofInt 2), .int w], 0, 0) 12 3 (fun _ => rfl) h) ?_
    cases b2 : pj_c1 .ne w (Int32.ofInt 2) with
    | true =>
      have ub2 := pj_u_neT b2
      refine pj_X_of (fun r h => pj_R_icT 20 rfl rfl b2 h) ?_
      refine pj_X_of (fun r h => pj_R_to (G0, 21, [(0, .int w)], [.int (Int32.ofInt 1)], 0, 0) 21 2 (fun _ => rfl) h) ?_
      exact pj_X_rt rfl rfl ⟨_, rfl, rfl, ⟨by omega, by omega⟩, by omega⟩
    | false =>
      have ub2 := pj_u_neF b2
      refine pj_X_of (fun r h => pj_R_icF rfl b2 h) ?_
      refine pj_X_of (fun r h => pj_R_to (G0, 21, [(0, .int w)], [.int ((Int8.ofInt 6).toInt32)], 0, 0) 21 3 (fun _ => rfl) h) ?_
      exact pj_X_rt rfl rfl ⟨_, rfl, rfl, ⟨by omega, by omega⟩, by omega⟩
  | false =>
    have ub1 := pj_u_geF b1
    refine pj_X_of (fun r h => pj_R_icF rfl b1 h) ?_
    refine pj_X_of (fun r h => pj_R_to (G0, 21, [(0, .int w)], [.int ((Int8.ofInt 18).toInt32)], 0, 0) 21 3 (fun _ => rfl) h) ?_
    exact pj_X_rt rfl rfl ⟨_, rfl, rfl, ⟨by omega, by omega⟩, by omega⟩
def kc_263q : pj_KT := ([(171, 0), (171, 48)], [171, 196, 197, 198], [196, 197, 198])
theorem ct_263q (G0 : pj_G) (hI : pj_Inv G0) (w : Int32) (va : Int32) (is : Int32) : pj_Y 2 263 [.ref 171, .int w, .int va, .int is] G0 (fun v G' => ∃ y : Int32, v = some (.int y) ∧ pj_Inv G' ∧ pj_kpt kc_263q G0 G' ∧ ((-2147483648 : Int) ≤ y.toInt ∧ y.toInt ≤ 2147483647) ∧ ((((((w.toInt = 0 ∨ w.toInt = 1) ∧ 0 ≤ va.toInt ∧ va.toInt ≤ 18) ∨ (w.toInt = 2 ∧ 0 ≤ va.toInt ∧ va.toInt ≤ 6) ∨ (w.toInt = 3 ∧ 0 ≤ va.toInt ∧ va.toInt ≤ 1)) ∧ 0 ≤ is.toInt ∧ is.toInt ≤ 1 ∧ (pj_fi G0 171 48).toInt ≤ 11) → y.toInt = (pj_fi G0 171 48).toInt + 1 ∧ (pj_fi G' 171 48).toInt = (pj_fi G0 171 48).toInt + 1) ∧ (¬ ((((w.toInt = 0 ∨ w.toInt = 1) ∧ 0 ≤ va.toInt ∧ va.toInt ≤ 18) ∨ (w.toInt = 2 ∧ 0 ≤ va.toInt ∧ va.toInt ≤ 6) ∨ (w.toInt = 3 ∧ 0 ≤ va.toInt ∧ va.toInt ≤ 1)) ∧ 0 ≤ is.toInt ∧ is.toInt ≤ 1 ∧ (pj_fi G0 171 48).toInt ≤ 11) → y.toInt = -1 ∧ (pj_fi G' 171 48).toInt = (pj_fi G0 171 48).toInt))) := by
  have c0_ : ((Int8.ofInt 12).toInt32).toInt = 12 := by decide
  have c1_ : (Int32.ofInt (-1)).toInt = -1 := by decide
  have c2_ : (Int32.ofInt 0).toInt = 0 := by decide
  have c3_ : (Int32.ofInt 1).toInt = 1 := by decide
  refine pj_Y_X (M := pj_m263) rfl rfl (Nat.le_of_ble_eq_true rfl) ?_
  have hK : pj_kpt kc_263q G0 G0 := pj_kpt_r _ _
  show pj_X _ _ G0 0 [(0, .ref 171), (1, .int w), (2, .int va), (3, .int is)] [] _
  obtain ⟨y1, hy1⟩ : ∃ z : Int32, z = pj_fi G0 171 48 := ⟨_, rfl⟩
  have ey1 : (pj_fi G0 171 48).toInt = y1.toInt := by rw [hy1]
  have ry1 : (0 : Int) ≤ y1.toInt ∧ y1.toInt ≤ 12 := by rw [hy1]; exact hI.2.1 171 48 (0, 12) rfl
  refine pj_X_of (fun r h => pj_R_to (G0, 2, [(0, .ref 171), (1, .int w), (2, .int va), (3, .int is)], [.int (Int32.ofInt 0), .ref 171], 0, 0) 2 3 (fun _ => rfl) h) ?_
  refine pj_X_of (fun r h => pj_T_pf hI rfl rfl rfl h) ?_
  show pj_X _ _ (pj_wv G0 171 0 (.int (Int32.ofInt 0))) 5 [(0, .ref 171), (1, .int w), (2, .int va), (3, .int is)] [] _
  obtain ⟨G2, hG2⟩ : ∃ H, H = pj_wv G0 171 0 (.int (Int32.ofInt 0)) := ⟨_, rfl⟩
  have iG2 : pj_Inv G2 := by rw [hG2]; exact pj_Inv_wi hI (ci := 12) rfl (fun q hq => by cases hq)
  have kG2 : pj_kpt kc_263q G0 G2 := by rw [hG2]; exact pj_kpt_v hK rfl
  rw [← hG2]
  refine pj_X_of (fun r h => pj_R_to (G2, 11, [(0, .ref 171), (1, .int w), (2, .int va), (3, .int is)], [.long (Int64.ofInt 3), .long (Int64.ofNat 0), .long w.toInt64], 0, 0) 11 5 (fun _ => rfl) h) ?_
  have q3 : (pj_fi G2 171 48).toInt = y1.toInt := by rw [show pj_fi G2 171 48 = y1 from by rw [hG2, pj_fi_wv_ne _ _ _ _ _ _ (by decide)]; exact hy1.symm]
  have lc4 : (w.toInt64).toInt = w.toInt := Int32.toInt_toInt64 _
  have lc5 : (Int64.ofNat 0).toInt = 0 := by decide
  have lc6 : (Int64.ofInt 3).toInt = 3 := by decide
  refine pj_X_ca (vs := [.long w.toInt64, .long (Int64.ofNat 0), .long (Int64.ofInt 3)]) rfl (fun _ => rfl) ⟨Nat.le_of_ble_eq_true rfl, Nat.le_of_ble_eq_true rfl, rfl⟩ ⟨rfl, rfl⟩ (pj_Y_up (by decide) (ct_170 G2 iG2 w.toInt64 (Int64.ofNat 0) (Int64.ofInt 3))) ?_
  rintro _ _ ⟨y7, rfl, rfl, ry7, ey7⟩
  show pj_X _ _ G2 14 [(0, .ref 171), (1, .int w), (2, .int va), (3, .int is)] [.int y7] _
  cases b8 : pj_c1 .eq y7 0 with
  | true =>
    have ub8 := pj_u0_eqT b8
    refine pj_X_of (fun r h => pj_R_ifT 50 rfl rfl b8 h) ?_
    refine pj_X_of (fun r h => pj_R_to (G2, 51, [(0, .ref 171), (1, .int w), (2, .int va), (3, .int is)], [.int (Int32.ofInt (-1))], 0, 0) 51 2 (fun _ => rfl) h) ?_
    have q9 : (pj_fi G2 171 48).toInt = y1.toInt := by rw [show pj_fi G2 171 48 = y1 from by rw [hG2, pj_fi_wv_ne _ _ _ _ _ _ (by decide)]; exact hy1.symm]
    exact pj_X_rt rfl rfl ⟨_, rfl, iG2, kG2, pj_i32 _, by omega⟩
  | false =>
    have ub8 := pj_u0_eqF b8
    refine pj_X_of (fun r h => pj_R_ifF rfl b8 h) ?_
    refine pj_X_of (fun r h => pj_R_to (G2, 21, [(0, .ref 171), (1, .int w), (2, .int va), (3, .int is)], [.int w, .long (Int64.ofNat 0), .long va.toInt64], 0, 0) 21 5 (fun _ => rfl) h) ?_
    have q10 : (pj_fi G2 171 48).toInt = y1.toInt := by rw [show pj_fi G2 171 48 = y1 from by rw [hG2, pj_fi_wv_ne _ _ _ _ _ _ (by decide)]; exact hy1.symm]
    refine pj_X_ca (vs := [.int w]) rfl (fun _ => rfl) ⟨Nat.le_of_ble_eq_true rfl, Nat.le_of_ble_eq_true rfl, rfl⟩ ⟨rfl, rfl⟩ (pj_Y_up (by decide) (ct_262q G2 iG2 w)) ?_
    rintro _ _ ⟨y11, rfl, rfl, ry11, ey11⟩
    show pj_X _ _ G2 24 [(0, .ref 171), (1, .int w), (2, .int va), (3, .int is)] [.int y11, .long (Int64.ofNat 0), .long va.toInt64] _
    refine pj_X_of (fun r h => pj_R_to (G2, 25, [(0, .ref 171), (1, .int w), (2, .int va), (3, .int is)], [.long y11.toInt64, .long (Int64.ofNat 0), .long va.toInt64], 0, 0) 25 2 (fun _ => rfl) h) ?_
    have q12 : (pj_fi G2 171 48).toInt = y1.toInt := by rw [show pj_fi G2 171 48 = y1 from by rw [hG2, pj_fi_wv_ne _ _ _ _ _ _ (by decide)]; exact hy1.symm]
    have lc13 : (va.toInt64).toInt = va.toInt := Int32.toInt_toInt64 _
    have lc14 : (Int64.ofNat 0).toInt = 0 := by decide
    have lc15 : (y11.toInt64).toInt = y11.toInt := Int32.toInt_toInt64 _
    refine pj_X_ca (vs := [.long va.toInt64, .long (Int64.ofNat 0), .long y11.toInt64]) rfl (fun _ => rfl) ⟨Nat.le_of_ble_eq_true rfl, Nat.le_of_ble_eq_true rfl, rfl⟩ ⟨rfl, rfl⟩ (pj_Y_up (by decide) (ct_170 G2 iG2 va.toInt64 (Int64.ofNat 0) y11.toInt64)) ?_
    rintro _ _ ⟨y16, rfl, rfl, ry16, ey16⟩
    show pj_X _ _ G2 28 [(0, .ref 171), (1, .int w), (2, .int va), (3, .int is)] [.int y16] _
    cases b17 : pj_c1 .eq y16 0 with
    | true =>
      have ub17 := pj_u0_eqT b17
      refine pj_X_of (fun r h => pj_R_ifT 50 rfl rfl b17 h) ?_
      refine pj_X_of (fun r h => pj_R_to (G2, 51, [(0, .ref 171), (1, .int w), (2, .int va), (3, .int is)], [.int (Int32.ofInt (-1))], 0, 0) 51 2 (fun _ => rfl) h) ?_
      have q18 : (pj_fi G2 171 48).toInt = y1.toInt := by rw [show pj_fi G2 171 48 = y1 from by rw [hG2, pj_fi_wv_ne _ _ _ _ _ _ (by decide)]; exact hy1.symm]
      exact pj_X_rt rfl rfl ⟨_, rfl, iG2, kG2, pj_i32 _, by omega⟩
    | false =>
      have ub17 := pj_u0_eqF b17
      refine pj_X_of (fun r h => pj_R_ifF rfl b17 h) ?_
      refine pj_X_of (fun r h => pj_R_to (G2, 35, [(0, .ref 171), (1, .int w), (2, .int va), (3, .int is)], [.long (Int64.ofNat 1), .long (Int64.ofNat 0), .long is.toInt64], 0, 0) 35 5 (fun _ => rfl) h) ?_
      have q19 : (pj_fi G2 171 48).toInt = y1.toInt := by rw [show pj_fi G2 171 48 = y1 from by rw [hG2, pj_fi_wv_ne _ _ _ _ _ _ (by decide)]; exact hy1.symm]
      have lc20 : (is.toInt64).toInt = is.toInt := Int32.toInt_toInt64 _
      have lc21 : (Int64.ofNat 0).toInt = 0 := by decide
      have lc22 : (Int64.ofNat 1).toInt = 1 := by decide
      refine pj_X_ca (vs := [.long is.toInt64, .long (Int64.ofNat 0), .long (Int64.ofNat 1)]) rfl (fun _ => rfl) ⟨Nat.le_of_ble_eq_true rfl, Nat.le_of_ble_eq_true rfl, rfl⟩ ⟨rfl, rfl⟩ (pj_Y_up (by decide) (ct_170 G2 iG2 is.toInt64 (Int64.ofNat 0) (Int64.ofNat 1))) ?_
      rintro _ _ ⟨y23, rfl, rfl, ry23, ey23⟩
      show pj_X _ _ G2 38 [(0, .ref 171), (1, .int w), (2, .int va), (3, .int is)] [.int y23] _
      cases b24 : pj_c1 .eq y23 0 with
      | true =>
        have ub24 := pj_u0_eqT b24
        refine pj_X_of (fun r h => pj_R_ifT 50 rfl rfl b24 h) ?_
        refine pj_X_of (fun r h => pj_R_to (G2, 51, [(0, .ref 171), (1, .int w), (2, .int va), (3, .int is)], [.int (Int32.ofInt (-1))], 0, 0) 51 2 (fun _ => rfl) h) ?_
        have q25 : (pj_fi G2 171 48).toInt = y1.toInt := by rw [show pj_fi G2 171 48 = y1 from by rw [hG2, pj_fi_wv_ne _ _ _ _ _ _ (by decide)]; exact hy1.symm]
        exact pj_X_rt rfl rfl ⟨_, rfl, iG2, kG2, pj_i32 _, by omega⟩
      | false =>
        have ub24 := pj_u0_eqF b24
        refine pj_X_of (fun r h => pj_R_ifF rfl b24 h) ?_
        refine pj_X_of (fun r h => pj_R_to (G2, 42, [(0, .ref 171), (1, .int w), (2, .int va), (3, .int is)], [.ref 171], 0, 0) 42 2 (fun _ => rfl) h) ?_
        refine pj_X_of (fun r h => pj_T_gi iG2 rfl rfl h) ?_
        show pj_X _ _ G2 45 [(0, .ref 171), (1, .int w), (2, .int va), (3, .int is)] [.int (pj_fi G2 171 48)] _
        refine pj_X_eqi (show pj_fi G2 171 48 = y1 from by rw [hG2, pj_fi_wv_ne _ _ _ _ _ _ (by decide)]; exact hy1.symm) ?_
        refine pj_X_of (fun r h => pj_R_to (G2, 47, [(0, .ref 171), (1, .int w), (2, .int va), (3, .int is)], [.int ((Int8.ofInt 12).toInt32), .int y1], 0, 0) 47 2 (fun _ => rfl) h) ?_
        cases b26 : pj_c1 .ne y1 ((Int8.ofInt 12).toInt32) with
        | true =>
          have ub26 := pj_u_neT b26
          refine pj_X_of (fun r h => pj_R_icT 52 rfl rfl b26 h) ?_
          refine pj_X_of (fun r h => pj_R_to (G2, 53, [(0, .ref 171), (1, .int w), (2, .int va), (3, .int is)], [.ref 171], 0, 0) 53 2 (fun _ => rfl) h) ?_
          refine pj_X_of (fun r h => pj_T_gr iG2 rfl rfl rfl h) ?_
          refine pj_X_of (fun r h => pj_R_to (G2, 57, [(0, .ref 171), (1, .int w), (2, .int va), (3, .int is)], [.ref 171, .ref 196], 0, 0) 57 2 (fun _ => rfl) h) ?_
          refine pj_X_of (fun r h => pj_T_gi iG2 rfl rfl h) ?_
          show pj_X _ _ G2 60 [(0, .ref 171), (1, .int w), (2, .int va), (3, .int is)] [.int (pj_fi G2 171 48), .ref 196] _
          refine pj_X_eqi (show pj_fi G2 171 48 = y1 from by rw [hG2, pj_fi_wv_ne _ _ _ _ _ _ (by decide)]; exact hy1.symm) ?_
          refine pj_X_of (fun r h => pj_R_to (G2, 61, [(0, .ref 171), (1, .int w), (2, .int va), (3, .int is)], [.int w, .int y1, .ref 196], 0, 0) 61 2 (fun _ => rfl) h) ?_
          refine pj_X_of (fun r h => pj_T_is iG2 rfl rfl (by omega) (by omega) h) ?_
          show pj_X _ _ (pj_wa G2 196 y1.toInt.toNat w) 62 [(0, .ref 171), (1, .int w), (2, .int va), (3, .int is)] [] _
          obtain ⟨G27, hG27⟩ : ∃ H, H = pj_wa G2 196 y1.toInt.toNat w := ⟨_, rfl⟩
          have iG27 : pj_Inv G27 := by rw [hG27]; exact pj_Inv_wa iG2 rfl (fun q hq => by cases hq) (fun n hn => by cases hn)
          have kG27 : pj_kpt kc_263q G0 G27 := by rw [hG27]; exact pj_kpt_a kG2 rfl
          rw [← hG27]
          refine pj_X_of (fun r h => pj_R_to (G27, 63, [(0, .ref 171), (1, .int w), (2, .int va), (3, .int is)], [.ref 171], 0, 0) 63 2 (fun _ => rfl) h) ?_
          refine pj_X_of (fun r h => pj_T_gr iG27 rfl rfl rfl h) ?_
          refine pj_X_of (fun r h => pj_R_to (G27, 67, [(0, .ref 171), (1, .int w), (2, .int va), (3, .int is)], [.ref 171, .ref 197], 0, 0) 67 2 (fun _ => rfl) h) ?_
          refine pj_X_of (fun r h => pj_T_gi iG27 rfl rfl h) ?_
          show pj_X _ _ G27 70 [(0, .ref 171), (1, .int w), (2, .int va), (3, .int is)] [.int (pj_fi G27 171 48), .ref 197] _
          refine pj_X_eqi (show pj_fi G27 171 48 = y1 from by rw [hG27, pj_fi_wa]; exact (by rw [hG2, pj_fi_wv_ne _ _ _ _ _ _ (by decide)]; exact hy1.symm)) ?_
          refine pj_X_of (fun r h => pj_R_to (G27, 71, [(0, .ref 171), (1, .int w), (2, .int va), (3, .int is)], [.int va, .int y1, .ref 197], 0, 0) 71 2 (fun _ => rfl) h) ?_
          refine pj_X_of (fun r h => pj_T_is iG27 rfl rfl (by omega) (by omega) h) ?_
          show pj_X _ _ (pj_wa G27 197 y1.toInt.toNat va) 72 [(0, .ref 171), (1, .int w), (2, .int va), (3, .int is)] [] _
          obtain ⟨G28, hG28⟩ : ∃ H, H = pj_wa G27 197 y1.toInt.toNat va := ⟨_, rfl⟩
          have iG28 : pj_Inv G28 := by rw [hG28]; exact pj_Inv_wa iG27 rfl (fun q hq => by cases hq) (fun n hn => by cases hn)
          have kG28 : pj_kpt kc_263q G0 G28 := by rw [hG28]; exact pj_kpt_a kG27 rfl
          rw [← hG28]
          refine pj_X_of (fun r h => pj_R_to (G28, 73, [(0, .ref 171), (1, .int w), (2, .int va), (3, .int is)], [.ref 171], 0, 0) 73 2 (fun _ => rfl) h) ?_
          refine pj_X_of (fun r h => pj_T_gr iG28 rfl rfl rfl h) ?_
          refine pj_X_of (fun r h => pj_R_to (G28, 77, [(0, .ref 171), (1, .int w), (2, .int va), (3, .int is)], [.ref 171, .ref 198], 0, 0) 77 2 (fun _ => rfl) h) ?_
          refine pj_X_of (fun r h => pj_T_gi iG28 rfl rfl h) ?_
          show pj_X _ _ G28 80 [(0, .ref 171), (1, .int w), (2, .int va), (3, .int is)] [.int (pj_fi G28 171 48), .ref 198] _
          refine pj_X_eqi (show pj_fi G28 171 48 = y1 from by rw [hG28, pj_fi_wa]; exact (by rw [hG27, pj_fi_wa]; exact (by rw [hG2, pj_fi_wv_ne _ _ _ _ _ _ (by decide)]; exact hy1.symm))) ?_
          refine pj_X_of (fun r h => pj_R_to (G28, 81, [(0, .ref 171), (1, .int w), (2, .int va), (3, .int is)], [.int is, .int y1, .ref 198], 0, 0) 81 2 (fun _ => rfl) h) ?_
          refine pj_X_of (fun r h => pj_T_is iG28 rfl rfl (by omega) (by omega) h) ?_
          show pj_X _ _ (pj_wa G28 198 y1.toInt.toNat is) 82 [(0, .ref 171), (1, .int w), (2, .int va), (3, .int is)] [] _
          obtain ⟨G29, hG29⟩ : ∃ H, H = pj_wa G28 198 y1.toInt.toNat is := ⟨_, rfl⟩
          have iG29 : pj_Inv G29 := by rw [hG29]; exact pj_Inv_wa iG28 rfl (fun q hq => by cases hq) (fun n hn => by cases hn)
          have kG29 : pj_kpt kc_263q G0 G29 := by rw [hG29]; exact pj_kpt_a kG28 rfl
          rw [← hG29]
          refine pj_X_of (fun r h => pj_R_to (G29, 84, [(0, .ref 171), (1, .int w), (2, .int va), (3, .int is)], [.ref 171, .ref 171], 0, 0) 84 3 (fun _ => rfl) h) ?_
          refine pj_X_of (fun r h => pj_T_gi iG29 rfl rfl h) ?_
          show pj_X _ _ G29 87 [(0, .ref 171), (1, .int w), (2, .int va), (3, .int is)] [.int (pj_fi G29 171 48), .ref 171] _
          refine pj_X_eqi (show pj_fi G29 171 48 = y1 from by rw [hG29, pj_fi_wa]; exact (by rw [hG28, pj_fi_wa]; exact (by rw [hG27, pj_fi_wa]; exact (by rw [hG2, pj_fi_wv_ne _ _ _ _ _ _ (by decide)]; exact hy1.symm)))) ?_
          refine pj_X_of (fun r h => pj_R_to (G29, 89, [(0, .ref 171), (1, .int w), (2, .int va), (3, .int is)], [.int (y1 + (Int32.ofInt 1)), .ref 171], 0, 0) 89 3 (fun _ => rfl) h) ?_
          obtain ⟨z30, hz30⟩ : ∃ z : Int32, z = y1 + (Int32.ofInt 1) := ⟨_, rfl⟩
          refine pj_X_eqi hz30.symm ?_
          have fz30_0 : z30.toInt = y1.toInt + (Int32.ofInt 1).toInt := by rw [hz30]; exact pj_addI (by have := pj_i32 y1; have := pj_i32 (Int32.ofInt 1); omega) (by have := pj_i32 y1; have := pj_i32 (Int32.ofInt 1); omega)
          refine pj_X_of (fun r h => pj_T_pf iG29 rfl rfl rfl h) ?_
          show pj_X _ _ (pj_wv G29 171 48 (.int z30)) 92 [(0, .ref 171), (1, .int w), (2, .int va), (3, .int is)] [] _
          obtain ⟨G31, hG31⟩ : ∃ H, H = pj_wv G29 171 48 (.int z30) := ⟨_, rfl⟩
          have iG31 : pj_Inv G31 := by rw [hG31]; exact pj_Inv_wi iG29 (ci := 12) rfl (fun q hq => by cases hq; exact ⟨by show (0 : Int) ≤ _; omega, by show _ ≤ (12 : Int); omega⟩)
          have kG31 : pj_kpt kc_263q G0 G31 := by rw [hG31]; exact pj_kpt_v kG29 rfl
          rw [← hG31]
          refine pj_X_of (fun r h => pj_R_to (G31, 93, [(0, .ref 171), (1, .int w), (2, .int va), (3, .int is)], [.ref 171], 0, 0) 93 2 (fun _ => rfl) h) ?_
          refine pj_X_of (fun r h => pj_T_gi iG31 rfl rfl h) ?_
          show pj_X _ _ G31 96 [(0, .ref 171), (1, .int w), (2, .int va), (3, .int is)] [.int (pj_fi G31 171 48)] _
          refine pj_X_eqi (show pj_fi G31 171 48 = z30 from by rw [hG31]; exact pj_fi_wi iG29.1 (ci := 12) rfl _) ?_
          have q32 : (pj_fi G31 171 48).toInt = z30.toInt := by rw [show pj_fi G31 171 48 = z30 from by rw [hG31]; exact pj_fi_wi iG29.1 (ci := 12) rfl _]
          exact pj_X_rt rfl rfl ⟨_, rfl, iG31, kG31, pj_i32 _, by omega⟩
        | false =>
          have ub26 := pj_u_neF b26
          refine pj_X_of (fun r h => pj_R_icF rfl b26 h) ?_
          refine pj_X_of (fun r h => pj_R_to (G2, 51, [(0, .ref 171), (1, .int w), (2, .int va), (3, .int is)], [.int (Int32.ofInt (-1))], 0, 0) 51 2 (fun _ => rfl) h) ?_
          have q33 : (pj_fi G2 171 48).toInt = y1.toInt := by rw [show pj_fi G2 171 48 = y1 from by rw [hG2, pj_fi_wv_ne _ _ _ _ _ _ (by decide)]; exact hy1.symm]
          exact pj_X_rt rfl rfl ⟨_, rfl, iG2, kG2, pj_i32 _, by omega⟩
def kc_264q : pj_KT := ([(171, 0), (171, 48)], [171], [])
theorem ct_264q (G0 : pj_G) (hI : pj_Inv G0) : pj_Y 1 264 [.ref 171] G0 (fun v G' => ∃ y : Int32, v = some (.int y) ∧ pj_Inv G' ∧ pj_kpt kc_264q G0 G' ∧ ((-2147483648 : Int) ≤ y.toInt ∧ y.toInt ≤ 2147483647) ∧ (y.toInt = (pj_fi G0 171 48).toInt ∧ (pj_fi G' 171 48).toInt = 0)) := by
  have c0_ : (Int32.ofInt 0).toInt = 0 := by decide
  refine pj_Y_X (M := pj_m264) rfl rfl (Nat.le_of_ble_eq_true rfl) ?_
  have hK : pj_kpt kc_264q G0 G0 := pj_kpt_r _ _
  show pj_X _ _ G0 0 [(0, .ref 171)] [] _
  obtain ⟨y1, hy1⟩ : ∃ z : Int32, z = pj_fi G0 171 48 := ⟨_, rfl⟩
  have ey1 : (pj_fi G0 171 48).toInt = y1.toInt := by rw [hy1]
  have ry1 : (0 : Int) ≤ y1.toInt ∧ y1.toInt ≤ 12 := by rw [hy1]; exact hI.2.1 171 48 (0, 12) rfl
  refine pj_X_of (fun r h => pj_R_to (G0, 2, [(0, .ref 171)], [.int (Int32.ofInt 0), .ref 171], 0, 0) 2 3 (fun _ => rfl) h) ?_
  refine pj_X_of (fun r h => pj_T_pf hI rfl rfl rfl h) ?_
  show pj_X _ _ (pj_wv G0 171 0 (.int (Int32.ofInt 0))) 5 [(0, .ref 171)] [] _
  obtain ⟨G2, hG2⟩ : ∃ H, H = pj_wv G0 171 0 (.int (Int32.ofInt 0)) := ⟨_, rfl⟩
  have iG2 : pj_Inv G2 := by rw [hG2]; exact pj_Inv_wi hI (ci := 12) rfl (fun q hq => by cases hq)
  have kG2 : pj_kpt kc_264q G0 G2 := by rw [hG2]; exact pj_kpt_v hK rfl
  rw [← hG2]
  refine pj_X_of (fun r h => pj_R_to (G2, 6, [(0, .ref 171)], [.ref 171], 0, 0) 6 2 (fun _ => rfl) h) ?_
  refine pj_X_of (fun r h => pj_T_gi iG2 rfl rfl h) ?_
  show pj_X _ _ G2 9 [(0, .ref 171)] [.int (pj_fi G2 171 48)] _
  refine pj_X_eqi (show pj_fi G2 171 48 = y1 from by rw [hG2, pj_fi_wv_ne _ _ _ _ _ _ (by decide)]; exact hy1.symm) ?_
  refine pj_X_of (fun r h => pj_R_to (G2, 12, [(1, .int y1), (0, .ref 171)], [.int (Int32.ofInt 0), .ref 171], 0, 0) 12 4 (fun _ => rfl) h) ?_
  refine pj_X_of (fun r h => pj_T_pf iG2 rfl rfl rfl h) ?_
  show pj_X _ _ (pj_wv G2 171 48 (.int (Int32.ofInt 0))) 15 [(1, .int y1), (0, .ref 171)] [] _
  obtain ⟨G3, hG3⟩ : ∃ H, H = pj_wv G2 171 48 (.int (Int32.ofInt 0)) := ⟨_, rfl⟩
  have iG3 : pj_Inv G3 := by rw [hG3]; exact pj_Inv_wi iG2 (ci := 12) rfl (fun q hq => by cases hq; exact ⟨by show (0 : Int) ≤ _; omega, by show _ ≤ (12 : Int); omega⟩)
  have kG3 : pj_kpt kc_264q G0 G3 := by rw [hG3]; exact pj_kpt_v kG2 rfl
  rw [← hG3]
  refine pj_X_of (fun r h => pj_R_to (G3, 16, [(1, .int y1), (0, .ref 171)], [.int y1], 0, 0) 16 2 (fun _ => rfl) h) ?_
  have q4 : (pj_fi G3 171 48).toInt = (Int32.ofInt 0).toInt := by rw [show pj_fi G3 171 48 = Int32.ofInt 0 from by rw [hG3]; exact pj_fi_wi iG2.1 (ci := 12) rfl _]
  exact pj_X_rt rfl rfl ⟨_, rfl, iG3, kG3, pj_i32 _, by omega⟩
