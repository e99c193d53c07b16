theorem lp_ct_256 (G0 : pj_G) (hI : pj_Inv G0) (c : Int32) (rc : (0 : Int) ≤ c.toInt ∧ c.toInt ≤ 9) : ∀ mn : Nat, (∀ (v2 : Int32) (v3 : Int32), ((-1 : Int) ≤ v2.toInt ∧ v2.toInt ≤ 9) → ((0 : Int) ≤ v3.toInt ∧ v3.toInt ≤ 10) → (0 ≤ v2.toInt → ((pj_ai G0 175 c.toInt.toNat).toInt < (pj_ai G0 175 v2.toInt.toNat).toInt ∨ ((pj_ai G0 175 c.toInt.toNat).toInt = (pj_ai G0 175 v2.toInt.toNat).toInt ∧ c.toInt < v2.toInt))) → 10 - v3.toInt < (mn : Int) → pj_X 0 pj_m256 G0 4 [(0, .ref 171), (1, .int c), (2, .int v2), (3, .int v3)] [] (fun v G' => ∃ y : Int32, v = some (.int y) ∧ G0 = G' ∧ ((-1 : Int) ≤ y.toInt ∧ y.toInt ≤ 9) ∧ (0 ≤ y.toInt → ((pj_ai G0 175 c.toInt.toNat).toInt < (pj_ai G0 175 y.toInt.toNat).toInt ∨ ((pj_ai G0 175 c.toInt.toNat).toInt = (pj_ai G0 175 y.toInt.toNat).toInt ∧ c.toInt < y.toInt))))) := by
  have c0_ : (Int32.ofInt (-1)).toInt = -1 := by decide
  have c1_ : (Int32.ofInt 0).toInt = 0 := by decide
  have c2_ : (Int32.ofInt 1).toInt = 1 := by decide
  have hK : pj_kpt ([], [], []) G0 G0 := pj_kpt_r _ _
  intro mn
  induction mn with
  | zero =>
    intro v2 v3 rv2 rv3 x0_ hm
    exfalso
    omega
  | succ mn ih =>
    intro v2 v3 rv2 rv3 x0_ hm
    refine pj_X_of (fun r h => pj_R_to (G0, 6, [(0, .ref 171), (1, .int c), (2, .int v2), (3, .int v3)], [.ref 171, .int v3], 0, 0) 6 3 (fun _ => rfl) h) ?_
    refine pj_X_of (fun r h => pj_T_gi hI rfl rfl h) ?_
    show pj_X _ _ G0 9 [(0, .ref 171), (1, .int c), (2, .int v2), (3, .int v3)] [.int (pj_fi G0 171 4), .int v3] _
    obtain ⟨y1, hy1⟩ : ∃ z : Int32, z = pj_fi G0 171 4 := ⟨_, rfl⟩
    refine pj_X_eqi hy1.symm ?_
    have ey1 : (pj_fi G0 171 4).toInt = y1.toInt := by rw [hy1]
    have ry1 : (0 : Int) ≤ y1.toInt ∧ y1.toInt ≤ 10 := by rw [hy1]; exact hI.2.1 171 4 (0, 10) rfl
    cases b2 : pj_c1 .ge v3 y1 with
    | true =>
      have ub2 := pj_u_geT b2
      refine pj_X_of (fun r h => pj_R_icT 102 rfl rfl b2 h) ?_
      refine pj_X_of (fun r h => pj_R_to (G0, 103, [(0, .ref 171), (1, .int c), (2, .int v2), (3, .int v3)], [.int v2], 0, 0) 103 2 (fun _ => rfl) h) ?_
      exact pj_X_rt rfl rfl ⟨_, rfl, rfl, ⟨by omega, by omega⟩, x0_⟩
    | false =>
      have ub2 := pj_u_geF b2
      refine pj_X_of (fun r h => pj_R_icF rfl b2 h) ?_
      refine pj_X_of (fun r h => pj_R_to (G0, 13, [(0, .ref 171), (1, .int c), (2, .int v2), (3, .int v3)], [.ref 171], 0, 0) 13 2 (fun _ => rfl) h) ?_
      refine pj_X_of (fun r h => pj_T_gr hI rfl rfl rfl h) ?_
      refine pj_X_of (fun r h => pj_R_to (G0, 17, [(0, .ref 171), (1, .int c), (2, .int v2), (3, .int v3)], [.int v3, .ref 175], 0, 0) 17 2 (fun _ => rfl) h) ?_
      refine pj_X_of (fun r h => pj_T_il hI rfl rfl (by omega) (by omega) h) ?_
      show pj_X _ _ G0 18 [(0, .ref 171), (1, .int c), (2, .int v2), (3, .int v3)] [.int (pj_ai G0 175 v3.toInt.toNat)] _
      obtain ⟨z3, hz3⟩ : ∃ z : Int32, z = pj_ai G0 175 v3.toInt.toNat := ⟨_, rfl⟩
      refine pj_X_eqi hz3.symm ?_
      have ez3 : (pj_ai G0 175 v3.toInt.toNat).toInt = z3.toInt := by rw [hz3]
      have fz3_0 : (0 : Int) ≤ z3.toInt ∧ z3.toInt ≤ 99 ∧ (z3.toInt ≤ 0 ∨ 0 ≤ z3.toInt) := by rw [hz3]; exact hI.2.2.1 175 (10, 0, 99, 0, 0) rfl _ (by show _ < 10; omega)
      refine pj_X_of (fun r h => pj_R_to (G0, 19, [(0, .ref 171), (1, .int c), (2, .int v2), (3, .int v3)], [.ref 171, .int z3], 0, 0) 19 2 (fun _ => rfl) h) ?_
      refine pj_X_of (fun r h => pj_T_gr hI rfl rfl rfl h) ?_
      refine pj_X_of (fun r h => pj_R_to (G0, 23, [(0, .ref 171), (1, .int c), (2, .int v2), (3, .int v3)], [.int c, .ref 175, .int z3], 0, 0) 23 2 (fun _ => rfl) h) ?_
      refine pj_X_of (fun r h => pj_T_il hI rfl rfl (by omega) (by omega) h) ?_
      show pj_X _ _ G0 24 [(0, .ref 171), (1, .int c), (2, .int v2), (3, .int v3)] [.int (pj_ai G0 175 c.toInt.toNat), .int z3] _
      obtain ⟨z4, hz4⟩ : ∃ z : Int32, z = pj_ai G0 175 c.toInt.toNat := ⟨_, rfl⟩
      refine pj_X_eqi hz4.symm ?_
      have ez4 : (pj_ai G0 175 c.toInt.toNat).toInt = z4.toInt := by rw [hz4]
      have fz4_0 : (0 : Int) ≤ z4.toInt ∧ z4.toInt ≤ 99 ∧ (z4.toInt ≤ 0 ∨ 0 ≤ z4.toInt) := by rw [hz4]; exact hI.2.2.1 175 (10, 0, 99, 0, 0) rfl _ (by show _ < 10; omega)
      cases b5 : pj_c1 .gt z3 z4 with
      | true =>
        have ub5 := pj_u_gtT b5
        refine pj_X_of (fun r h => pj_R_icT 47 rfl rfl b5 h) ?_
        refine pj_X_of (fun r h => pj_R_to (G0, 55, [(4, .int (Int32.ofInt 1)), (0, .ref 171), (1, .int c), (2, .int v2), (3, .int v3)], [.int v2], 0, 0) 55 5 (fun _ => rfl) h) ?_
        cases b6 : pj_c1 .lt v2 0 with
        | true =>
          have ub6 := pj_u0_ltT b6
          refine pj_X_of (fun r h => pj_R_ifT 73 rfl rfl b6 h) ?_
          refine pj_X_of (fun r h => pj_R_to (G0, 82, [(5, .int (Int32.ofInt 1)), (4, .int (Int32.ofInt 1)), (0, .ref 171), (1, .int c), (2, .int v2), (3, .int v3)], [.int (Int32.ofInt 1)], 0, 0) 82 5 (fun _ => rfl) h) ?_
          refine pj_X_of (fun r h => pj_R_ifF rfl (pj_b0_eqF (by omega)) h) ?_
          refine pj_X_of (fun r h => pj_R_to (G0, 87, [(5, .int (Int32.ofInt 1)), (4, .int (Int32.ofInt 1)), (0, .ref 171), (1, .int c), (2, .int v2), (3, .int v3)], [.int (Int32.ofInt 1)], 0, 0) 87 2 (fun _ => rfl) h) ?_
          refine pj_X_of (fun r h => pj_R_ifF rfl (pj_b0_eqF (by omega)) h) ?_
          refine pj_X_of (fun r h => pj_R_to (G0, 99, [(3, .int (v3 + Int32.ofInt 1)), (2, .int v3), (5, .int (Int32.ofInt 1)), (4, .int (Int32.ofInt 1)), (0, .ref 171), (1, .int c)], [], 0, 0) 99 5 (fun _ => rfl) h) ?_
          obtain ⟨z7, hz7⟩ : ∃ z : Int32, z = v3 + Int32.ofInt 1 := ⟨_, rfl⟩
          rw [← hz7]
          have fz7_0 : z7.toInt = v3.toInt + (Int32.ofInt 1).toInt := by rw [hz7]; exact pj_addI (by have := pj_i32 v3; have := pj_i32 (Int32.ofInt 1); omega) (by have := pj_i32 v3; have := pj_i32 (Int32.ofInt 1); omega)
          refine pj_X_of (fun r h => pj_R_to (G0, 4, [(3, .int z7), (2, .int v3), (5, .int (Int32.ofInt 1)), (4, .int (Int32.ofInt 1)), (0, .ref 171), (1, .int c)], [], 0, 0) 4 2 (fun _ => rfl) h) ?_
          exact pj_X_sub [(0, .ref 171), (1, .int c), (2, .int v3), (3, .int z7)] (show List.Nodup [0, 1, 2, 3] by decide) ⟨rfl, rfl, rfl, rfl, trivial⟩ (ih v3 z7 ⟨by omega, by omega⟩ ⟨by omega, by omega⟩ (fun _ => by omega) (by omega))
        | false =>
          have ub6 := pj_u0_ltF b6
          refine pj_X_of (fun r h => pj_R_ifF rfl b6 h) ?_
          refine pj_X_of (fun r h => pj_R_to (G0, 59, [(4, .int (Int32.ofInt 1)), (0, .ref 171), (1, .int c), (2, .int v2), (3, .int v3)], [.ref 171], 0, 0) 59 2 (fun _ => rfl) h) ?_
          refine pj_X_of (fun r h => pj_T_gr hI rfl rfl rfl h) ?_
          refine pj_X_of (fun r h => pj_R_to (G0, 63, [(4, .int (Int32.ofInt 1)), (0, .ref 171), (1, .int c), (2, .int v2), (3, .int v3)], [.int v3, .ref 175], 0, 0) 63 2 (fun _ => rfl) h) ?_
          refine pj_X_of (fun r h => pj_T_il hI rfl rfl (by omega) (by omega) h) ?_
          show pj_X _ _ G0 64 [(4, .int (Int32.ofInt 1)), (0, .ref 171), (1, .int c), (2, .int v2), (3, .int v3)] [.int (pj_ai G0 175 v3.toInt.toNat)] _
          refine pj_X_eqi hz3.symm ?_
          refine pj_X_of (fun r h => pj_R_to (G0, 65, [(4, .int (Int32.ofInt 1)), (0, .ref 171), (1, .int c), (2, .int v2), (3, .int v3)], [.ref 171, .int z3], 0, 0) 65 2 (fun _ => rfl) h) ?_
          refine pj_X_of (fun r h => pj_T_gr hI rfl rfl rfl h) ?_
          refine pj_X_of (fun r h => pj_R_to (G0, 69, [(4, .int (Int32.ofInt 1)), (0, .ref 171), (1, .int c), (2, .int v2), (3, .int v3)], [.int v2, .ref 175, .int z3], 0, 0) 69 2 (fun _ => rfl) h) ?_
          refine pj_X_of (fun r h => pj_T_il hI rfl rfl (by omega) (by omega) h) ?_
          show pj_X _ _ G0 70 [(4, .int (Int32.ofInt 1)), (0, .ref 171), (1, .int c), (2, .int v2), (3, .int v3)] [.int (pj_ai G0 175 v2.toInt.toNat), .int z3] _
          obtain ⟨z8, hz8⟩ : ∃ z : Int32, z = pj_ai G0 175 v2.toInt.toNat := ⟨_, rfl⟩
          refine pj_X_eqi hz8.symm ?_
          have ez8 : (pj_ai G0 175 v2.toInt.toNat).toInt = z8.toInt := by rw [hz8]
          have fz8_0 : (0 : Int) ≤ z8.toInt ∧ z8.toInt ≤ 99 ∧ (z8.toInt ≤ 0 ∨ 0 ≤ z8.toInt) := by rw [hz8]; exact hI.2.2.1 175 (10, 0, 99, 0, 0) rfl _ (by show _ < 10; omega)
          cases b9 : pj_c1 .ge z3 z8 with
          | true =>
            have ub9 := pj_u_geT b9
            refine pj_X_of (fun r h => pj_R_icT 77 rfl rfl b9 h) ?_
            refine pj_X_of (fun r h => pj_R_to (G0, 82, [(5, .int (Int32.ofInt 0)), (4, .int (Int32.ofInt 1)), (0, .ref 171), (1, .int c), (2, .int v2), (3, .int v3)], [.int (Int32.ofInt 1)], 0, 0) 82 4 (fun _ => rfl) h) ?_
            refine pj_X_of (fun r h => pj_R_ifF rfl (pj_b0_eqF (by omega)) h) ?_
            refine pj_X_of (fun r h => pj_R_to (G0, 87, [(5, .int (Int32.ofInt 0)), (4, .int (Int32.ofInt 1)), (0, .ref 171), (1, .int c), (2, .int v2), (3, .int v3)], [.int (Int32.ofInt 0)], 0, 0) 87 2 (fun _ => rfl) h) ?_
            refine pj_X_of (fun r h => pj_R_ifT 94 rfl rfl (pj_b0_eqT (by omega)) h) ?_
            refine pj_X_of (fun r h => pj_R_to (G0, 99, [(3, .int (v3 + Int32.ofInt 1)), (2, .int v2), (5, .int (Int32.ofInt 0)), (4, .int (Int32.ofInt 1)), (0, .ref 171), (1, .int c)], [], 0, 0) 99 4 (fun _ => rfl) h) ?_
            obtain ⟨z10, hz10⟩ : ∃ z : Int32, z = v3 + Int32.ofInt 1 := ⟨_, rfl⟩
            rw [← hz10]
            have fz10_0 : z10.toInt = v3.toInt + (Int32.ofInt 1).toInt := by rw [hz10]; exact pj_addI (by have := pj_i32 v3; have := pj_i32 (Int32.ofInt 1); omega) (by have := pj_i32 v3; have := pj_i32 (Int32.ofInt 1); omega)
            refine pj_X_of (fun r h => pj_R_to (G0, 4, [(3, .int z10), (2, .int v2), (5, .int (Int32.ofInt 0)), (4, .int (Int32.ofInt 1)), (0, .ref 171), (1, .int c)], [], 0, 0) 4 2 (fun _ => rfl) h) ?_
            exact pj_X_sub [(0, .ref 171), (1, .int c), (2, .int v2), (3, .int z10)] (show List.Nodup [0, 1, 2, 3] by decide) ⟨rfl, rfl, rfl, rfl, trivial⟩ (ih v2 z10 ⟨by omega, by omega⟩ ⟨by omega, by omega⟩ x0_ (by omega))
          | false =>
            have ub9 := pj_u_geF b9
            refine pj_X_of (fun r h => pj_R_icF rfl b9 h) ?_
            refine pj_X_of (fun r h => pj_R_to (G0, 82, [(5, .int (Int32.ofInt 1)), (4, .int (Int32.ofInt 1)), (0, .ref 171), (1, .int c), (2, .int v2), (3, .int v3)], [.int (Int32.ofInt 1)], 0, 0) 82 5 (fun _ => rfl) h) ?_
            refine pj_X_of (fun r h => pj_R_ifF rfl (pj_b0_eqF (by omega)) h) ?_
            refine pj_X_of (fun r h => pj_R_to (G0, 87, [(5, .int (Int32.ofInt 1)), (4, .int (Int32.ofInt 1)), (0, .ref 171), (1, .int c), (2, .int v2), (3, .int v3)], [.int (Int32.ofInt 1)], 0, 0) 87 2 (fun _ => rfl) h) ?_
            refine pj_X_of (fun r h => pj_R_ifF rfl (pj_b0_eqF (by omega)) h) ?_
            refine pj_X_of (fun r h => pj_R_to (G0, 99, [(3, .int (v3 + Int32.ofInt 1)), (2, .int v3), (5, .int (Int32.ofInt 1)), (4, .int (Int32.ofInt 1)), (0, .ref 171), (1, .int c)], [], 0, 0) 99 5 (fun _ => rfl) h) ?_
            obtain ⟨z11, hz11⟩ : ∃ z : Int32, z = v3 + Int32.ofInt 1 := ⟨_, rfl⟩
            rw [← hz11]
            have fz11_0 : z11.toInt = v3.toInt + (Int32.ofInt 1).toInt := by rw [hz11]; exact pj_addI (by have := pj_i32 v3; have := pj_i32 (Int32.ofInt 1); omega) (by have := pj_i32 v3; have := pj_i32 (Int32.ofInt 1); omega)
            refine pj_X_of (fun r h => pj_R_to (G0, 4, [(3, .int z11), (2, .int v3), (5, .int (Int32.ofInt 1)), (4, .int (Int32.ofInt 1)), (0, .ref 171), (1, .int c)], [], 0, 0) 4 2 (fun _ => rfl) h) ?_
            exact pj_X_sub [(0, .ref 171), (1, .int c), (2, .int v3), (3, .int z11)] (show List.Nodup [0, 1, 2, 3] by decide) ⟨rfl, rfl, rfl, rfl, trivial⟩ (ih v3 z11 ⟨by omega, by omega⟩ ⟨by omega, by omega⟩ (fun _ => by omega) (by omega))
      | false =>
        have ub5 := pj_u_gtF b5
        refine pj_X_of (fun r h => pj_R_icF rfl b5 h) ?_
        refine pj_X_of (fun r h => pj_R_to (G0, 28, [(0, .ref 171), (1, .int c), (2, .int v2), (3, .int v3)], [.ref 171], 0, 0) 28 2 (fun _ => rfl) h) ?_
        refine pj_X_of (fun r h => pj_T_gr hI rfl rfl rfl h) ?_
        refine pj_X_of (fun r h => pj_R_to (G0, 32, [(0, .ref 171), (1, .int c), (2, .int v2), (3, .int v3)], [.int v3, .ref 175], 0, 0) 32 2 (fun _ => rfl) h) ?_
        refine pj_X_of (fun r h => pj_T_il hI rfl rfl (by omega) (by omega) h) ?_
        show pj_X _ _ G0 33 [(0, .ref 171), (1, .int c), (2, .int v2), (3, .int v3)] [.int (pj_ai G0 175 v3.toInt.toNat)] _
        refine pj_X_eqi hz3.symm ?_
        refine pj_X_of (fun r h => pj_R_to (G0, 34, [(0, .ref 171), (1, .int c), (2, .int v2), (3, .int v3)], [.ref 171, .int z3], 0, 0) 34 2 (fun _ => rfl) h) ?_
        refine pj_X_of (fun r h => pj_T_gr hI rfl rfl rfl h) ?_
        refine pj_X_of (fun r h => pj_R_to (G0, 38, [(0, .ref 171), (1, .int c), (2, .int v2), (3, .int v3)], [.int c, .ref 175, .int z3], 0, 0) 38 2 (fun _ => rfl) h) ?_
        refine pj_X_of (fun r h => pj_T_il hI rfl rfl (by omega) (by omega) h) ?_
        show pj_X _ _ G0 39 [(0, .ref 171), (1, .int c), (2, .int v2), (3, .int v3)] [.int (pj_ai G0 175 c.toInt.toNat), .int z3] _
        refine pj_X_eqi hz4.symm ?_
        cases b12 : pj_c1 .ne z3 z4 with
        | true =>
          have ub12 := pj_u_neT b12
          refine pj_X_of (fun r h => pj_R_icT 51 rfl rfl b12 h) ?_
          refine pj_X_of (fun r h => pj_R_to (G0, 55, [(4, .int (Int32.ofInt 0)), (0, .ref 171), (1, .int c), (2, .int v2), (3, .int v3)], [.int v2], 0, 0) 55 4 (fun _ => rfl) h) ?_
          cases b13 : pj_c1 .lt v2 0 with
          | true =>
            have ub13 := pj_u0_ltT b13
            refine pj_X_of (fun r h => pj_R_ifT 73 rfl rfl b13 h) ?_
            refine pj_X_of (fun r h => pj_R_to (G0, 82, [(5, .int (Int32.ofInt 1)), (4, .int (Int32.ofInt 0)), (0, .ref 171), (1, .int c), (2, .int v2), (3, .int v3)], [.int (Int32.ofInt 0)], 0, 0) 82 5 (fun _ => rfl) h) ?_
            refine pj_X_of (fun r h => pj_R_ifT 94 rfl rfl (pj_b0_eqT (by omega)) h) ?_
            refine pj_X_of (fun r h => pj_R_to (G0, 99, [(3, .int (v3 + Int32.ofInt 1)), (2, .int v2), (5, .int (Int32.ofInt 1)), (4, .int (Int32.ofInt 0)), (0, .ref 171), (1, .int c)], [], 0, 0) 99 4 (fun _ => rfl) h) ?_
            obtain ⟨z14, hz14⟩ : ∃ z : Int32, z = v3 + Int32.ofInt 1 := ⟨_, rfl⟩
            rw [← hz14]
            have fz14_0 : z14.toInt = v3.toInt + (Int32.ofInt 1).toInt := by rw [hz14]; exact pj_addI (by have := pj_i32 v3; have := pj_i32 (Int32.ofInt 1); omega) (by have := pj_i32 v3; have := pj_i32 (Int32.ofInt 1); omega)
            refine pj_X_of (fun r h => pj_R_to (G0, 4, [(3, .int z14), (2, .int v2), (5, .int (Int32.ofInt 1)), (4, .int (Int32.ofInt 0)), (0, .ref 171), (1, .int c)], [], 0, 0) 4 2 (fun _ => rfl) h) ?_
            exact pj_X_sub [(0, .ref 171), (1, .int c), (2, .int v2), (3, .int z14)] (show List.Nodup [0, 1, 2, 3] by decide) ⟨rfl, rfl, rfl, rfl, trivial⟩ (ih v2 z14 ⟨by omega, by omega⟩ ⟨by omega, by omega⟩ x0_ (by omega))
          | false =>
            have ub13 := pj_u0_ltF b13
            refine pj_X_of (fun r h => pj_R_ifF rfl b13 h) ?_
            refine pj_X_of (fun r h => pj_R_to (G0, 59, [(4, .int (Int32.ofInt 0)), (0, .ref 171), (1, .int c), (2, .int v2), (3, .int v3)], [.ref 171], 0, 0) 59 2 (fun _ => rfl) h) ?_
            refine pj_X_of (fun r h => pj_T_gr hI rfl rfl rfl h) ?_
            refine pj_X_of (fun r h => pj_R_to (G0, 63, [(4, .int (Int32.ofInt 0)), (0, .ref 171), (1, .int c), (2, .int v2), (3, .int v3)], [.int v3, .ref 175], 0, 0) 63 2 (fun _ => rfl) h) ?_
            refine pj_X_of (fun r h => pj_T_il hI rfl rfl (by omega) (by omega) h) ?_
            show pj_X _ _ G0 64 [(4, .int (Int32.ofInt 0)), (0, .ref 171), (1, .int c), (2, .int v2), (3, .int v3)] [.int (pj_ai G0 175 v3.toInt.toNat)] _
            refine pj_X_eqi hz3.symm ?_
            refine pj_X_of (fun r h => pj_R_to (G0, 65, [(4, .int (Int32.ofInt 0)), (0, .ref 171), (1, .int c), (2, .int v2), (3, .int v3)], [.ref 171, .int z3], 0, 0) 65 2 (fun _ => rfl) h) ?_
            refine pj_X_of (fun r h => pj_T_gr hI rfl rfl rfl h) ?_
            refine pj_X_of (fun r h => pj_R_to (G0, 69, [(4, .int (Int32.ofInt 0)), (0, .ref 171), (1, .int c), (2, .int v2), (3, .int v3)], [.int v2, .ref 175, .int z3], 0, 0) 69 2 (fun _ => rfl) h) ?_
            refine pj_X_of (fun r h => pj_T_il hI rfl rfl (by omega) (by omega) h) ?_
            show pj_X _ _ G0 70 [(4, .int (Int32.ofInt 0)), (0, .ref 171), (1, .int c), (2, .int v2), (3, .int v3)] [.int (pj_ai G0 175 v2.toInt.toNat), .int z3] _
            obtain ⟨z15, hz15⟩ : ∃ z : Int32, z = pj_ai G0 175 v2.toInt.toNat := ⟨_, rfl⟩
            refine pj_X_eqi hz15.symm ?_
            have ez15 : (pj_ai G0 175 v2.toInt.toNat).toInt = z15.toInt := by rw [hz15]
            have fz15_0 : (0 : Int) ≤ z15.toInt ∧ z15.toInt ≤ 99 ∧ (z15.toInt ≤ 0 ∨ 0 ≤ z15.toInt) := by rw [hz15]; exact hI.2.2.1 175 (10, 0, 99, 0, 0) rfl _ (by show _ < 10; omega)
            cases b16 : pj_c1 .ge z3 z15 with
            | true =>
              have ub16 := pj_u_geT b16
              refine pj_X_of (fun r h => pj_R_icT 77 rfl rfl b16 h) ?_
              refine pj_X_of (fun r h => pj_R_to (G0, 82, [(5, .int (Int32.ofInt 0)), (4, .int (Int32.ofInt 0)), (0, .ref 171), (1, .int c), (2, .int v2), (3, .int v3)], [.int (Int32.ofInt 0)], 0, 0) 82 4 (fun _ => rfl) h) ?_
              refine pj_X_of (fun r h => pj_R_ifT 94 rfl rfl (pj_b0_eqT (by omega)) h) ?_
              refine pj_X_of (fun r h => pj_R_to (G0, 99, [(3, .int (v3 + Int32.ofInt 1)), (2, .int v2), (5, .int (Int32.ofInt 0)), (4, .int (Int32.ofInt 0)), (0, .ref 171), (1, .int c)], [], 0, 0) 99 4 (fun _ => rfl) h) ?_
              obtain ⟨z17, hz17⟩ : ∃ z : Int32, z = v3 + Int32.ofInt 1 := ⟨_, rfl⟩
              rw [← hz17]
              have fz17_0 : z17.toInt = v3.toInt + (Int32.ofInt 1).toInt := by rw [hz17]; exact pj_addI (by have := pj_i32 v3; have := pj_i32 (Int32.ofInt 1); omega) (by have := pj_i32 v3; have := pj_i32 (Int32.ofInt 1); omega)
              refine pj_X_of (fun r h => pj_R_to (G0, 4, [(3, .int z17), (2, .int v2), (5, .int (Int32.ofInt 0)), (4, .int (Int32.ofInt 0)), (0, .ref 171), (1, .int c)], [], 0, 0) 4 2 (fun _ => rfl) h) ?_
              exact pj_X_sub [(0, .ref 171), (1, .int c), (2, .int v2), (3, .int z17)] (show List.Nodup [0, 1, 2, 3] by decide) ⟨rfl, rfl, rfl, rfl, trivial⟩ (ih v2 z17 ⟨by omega, by omega⟩ ⟨by omega, by omega⟩ x0_ (by omega))
            | false =>
              have ub16 := pj_u_geF b16
              refine pj_X_of (fun r h => pj_R_icF rfl b16 h) ?_
              refine pj_X_of (fun r h => pj_R_to (G0, 82, [(5, .int (Int32.ofInt 1)), (4, .int (Int32.ofInt 0)), (0, .ref 171), (1, .int c), (2, .int v2), (3, .int v3)], [.int (Int32.ofInt 0)], 0, 0) 82 5 (fun _ => rfl) h) ?_
              refine pj_X_of (fun r h => pj_R_ifT 94 rfl rfl (pj_b0_eqT (by omega)) h) ?_
              refine pj_X_of (fun r h => pj_R_to (G0, 99, [(3, .int (v3 + Int32.ofInt 1)), (2, .int v2), (5, .int (Int32.ofInt 1)), (4, .int (Int32.ofInt 0)), (0, .ref 171), (1, .int c)], [], 0, 0) 99 4 (fun _ => rfl) h) ?_
              obtain ⟨z18, hz18⟩ : ∃ z : Int32, z = v3 + Int32.ofInt 1 := ⟨_, rfl⟩
              rw [← hz18]
              have fz18_0 : z18.toInt = v3.toInt + (Int32.ofInt 1).toInt := by rw [hz18]; exact pj_addI (by have := pj_i32 v3; have := pj_i32 (Int32.ofInt 1); omega) (by have := pj_i32 v3; have := pj_i32 (Int32.ofInt 1); omega)
              refine pj_X_of (fun r h => pj_R_to (G0, 4, [(3, .int z18), (2, .int v2), (5, .int (Int32.ofInt 1)), (4, .int (Int32.ofInt 0)), (0, .ref 171), (1, .int c)], [], 0, 0) 4 2 (fun _ => rfl) h) ?_
              exact pj_X_sub [(0, .ref 171), (1, .int c), (2, .int v2), (3, .int z18)] (show List.Nodup [0, 1, 2, 3] by decide) ⟨rfl, rfl, rfl, rfl, trivial⟩ (ih v2 z18 ⟨by omega, by omega⟩ ⟨by omega, by omega⟩ x0_ (by omega))
        | false =>
          have ub12 := pj_u_neF b12
          refine pj_X_of (fun r h => pj_R_icF rfl b12 h) ?_
          refine pj_X_of (fun r h => pj_R_to (G0, 44, [(0, .ref 171), (1, .int c), (2, .int v2), (3, .int v3)], [.int c, .int v3], 0, 0) 44 3 (fun _ => rfl) h) ?_
          cases b19 : pj_c1 .le v3 c with
          | true =>
            have ub19 := pj_u_leT b19
            refine pj_X_of (fun r h => pj_R_icT 51 rfl rfl b19 h) ?_
            refine pj_X_of (fun r h => pj_R_to (G0, 55, [(4, .int (Int32.ofInt 0)), (0, .ref 171), (1, .int c), (2, .int v2), (3, .int v3)], [.int v2], 0, 0) 55 4 (fun _ => rfl) h) ?_
            cases b20 : pj_c1 .lt v2 0 with
            | true =>
              have ub20 := pj_u0_ltT b20
              refine pj_X_of (fun r h => pj_R_ifT 73 rfl rfl b20 h) ?_
              refine pj_X_of (fun r h => pj_R_to (G0, 82, [(5, .int (Int32.ofInt 1)), (4, .int (Int32.ofInt 0)), (0, .ref 171), (1, .int c), (2, .int v2), (3, .int v3)], [.int (Int32.ofInt 0)], 0, 0) 82 5 (fun _ => rfl) h) ?_
              refine pj_X_of (fun r h => pj_R_ifT 94 rfl rfl (pj_b0_eqT (by omega)) h) ?_
              refine pj_X_of (fun r h => pj_R_to (G0, 99, [(3, .int (v3 + Int32.ofInt 1)), (2, .int v2), (5, .int (Int32.ofInt 1)), (4, .int (Int32.ofInt 0)), (0, .ref 171), (1, .int c)], [], 0, 0) 99 4 (fun _ => rfl) h) ?_
              obtain ⟨z21, hz21⟩ : ∃ z : Int32, z = v3 + Int32.ofInt 1 := ⟨_, rfl⟩
              rw [← hz21]
              have fz21_0 : z21.toInt = v3.toInt + (Int32.ofInt 1).toInt := by rw [hz21]; exact pj_addI (by have := pj_i32 v3; have := pj_i32 (Int32.ofInt 1); omega) (by have := pj_i32 v3; have := pj_i32 (Int32.ofInt 1); omega)
              refine pj_X_of (fun r h => pj_R_to (G0, 4, [(3, .int z21), (2, .int v2), (5, .int (Int32.ofInt 1)), (4, .int (Int32.ofInt 0)), (0, .ref 171), (1, .int c)], [], 0, 0) 4 2 (fun _ => rfl) h) ?_
              exact pj_X_sub [(0, .ref 171), (1, .int c), (2, .int v2), (3, .int z21)] (show List.Nodup [0, 1, 2, 3] by decide) ⟨rfl, rfl, rfl, rfl, trivial⟩ (ih v2 z21 ⟨by omega, by omega⟩ ⟨by omega, by omega⟩ x0_ (by omega))
            | false =>
              have ub20 := pj_u0_ltF b20
              refine pj_X_of (fun r h => pj_R_ifF rfl b20 h) ?_
              refine pj_X_of (fun r h => pj_R_to (G0, 59, [(4, .int (Int32.ofInt 0)), (0, .ref 171), (1, .int c), (2, .int v2), (3, .int v3)], [.ref 171], 0, 0) 59 2 (fun _ => rfl) h) ?_
              refine pj_X_of (fun r h => pj_T_gr hI rfl rfl rfl h) ?_
              refine pj_X_of (fun r h => pj_R_to (G0, 63, [(4, .int (Int32.ofInt 0)), (0, .ref 171), (1, .int c), (2, .int v2), (3, .int v3)], [.int v3, .ref 175], 0, 0) 63 2 (fun _ => rfl) h) ?_
              refine pj_X_of (fun r h => pj_T_il hI rfl rfl (by omega) (by omega) h) ?_
              show pj_X _ _ G0 64 [(4, .int (Int32.ofInt 0)), (0, .ref 171), (1, .int c), (2, .int v2), (3, .int v3)] [.int (pj_ai G0 175 v3.toInt.toNat)] _
              refine pj_X_eqi hz3.symm ?_
              refine pj_X_of (fun r h => pj_R_to (G0, 65, [(4, .int (Int32.ofInt 0)), (0, .ref 171), (1, .int c), (2, .int v2), (3, .int v3)], [.ref 171, .int z3], 0, 0) 65 2 (fun _ => rfl) h) ?_
              refine pj_X_of (fun r h => pj_T_gr hI rfl rfl rfl h) ?_
              refine pj_X_of (fun r h => pj_R_to (G0, 69, [(4, .int (Int32.ofInt 0)), (0, .ref 171), (1, .int c), (2, .int v2), (3, .int v3)], [.int v2, .ref 175, .int z3], 0, 0) 69 2 (fun _ => rfl) h) ?_
              refine pj_X_of (fun r h => pj_T_il hI rfl rfl (by omega) (by omega) h) ?_
              show pj_X _ _ G0 70 [(4, .int (Int32.ofInt 0)), (0, .ref 171), (1, .int c), (2, .int v2), (3, .int v3)] [.int (pj_ai G0 175 v2.toInt.toNat), .int z3] _
              obtain ⟨z22, hz22⟩ : ∃ z : Int32, z = pj_ai G0 175 v2.toInt.toNat := ⟨_, rfl⟩
              refine pj_X_eqi hz22.symm ?_
              have ez22 : (pj_ai G0 175 v2.toInt.toNat).toInt = z22.toInt := by rw [hz22]
              have fz22_0 : (0 : Int) ≤ z22.toInt ∧ z22.toInt ≤ 99 ∧ (z22.toInt ≤ 0 ∨ 0 ≤ z22.toInt) := by rw [hz22]; exact hI.2.2.1 175 (10, 0, 99, 0, 0) rfl _ (by show _ < 10; omega)
              cases b23 : pj_c1 .ge z3 z22 with
              | true =>
                have ub23 := pj_u_geT b23
                refine pj_X_of (fun r h => pj_R_icT 77 rfl rfl b23 h) ?_
                refine pj_X_of (fun r h => pj_R_to (G0, 82, [(5, .int (Int32.ofInt 0)), (4, .int (Int32.ofInt 0)), (0, .ref 171), (1, .int c), (2, .int v2), (3, .int v3)], [.int (Int32.ofInt 0)], 0, 0) 82 4 (fun _ => rfl) h) ?_
                refine pj_X_of (fun r h => pj_R_ifT 94 rfl rfl (pj_b0_eqT (by omega)) h) ?_
                refine pj_X_of (fun r h => pj_R_to (G0, 99, [(3, .int (v3 + Int32.ofInt 1)), (2, .int v2), (5, .int (Int32.ofInt 0)), (4, .int (Int32.ofInt 0)), (0, .ref 171), (1, .int c)], [], 0, 0) 99 4 (fun _ => rfl) h) ?_
                obtain ⟨z24, hz24⟩ : ∃ z : Int32, z = v3 + Int32.ofInt 1 := ⟨_, rfl⟩
                rw [← hz24]
                have fz24_0 : z24.toInt = v3.toInt + (Int32.ofInt 1).toInt := by rw [hz24]; exact pj_addI (by have := pj_i32 v3; have := pj_i32 (Int32.ofInt 1); omega) (by have := pj_i32 v3; have := pj_i32 (Int32.ofInt 1); omega)
                refine pj_X_of (fun r h => pj_R_to (G0, 4, [(3, .int z24), (2, .int v2), (5, .int (Int32.ofInt 0)), (4, .int (Int32.ofInt 0)), (0, .ref 171), (1, .int c)], [], 0, 0) 4 2 (fun _ => rfl) h) ?_
                exact pj_X_sub [(0, .ref 171), (1, .int c), (2, .int v2), (3, .int z24)] (show List.Nodup [0, 1, 2, 3] by decide) ⟨rfl, rfl, rfl, rfl, trivial⟩ (ih v2 z24 ⟨by omega, by omega⟩ ⟨by omega, by omega⟩ x0_ (by omega))
              | false =>
                have ub23 := pj_u_geF b23
                refine pj_X_of (fun r h => pj_R_icF rfl b23 h) ?_
                refine pj_X_of (fun r h => pj_R_to (G0, 82, [(5, .int (Int32.ofInt 1)), (4, .int (Int32.ofInt 0)), (0, .ref 171), (1, .int c), (2, .int v2), (3, .int v3)], [.int (Int32.ofInt 0)], 0, 0) 82 5 (fun _ => rfl) h) ?_
                refine pj_X_of (fun r h => pj_R_ifT 94 rfl rfl (pj_b0_eqT (by omega)) h) ?_
                refine pj_X_of (fun r h => pj_R_to (G0, 99, [(3, .int (v3 + Int32.ofInt 1)), (2, .int v2), (5, .int (Int32.ofInt 1)), (4, .int (Int32.ofInt 0)), (0, .ref 171), (1, .int c)], [], 0, 0) 99 4 (fun _ => rfl) h) ?_
                obtain ⟨z25, hz25⟩ : ∃ z : Int32, z = v3 + Int32.ofInt 1 := ⟨_, rfl⟩
                rw [← hz25]
                have fz25_0 : z25.toInt = v3.toInt + (Int32.ofInt 1).toInt := by rw [hz25]; exact pj_addI (by have := pj_i32 v3; have := pj_i32 (Int32.ofInt 1); omega) (by have := pj_i32 v3; have := pj_i32 (Int32.ofInt 1); omega)
                refine pj_X_of (fun r h => pj_R_to (G0, 4, [(3, .int z25), (2, .int v2), (5, .int (Int32.ofInt 1)), (4, .int (Int32.ofInt 0)), (0, .ref 171), (1, .int c)], [], 0, 0) 4 2 (fun _ => rfl) h) ?_
                exact pj_X_sub [(0, .ref 171), (1, .int c), (2, .int v2), (3, .int z25)] (show List.Nodup [0, 1, 2, 3] by decide) ⟨rfl, rfl, rfl, rfl, trivial⟩ (ih v2 z25 ⟨by omega, by omega⟩ ⟨by omega, by omega⟩ x0_ (by omega))
          | false =>
            have ub19 := pj_u_leF b19
            refine pj_X_of (fun r h => pj_R_icF rfl b19 h) ?_
            refine pj_X_of (fun r h => pj_R_to (G0, 55, [(4, .int (Int32.ofInt 1)), (0, .ref 171), (1, .int c), (2, .int v2), (3, .int v3)], [.int v2], 0, 0) 55 5 (fun _ => rfl) h) ?_
            cases b26 : pj_c1 .lt v2 0 with
            | true =>
              have ub26 := pj_u0_ltT b26
              refine pj_X_of (fun r h => pj_R_ifT 73 rfl rfl b26 h) ?_
              refine pj_X_of (fun r h => pj_R_to (G0, 82, [(5, .int (Int32.ofInt 1)), (4, .int (Int32.ofInt 1)), (0, .ref 171), (1, .int c), (2, .int v2), (3, .int v3)], [.int (Int32.ofInt 1)], 0, 0) 82 5 (fun _ => rfl) h) ?_
              refine pj_X_of (fun r h => pj_R_ifF rfl (pj_b0_eqF (by omega)) h) ?_
              refine pj_X_of (fun r h => pj_R_to (G0, 87, [(5, .int (Int32.ofInt 1)), (4, .int (Int32.ofInt 1)), (0, .ref 171), (1, .int c), (2, .int v2), (3, .int v3)], [.int (Int32.ofInt 1)], 0, 0) 87 2 (fun _ => rfl) h) ?_
              refine pj_X_of (fun r h => pj_R_ifF rfl (pj_b0_eqF (by omega)) h) ?_
              refine pj_X_of (fun r h => pj_R_to (G0, 99, [(3, .int (v3 + Int32.ofInt 1)), (2, .int v3), (5, .int (Int32.ofInt 1)), (4, .int (Int32.ofInt 1)), (0, .ref 171), (1, .int c)], [], 0, 0) 99 5 (fun _ => rfl) h) ?_
              obtain ⟨z27, hz27⟩ : ∃ z : Int32, z = v3 + Int32.ofInt 1 := ⟨_, rfl⟩
              rw [← hz27]
              have fz27_0 : z27.toInt = v3.toInt + (Int32.ofInt 1).toInt := by rw [hz27]; exact pj_addI (by have := pj_i32 v3; have := pj_i32 (Int32.ofInt 1); omega) (by have := pj_i32 v3; have := pj_i32 (Int32.ofInt 1); omega)
              refine pj_X_of (fun r h => pj_R_to (G0, 4, [(3, .int z27), (2, .int v3), (5, .int (Int32.ofInt 1)), (4, .int (Int32.ofInt 1)), (0, .ref 171), (1, .int c)], [], 0, 0) 4 2 (fun _ => rfl) h) ?_
              exact pj_X_sub [(0, .ref 171), (1, .int c), (2, .int v3), (3, .int z27)] (show List.Nodup [0, 1, 2, 3] by decide) ⟨rfl, rfl, rfl, rfl, trivial⟩ (ih v3 z27 ⟨by omega, by omega⟩ ⟨by omega, by omega⟩ (fun _ => by omega) (by omega))
            | false =>
              have ub26 := pj_u0_ltF b26
              refine pj_X_of (fun r h => pj_R_ifF rfl b26 h) ?_
              refine pj_X_of (fun r h => pj_R_to (G0, 59, [(4, .int (Int32.ofInt 1)), (0, .ref 171), (1, .int c), (2, .int v2), (3, .int v3)], [.ref 171], 0, 0) 59 2 (fun _ => rfl) h) ?_
              refine pj_X_of (fun r h => pj_T_gr hI rfl rfl rfl h) ?_
              refine pj_X_of (fun r h => pj_R_to (G0, 63, [(4, .int (Int32.ofInt 1)), (0, .ref 171), (1, .int c), (2, .int v2), (3, .int v3)], [.int v3, .ref 175], 0, 0) 63 2 (fun _ => rfl) h) ?_
              refine pj_X_of (fun r h => pj_T_il hI rfl rfl (by omega) (by omega) h) ?_
              show pj_X _ _ G0 64 [(4, .int (Int32.ofInt 1)), (0, .ref 171), (1, .int c), (2, .int v2), (3, .int v3)] [.int (pj_ai G0 175 v3.toInt.toNat)] _
              refine pj_X_eqi hz3.symm ?_
              refine pj_X_of (fun r h => pj_R_to (G0, 65, [(4, .int (Int32.ofInt 1)), (0, .ref 171), (1, .int c), (2, .int v2), (3, .int v3)], [.ref 171, .int z3], 0, 0) 65 2 (fun _ => rfl) h) ?_
              refine pj_X_of (fun r h => pj_T_gr hI rfl rfl rfl h) ?_
              refine pj_X_of (fun r h => pj_R_to (G0, 69, [(4, .int (Int32.ofInt 1)), (0, .ref 171), (1, .int c), (2, .int v2), (3, .int v3)], [.int v2, .ref 175, .int z3], 0, 0) 69 2 (fun _ => rfl) h) ?_
              refine pj_X_of (fun r h => pj_T_il hI rfl rfl (by omega) (by omega) h) ?_
              show pj_X _ _ G0 70 [(4, .int (Int32.ofInt 1)), (0, .ref 171), (1, .int c), (2, .int v2), (3, .int v3)] [.int (pj_ai G0 175 v2.toInt.toNat), .int z3] _
              obtain ⟨z28, hz28⟩ : ∃ z : Int32, z = pj_ai G0 175 v2.toInt.toNat := ⟨_, rfl⟩
              refine pj_X_eqi hz28.symm ?_
              have ez28 : (pj_ai G0 175 v2.toInt.toNat).toInt = z28.toInt := by rw [hz28]
              have fz28_0 : (0 : Int) ≤ z28.toInt ∧ z28.toInt ≤ 99 ∧ (z28.toInt ≤ 0 ∨ 0 ≤ z28.toInt) := by rw [hz28]; exact hI.2.2.1 175 (10, 0, 99, 0, 0) rfl _ (by show _ < 10; omega)
              cases b29 : pj_c1 .ge z3 z28 with
              | true =>
                have ub29 := pj_u_geT b29
                refine pj_X_of (fun r h => pj_R_icT 77 rfl rfl b29 h) ?_
                refine pj_X_of (fun r h => pj_R_to (G0, 82, [(5, .int (Int32.ofInt 0)), (4, .int (Int32.ofInt 1)), (0, .ref 171), (1, .int c), (2, .int v2), (3, .int v3)], [.int (Int32.ofInt 1)], 0, 0) 82 4 (fun _ => rfl) h) ?_
                refine pj_X_of (fun r h => pj_R_ifF rfl (pj_b0_eqF (by omega)) h) ?_
                refine pj_X_of (fun r h => pj_R_to (G0, 87, [(5, .int (Int32.ofInt 0)), (4, .int (Int32.ofInt 1)), (0, .ref 171), (1, .int c), (2, .int v2), (3, .int v3)], [.int (Int32.ofInt 0)], 0, 0) 87 2 (fun _ => rfl) h) ?_
                refine pj_X_of (fun r h => pj_R_ifT 94 rfl rfl (pj_b0_eqT (by omega)) h) ?_
                refine pj_X_of (fun r h => pj_R_to (G0, 99, [(3, .int (v3 + Int32.ofInt 1)), (2, .int v2), (5, .int (Int32.ofInt 0)), (4, .int (Int32.ofInt 1)), (0, .ref 171), (1, .int c)], [], 0, 0) 99 4 (fun _ => rfl) h) ?_
                obtain ⟨z30, hz30⟩ : ∃ z : Int32, z = v3 + Int32.ofInt 1 := ⟨_, rfl⟩
                rw [← hz30]
                have fz30_0 : z30.toInt = v3.toInt + (Int32.ofInt 1).toInt := by rw [hz30]; exact pj_addI (by have := pj_i32 v3; have := pj_i32 (Int32.ofInt 1); omega) (by have := pj_i32 v3; have := pj_i32 (Int32.ofInt 1); omega)
                refine pj_X_of (fun r h => pj_R_to (G0, 4, [(3, .int z30), (2, .int v2), (5, .int (Int32.ofInt 0)), (4, .int (Int32.ofInt 1)), (0, .ref 171), (1, .int c)], [], 0, 0) 4 2 (fun _ => rfl) h) ?_
                exact pj_X_sub [(0, .ref 171), (1, .int c), (2, .int v2), (3, .int z30)] (show List.Nodup [0, 1, 2, 3] by decide) ⟨rfl, rfl, rfl, rfl, trivial⟩ (ih v2 z30 ⟨by omega, by omega⟩ ⟨by omega, by omega⟩ x0_ (by omega))
              | false =>
                have ub29 := pj_u_geF b29
                refine pj_X_of (fun r h => pj_R_icF rfl b29 h) ?_
                refine pj_X_of (fun r h => pj_R_to (G0, 82, [(5, .int (Int32.ofInt 1)), (4, .int (Int32.ofInt 1)), (0, .ref 171), (1, .int c), (2, .int v2), (3, .int v3)], [.int (Int32.ofInt 1)], 0, 0) 82 5 (fun _ => rfl) h) ?_
                refine pj_X_of (fun r h => pj_R_ifF rfl (pj_b0_eqF (by omega)) h) ?_
                refine pj_X_of (fun r h => pj_R_to (G0, 87, [(5, .int (Int32.ofInt 1)), (4, .int (Int32.ofInt 1)), (0, .ref 171), (1, .int c), (2, .int v2), (3, .int v3)], [.int (Int32.ofInt 1)], 0, 0) 87 2 (fun _ => rfl) h) ?_
                refine pj_X_of (fun r h => pj_R_ifF rfl (pj_b0_eqF (by omega)) h) ?_
                refine pj_X_of (fun r h => pj_R_to (G0, 99, [(3, .int (v3 + Int32.ofInt 1)), (2, .int v3), (5, .int (Int32.ofInt 1)), (4, .int (Int32.ofInt 1)), (0, .ref 171), (1, .int c)], [], 0, 0) 99 5 (fun _ => rfl) h) ?_
                obtain ⟨z31, hz31⟩ : ∃ z : Int32, z = v3 + Int32.ofInt 1 := ⟨_, rfl⟩
                rw [← hz31]
                have fz31_0 : z31.toInt = v3.toInt + (Int32.ofInt 1).toInt := by rw [hz31]; exact pj_addI (by have := pj_i32 v3; have := pj_i32 (Int32.ofInt 1); omega) (by have := pj_i32 v3; have := pj_i32 (Int32.ofInt 1); omega)
                refine pj_X_of (fun r h => pj_R_to (G0, 4, [(3, .int z31), (2, .int v3), (5, .int (Int32.ofInt 1)), (4, .int (Int32.ofInt 1)), (0, .ref 171), (1, .int c)], [], 0, 0) 4 2 (fun _ => rfl) h) ?_
                exact pj_X_sub [(0, .ref 171), (1, .int c), (2, .int v3), (3, .int z31)] (show List.Nodup [0, 1, 2, 3] by decide) ⟨rfl, rfl, rfl, rfl, trivial⟩ (ih v3 z31 ⟨by omega, by omega⟩ ⟨by omega, by omega⟩ (fun _ => by omega) (by omega))
theorem ct_256 (G0 : pj_G) (hI : pj_Inv G0) (c : Int32) (rc : (0 : Int) ≤ c.toInt ∧ c.toInt ≤ 9) : pj_Y 1 256 [.ref 171, .int c] G0 (fun v G' => ∃ y : Int32, v = some (.int y) ∧ G0 = G' ∧ ((-1 : Int) ≤ y.toInt ∧ y.toInt ≤ 9) ∧ (0 ≤ y.toInt → ((pj_ai G0 175 c.toInt.toNat).toInt < (pj_ai G0 175 y.toInt.toNat).toInt ∨ ((pj_ai G0 175 c.toInt.toNat).toInt = (pj_ai G0 175 y.toInt.toNat).toInt ∧ c.toInt < y.toInt)))) := by
  have c0_ : (Int32.ofInt (-1)).toInt = -1 := by decide
  have c1_ : (Int32.ofInt 0).toInt = 0 := by decide
  have c2_ : (Int32.ofInt 1).toInt = 1 := by decide
  refine pj_Y_X (M := pj_m256) rfl rfl (Nat.le_of_ble_eq_true rfl) ?_
  have hK : pj_kpt ([], [], []) G0 G0 := pj_kpt_r _ _
  show pj_X _ _ G0 0 [(0, .ref 171), (1, .int c)] [] _
  refine pj_X_of (fun r h => pj_R_to (G0, 4, [(3, .int (Int32.ofInt 0)), (2, .int (Int32.ofInt (-1))), (0, .ref 171), (1, .int c)], [], 0, 0) 4 5 (fun _ => rfl) h) ?_
  exact pj_X_sub [(0, .ref 171), (1, .int c), (2, .int (Int32.ofInt (-1))), (3, .int (Int32.ofInt 0))] (show List.Nodup [0, 1, 2, 3] by decide) ⟨rfl, rfl, rfl, rfl, trivial⟩ ((lp_ct_256 G0 hI c rc 11) (Int32.ofInt (-1)) (Int32.ofInt 0) ⟨by omega, by omega⟩ ⟨by omega, by omega⟩ (fun q => absurd q (by omega)) (by omega))
theorem ct_257 (G0 : pj_G) (hI : pj_Inv G0) (b : Int32) (rb : (0 : Int) ≤ b.toInt ∧ b.toInt ≤ 5) : pj_Y 1 257 [.ref 171, .int b] G0 (fun v G' => ∃ y : Int32, v = some (.int y) ∧ G0 = G' ∧ ((0 : Int) ≤ y.toInt ∧ y.toInt ≤ 1) ∧ (1 ≤ y.toInt → 0 ≤ (pj_ai G0 179 (4 * b.toInt.toNat)).toInt)) := by
  have c0_ : (Int32.ofInt 0).toInt = 0 := by decide
  have c1_ : (Int32.ofInt 1).toInt = 1 := by decide
  have c2_ : (Int32.ofInt 4).toInt = 4 := by decide
  refine pj_Y_X (M := pj_m257) rfl rfl (Nat.le_of_ble_eq_true rfl) ?_
  have hK : pj_kpt ([], [], []) G0 G0 := pj_kpt_r _ _
  show pj_X _ _ G0 0 [(0, .ref 171), (1, .int b)] [] _
  refine pj_X_of (fun r h => pj_R_to (G0, 1, [(0, .ref 171), (1, .int b)], [.ref 171], 0, 0) 1 2 (fun _ => rfl) h) ?_
  refine pj_X_of (fun r h => pj_T_gr hI rfl rfl rfl h) ?_
  refine pj_X_of (fun r h => pj_R_to (G0, 7, [(0, .ref 171), (1, .int b)], [.int ((Int32.ofInt 4) * b), .ref 179], 0, 0) 7 4 (fun _ => rfl) h) ?_
  obtain ⟨z1, hz1⟩ : ∃ z : Int32, z = (Int32.ofInt 4) * b := ⟨_, rfl⟩
  refine pj_X_eqi hz1.symm ?_
  have fz1_0 : z1.toInt = 4 * b.toInt := by rw [hz1]; exact pj_mulL (by decide) (by omega) (by omega)
  refine pj_X_of (fun r h => pj_R_to (G0, 9, [(0, .ref 171), (1, .int b)], [.int (z1 + (Int32.ofInt 0)), .ref 179], 0, 0) 9 3 (fun _ => rfl) h) ?_
  obtain ⟨z2, hz2⟩ : ∃ z : Int32, z = z1 + (Int32.ofInt 0) := ⟨_, rfl⟩
  refine pj_X_eqi hz2.symm ?_
  have fz2_0 : z2.toInt = z1.toInt + (Int32.ofInt 0).toInt := by rw [hz2]; exact pj_addI (by have := pj_i32 z1; have := pj_i32 (Int32.ofInt 0); omega) (by have := pj_i32 z1; have := pj_i32 (Int32.ofInt 0); omega)
  refine pj_X_of (fun r h => pj_T_il hI rfl rfl (by omega) (by omega) h) ?_
  show pj_X _ _ G0 10 [(0, .ref 171), (1, .int b)] [.int (pj_ai G0 179 z2.toInt.toNat)] _
  obtain ⟨z3, hz3⟩ : ∃ z : Int32, z = pj_ai G0 179 z2.toInt.toNat := ⟨_, rfl⟩
  refine pj_X_eqi hz3.symm ?_
  have ez3 : (pj_ai G0 179 z2.toInt.toNat).toInt = z3.toInt := by rw [hz3]
  have fz3_0 : -1 ≤ z3.toInt ∧ z3.toInt ≤ 9 := by rw [hz3]; exact ((hI.2.2.2 179 32 rfl _ (by show _ < 32; omega)).1 (by omega)).1 (by omega)
  cases b4 : pj_c1 .lt z3 0 with
  | true =>
    have ub4 := pj_u0_ltT b4
    refine pj_X_of (fun r h => pj_R_ifT 30 rfl rfl b4 h) ?_
    refine pj_X_of (fun r h => pj_R_to (G0, 31, [(0, .ref 171), (1, .int b)], [.int (Int32.ofInt 0)], 0, 0) 31 2 (fun _ => rfl) h) ?_
    have k5 : (pj_ai G0 179 (4 * b.toInt.toNat)).toInt = z3.toInt := by rw [hz3, show z2.toInt.toNat = 4 * b.toInt.toNat by omega]
    exact pj_X_rt rfl rfl ⟨_, rfl, rfl, ⟨by omega, by omega⟩, by omega⟩
  | false =>
    have ub4 := pj_u0_ltF b4
    refine pj_X_of (fun r h => pj_R_ifF rfl b4 h) ?_
    refine pj_X_of (fun r h => pj_R_to (G0, 14, [(0, .ref 171), (1, .int b)], [.ref 171], 0, 0) 14 2 (fun _ => rfl) h) ?_
    refine pj_X_of (fun r h => pj_T_gr hI rfl rfl rfl h) ?_
    refine pj_X_of (fun r h => pj_R_to (G0, 20, [(0, .ref 171), (1, .int b)], [.int ((Int32.ofInt 4) * b), .ref 179], 0, 0) 20 4 (fun _ => rfl) h) ?_
    obtain ⟨z6, hz6⟩ : ∃ z : Int32, z = (Int32.ofInt 4) * b := ⟨_, rfl⟩
    refine pj_X_eqi hz6.symm ?_
    have fz6_0 : z6.toInt = 4 * b.toInt := by rw [hz6]; exact pj_mulL (by decide) (by omega) (by omega)
    refine pj_X_of (fun r h => pj_R_to (G0, 22, [(0, .ref 171), (1, .int b)], [.int (z6 + (Int32.ofInt 1)), .ref 179], 0, 0) 22 3 (fun _ => rfl) h) ?_
    obtain ⟨z7, hz7⟩ : ∃ z : Int32, z = z6 + (Int32.ofInt 1) := ⟨_, rfl⟩
    refine pj_X_eqi hz7.symm ?_
    have fz7_0 : z7.toInt = z6.toInt + (Int32.ofInt 1).toInt := by rw [hz7]; exact pj_addI (by have := pj_i32 z6; have := pj_i32 (Int32.ofInt 1); omega) (by have := pj_i32 z6; have := pj_i32 (Int32.ofInt 1); omega)
    refine pj_X_of (fun r h => pj_T_il hI rfl rfl (by omega) (by omega) h) ?_
    show pj_X _ _ G0 23 [(0, .ref 171), (1, .int b)] [.int (pj_ai G0 179 z7.toInt.toNat)] _
    obtain ⟨z8, hz8⟩ : ∃ z : Int32, z = pj_ai G0 179 z7.toInt.toNat := ⟨_, rfl⟩
    refine pj_X_eqi hz8.symm ?_
    have ez8 : (pj_ai G0 179 z7.toInt.toNat).toInt = z8.toInt := by rw [hz8]
    have fz8_0 : 0 ≤ z8.toInt := by rw [hz8]; exact ((hI.2.2.2 179 32 rfl _ (by show _ < 32; omega)).1 (by omega)).2 (by omega)
    cases b9 : pj_c1 .ne z8 0 with
    | true =>
      have ub9 := pj_u0_neT b9
      refine pj_X_of (fun r h => pj_R_ifT 30 rfl rfl b9 h) ?_
      refine pj_X_of (fun r h => pj_R_to (G0, 31, [(0, .ref 171), (1, .int b)], [.int (Int32.ofInt 0)], 0, 0) 31 2 (fun _ => rfl) h) ?_
      have k10 : (pj_ai G0 179 (4 * b.toInt.toNat)).toInt = z3.toInt := by rw [hz3, show z2.toInt.toNat = 4 * b.toInt.toNat by omega]
      have k11 : (pj_ai G0 179 (4 * b.toInt.toNat + 1)).toInt = z8.toInt := by rw [hz8, show z7.toInt.toNat = 4 * b.toInt.toNat + 1 by omega]
      exact pj_X_rt rfl rfl ⟨_, rfl, rfl, ⟨by omega, by omega⟩, by omega⟩
    | false =>
      have ub9 := pj_u0_neF b9
      refine pj_X_of (fun r h => pj_R_ifF rfl b9 h) ?_
      refine pj_X_of (fun r h => pj_R_to (G0, 31, [(0, .ref 171), (1, .int b)], [.int (Int32.ofInt 1)], 0, 0) 31 3 (fun _ => rfl) h) ?_
      have k12 : (pj_ai G0 179 (4 * b.toInt.toNat)).toInt = z3.toInt := by rw [hz3, show z2.toInt.toNat = 4 * b.toInt.toNat by omega]
      have k13 : (pj_ai G0 179 (4 * b.toInt.toNat + 1)).toInt = z8.toInt := by rw [hz8, show z7.toInt.toNat = 4 * b.toInt.toNat + 1 by omega]
      exact pj_X_rt rfl rfl ⟨_, rfl, rfl, ⟨by omega, by omega⟩, by omega⟩
theorem ct_262 (G0 : pj_G) (hI : pj_Inv G0) (w : Int32) : pj_Y 1 262 [.int w] G0 (fun v G' => ∃ y : Int32, v = some (.int y) ∧ G0 = G' ∧ ((1 : Int) ≤ y.toInt ∧ y.toInt ≤ 18)) := by
  have c0_ : ((Int8.ofInt 18).toInt32).toInt = 18 := by decide
  have c1_ : ((Int8.ofInt 6).toInt32).toInt = 6 := by decide
  have c2_ : (Int32.ofInt 1).toInt = 1 := by decide
  have c3_ : (Int32.ofInt 2).toInt = 2 := by decide
  refine pj_Y_X (M := pj_m262) rfl rfl (Nat.le_of_ble_eq_true rfl) ?_
  have hK : pj_kpt ([], [], []) G0 G0 := pj_kpt_r _ _
  show pj_X _ _ G0 0 [(0, .int w)] [] _
  refine pj_X_of (fun r h => pj_R_to (G0, 2, [(0, .int w)], [.int (Int32.ofInt 2), .int w], 0, 0) 2 3 (fun _ => rfl) h) ?_
  cases b1 : pj_c1 .ge w (Int32.ofInt 2) with
  | true =>
    have ub1 := pj_u_geT b1
    refine pj_X_of (fun r h => pj_R_icT 10 rfl rfl b1 h) ?_
    refine pj_X_of (fun r h => pj_R_to (G0, 12, [(0, .int w)], [.int (Int32.ofInt 2), .int w], 0, 0) 12 3 (fun _ => rfl) h) ?_
    cases b2 : pj_c1 .ne w (Int32.ofInt 2) with
    | true =>
      have ub2 := pj_u_neT b2
      refine pj_X_of (fun r h => pj_R_icT 20 rfl rfl b2 h) ?_
      refine pj_X_of (fun r h => pj_R_to (G0, 21, [(0, .int w)], [.int (Int32.ofInt 1)], 0, 0) 21 2 (fun _ => rfl) h) ?_
      exact pj_X_rt rfl rfl ⟨_, rfl, rfl, ⟨by omega, by omega⟩⟩
    | false =>
      have ub2 := pj_u_neF b2
      refine pj_X_of (fun r h => pj_R_icF rfl b2 h) ?_
      refine pj_X_of (fun r h => pj_R_to (G0, 21, [(0, .int w)], [.int ((Int8.ofInt 6).toInt32)], 0, 0) 21 3 (fun _ => rfl) h) ?_
      exact pj_X_rt rfl rfl ⟨_, rfl, rfl, ⟨by omega, by omega⟩⟩
  | false =>
    have ub1 := pj_u_geF b1
    refine pj_X_of (fun r h => pj_R_icF rfl b1 h) ?_
    refine pj_X_of (fun r h => pj_R_to (G0, 21, [(0, .int w)], [.int ((Int8.ofInt 18).toInt32)], 0, 0) 21 3 (fun _ => rfl) h) ?_
    exact pj_X_rt rfl rfl ⟨_, rfl, rfl, ⟨by omega, by omega⟩⟩
def kc_263 : pj_KT := ([(171, 0), (171, 48)], [171, 196, 197, 198], [196, 197, 198])
theorem ct_263 (G0 : pj_G) (hI : pj_Inv G0) (w : Int32) (v : Int32) (is : Int32) : pj_Y 2 263 [.ref 171, .int w, .int v, .int is] G0 (fun v G' => ∃ y : Int32, v = some (.int y) ∧ pj_Inv G' ∧ pj_kpt kc_263 G0 G' ∧ ((-2147483648 : Int) ≤ y.toInt ∧ y.toInt ≤ 2147483647)) := by
  have c0_ : ((Int8.ofInt 12).toInt32).toInt = 12 := by decide
  have c1_ : (Int32.ofInt (-1)).toInt = -1 := by decide
  have c2_ : (Int32.ofInt 0).toInt = 0 := by decide
  have c3_ : (Int32.ofInt 1).toInt = 1 := by decide
  refine pj_Y_X (M := pj_m263) rfl rfl (Nat.le_of_ble_eq_true rfl) ?_
  have hK : pj_kpt kc_263 G0 G0 := pj_kpt_r _ _
  show pj_X _ _ G0 0 [(0, .ref 171), (1, .int w), (2, .int v), (3, .int is)] [] _
  refine pj_X_of (fun r h => pj_R_to (G0, 2, [(0, .ref 171), (1, .int w), (2, .int v), (3, .int is)], [.int (Int32.ofInt 0), .ref 171], 0, 0) 2 3 (fun _ => rfl) h) ?_
  refine pj_X_of (fun r h => pj_T_pf hI rfl rfl rfl h) ?_
  show pj_X _ _ (pj_wv G0 171 0 (.int (Int32.ofInt 0))) 5 [(0, .ref 171), (1, .int w), (2, .int v), (3, .int is)] [] _
  obtain ⟨G1, hG1⟩ : ∃ H, H = pj_wv G0 171 0 (.int (Int32.ofInt 0)) := ⟨_, rfl⟩
  have iG1 : pj_Inv G1 := by rw [hG1]; exact pj_Inv_wi hI (ci := 12) rfl (fun q hq => by cases hq)
  have kG1 : pj_kpt kc_263 G0 G1 := by rw [hG1]; exact pj_kpt_v hK rfl
  rw [← hG1]
  refine pj_X_of (fun r h => pj_R_to (G1, 11, [(0, .ref 171), (1, .int w), (2, .int v), (3, .int is)], [.long (Int64.ofInt 3), .long (Int64.ofNat 0), .long w.toInt64], 0, 0) 11 5 (fun _ => rfl) h) ?_
  have lc2 : (w.toInt64).toInt = w.toInt := Int32.toInt_toInt64 _
  have lc3 : (Int64.ofNat 0).toInt = 0 := by decide
  have lc4 : (Int64.ofInt 3).toInt = 3 := by decide
  refine pj_X_ca (vs := [.long w.toInt64, .long (Int64.ofNat 0), .long (Int64.ofInt 3)]) rfl (fun _ => rfl) ⟨Nat.le_of_ble_eq_true rfl, Nat.le_of_ble_eq_true rfl, rfl⟩ ⟨rfl, rfl⟩ (pj_Y_up (by decide) (ct_170x G1 iG1 w.toInt64 (Int64.ofNat 0) (Int64.ofInt 3))) ?_
  rintro _ _ ⟨y5, rfl, rfl, ry5, ey5, fy5⟩
  show pj_X _ _ G1 14 [(0, .ref 171), (1, .int w), (2, .int v), (3, .int is)] [.int y5] _
  cases b6 : pj_c1 .eq y5 0 with
  | true =>
    have ub6 := pj_u0_eqT b6
    refine pj_X_of (fun r h => pj_R_ifT 50 rfl rfl b6 h) ?_
    refine pj_X_of (fun r h => pj_R_to (G1, 51, [(0, .ref 171), (1, .int w), (2, .int v), (3, .int is)], [.int (Int32.ofInt (-1))], 0, 0) 51 2 (fun _ => rfl) h) ?_
    exact pj_X_rt rfl rfl ⟨_, rfl, iG1, kG1, pj_i32 _⟩
  | false =>
    have ub6 := pj_u0_eqF b6
    refine pj_X_of (fun r h => pj_R_ifF rfl b6 h) ?_
    refine pj_X_of (fun r h => pj_R_to (G1, 21, [(0, .ref 171), (1, .int w), (2, .int v), (3, .int is)], [.int w, .long (Int64.ofNat 0), .long v.toInt64], 0, 0) 21 5 (fun _ => rfl) h) ?_
    refine pj_X_ca (vs := [.int w]) rfl (fun _ => rfl) ⟨Nat.le_of_ble_eq_true rfl, Nat.le_of_ble_eq_true rfl, rfl⟩ ⟨rfl, rfl⟩ (pj_Y_up (by decide) (ct_262 G1 iG1 w)) ?_
    rintro _ _ ⟨y7, rfl, rfl, ry7⟩
    show pj_X _ _ G1 24 [(0, .ref 171), (1, .int w), (2, .int v), (3, .int is)] [.int y7, .long (Int64.ofNat 0), .long v.toInt64] _
    refine pj_X_of (fun r h => pj_R_to (G1, 25, [(0, .ref 171), (1, .int w), (2, .int v), (3, .int is)], [.long y7.toInt64, .long (Int64.ofNat 0), .long v.toInt64], 0, 0) 25 2 (fun _ => rfl) h) ?_
    have lc8 : (v.toInt64).toInt = v.toInt := Int32.toInt_toInt64 _
    have lc9 : (Int64.ofNat 0).toInt = 0 := by decide
    have lc10 : (y7.toInt64).toInt = y7.toInt := Int32.toInt_toInt64 _
    refine pj_X_ca (vs := [.long v.toInt64, .long (Int64.ofNat 0), .long y7.toInt64]) rfl (fun _ => rfl) ⟨Nat.le_of_ble_eq_true rfl, Nat.le_of_ble_eq_true rfl, rfl⟩ ⟨rfl, rfl⟩ (pj_Y_up (by decide) (ct_170x G1 iG1 v.toInt64 (Int64.ofNat 0) y7.toInt64)) ?_
    rintro _ _ ⟨y11, rfl, rfl, ry11, ey11, fy11⟩
    show pj_X _ _ G1 28 [(0, .ref 171), (1, .int w), (2, .int v), (3, .int is)] [.int y11] _
    cases b12 : pj_c1 .eq y11 0 with
    | true =>
      have ub12 := pj_u0_eqT b12
      refine pj_X_of (fun r h => pj_R_ifT 50 rfl rfl b12 h) ?_
      refine pj_X_of (fun r h => pj_R_to (G1, 51, [(0, .ref 171), (1, .int w), (2, .int v), (3, .int is)], [.int (Int32.ofInt (-1))], 0, 0) 51 2 (fun _ => rfl) h) ?_
      exact pj_X_rt rfl rfl ⟨_, rfl, iG1, kG1, pj_i32 _⟩
    | false =>
      have ub12 := pj_u0_eqF b12
      refine pj_X_of (fun r h => pj_R_ifF rfl b12 h) ?_
      refine pj_X_of (fun r h => pj_R_to (G1, 35, [(0, .ref 171), (1, .int w), (2, .int v), (3, .int is)], [.long (Int64.ofNat 1), .long (Int64.ofNat 0), .long is.toInt64], 0, 0) 35 5 (fun _ => rfl) h) ?_
      have lc13 : (is.toInt64).toInt = is.toInt := Int32.toInt_toInt64 _
      have lc14 : (Int64.ofNat 0).toInt = 0 := by decide
      have lc15 : (Int64.ofNat 1).toInt = 1 := by decide
      refine pj_X_ca (vs := [.long is.toInt64, .long (Int64.ofNat 0), .long (Int64.ofNat 1)]) rfl (fun _ => rfl) ⟨Nat.le_of_ble_eq_true rfl, Nat.le_of_ble_eq_true rfl, rfl⟩ ⟨rfl, rfl⟩ (pj_Y_up (by decide) (ct_170x G1 iG1 is.toInt64 (Int64.ofNat 0) (Int64.ofNat 1))) ?_
      rintro _ _ ⟨y16, rfl, rfl, ry16, ey16, fy16⟩
      show pj_X _ _ G1 38 [(0, .ref 171), (1, .int w), (2, .int v), (3, .int is)] [.int y16] _
      cases b17 : pj_c1 .eq y16 0 with
      | true =>
        have ub17 := pj_u0_eqT b17
        refine pj_X_of (fun r h => pj_R_ifT 50 rfl rfl b17 h) ?_
        refine pj_X_of (fun r h => pj_R_to (G1, 51, [(0, .ref 171), (1, .int w), (2, .int v), (3, .int is)], [.int (Int32.ofInt (-1))], 0, 0) 51 2 (fun _ => rfl) h) ?_
        exact pj_X_rt rfl rfl ⟨_, rfl, iG1, kG1, pj_i32 _⟩
      | false =>
        have ub17 := pj_u0_eqF b17
        refine pj_X_of (fun r h => pj_R_ifF rfl b17 h) ?_
        refine pj_X_of (fun r h => pj_R_to (G1, 42, [(0, .ref 171), (1, .int w), (2, .int v), (3, .int is)], [.ref 171], 0, 0) 42 2 (fun _ => rfl) h) ?_
        refine pj_X_of (fun r h => pj_T_gi iG1 rfl rfl h) ?_
        show pj_X _ _ G1 45 [(0, .ref 171), (1, .int w), (2, .int v), (3, .int is)] [.int (pj_fi G1 171 48)] _
        obtain ⟨y18, hy18⟩ : ∃ z : Int32, z = pj_fi G1 171 48 := ⟨_, rfl⟩
        refine pj_X_eqi hy18.symm ?_
        have ey18 : (pj_fi G1 171 48).toInt = y18.toInt := by rw [hy18]
        have ry18 : (0 : Int) ≤ y18.toInt ∧ y18.toInt ≤ 12 := by rw [hy18]; exact iG1.2.1 171 48 (0, 12) rfl
        refine pj_X_of (fun r h => pj_R_to (G1, 47, [(0, .ref 171), (1, .int w), (2, .int v), (3, .int is)], [.int ((Int8.ofInt 12).toInt32), .int y18], 0, 0) 47 2 (fun _ => rfl) h) ?_
        cases b19 : pj_c1 .ne y18 ((Int8.ofInt 12).toInt32) with
        | true =>
          have ub19 := pj_u_neT b19
          refine pj_X_of (fun r h => pj_R_icT 52 rfl rfl b19 h) ?_
          refine pj_X_of (fun r h => pj_R_to (G1, 53, [(0, .ref 171), (1, .int w), (2, .int v), (3, .int is)], [.ref 171], 0, 0) 53 2 (fun _ => rfl) h) ?_
          refine pj_X_of (fun r h => pj_T_gr iG1 rfl rfl rfl h) ?_
          refine pj_X_of (fun r h => pj_R_to (G1, 57, [(0, .ref 171), (1, .int w), (2, .int v), (3, .int is)], [.ref 171, .ref 196], 0, 0) 57 2 (fun _ => rfl) h) ?_
          refine pj_X_of (fun r h => pj_T_gi iG1 rfl rfl h) ?_
          show pj_X _ _ G1 60 [(0, .ref 171), (1, .int w), (2, .int v), (3, .int is)] [.int (pj_fi G1 171 48), .ref 196] _
          refine pj_X_eqi (show pj_fi G1 171 48 = y18 from hy18.symm) ?_
          refine pj_X_of (fun r h => pj_R_to (G1, 61, [(0, .ref 171), (1, .int w), (2, .int v), (3, .int is)], [.int w, .int y18, .ref 196], 0, 0) 61 2 (fun _ => rfl) h) ?_
          refine pj_X_of (fun r h => pj_T_is iG1 rfl rfl (by omega) (by omega) h) ?_
          show pj_X _ _ (pj_wa G1 196 y18.toInt.toNat w) 62 [(0, .ref 171), (1, .int w), (2, .int v), (3, .int is)] [] _
          obtain ⟨G20, hG20⟩ : ∃ H, H = pj_wa G1 196 y18.toInt.toNat w := ⟨_, rfl⟩
          have iG20 : pj_Inv G20 := by rw [hG20]; exact pj_Inv_wa iG1 rfl (fun q hq => by cases hq) (fun n hn => by cases hn)
          have kG20 : pj_kpt kc_263 G0 G20 := by rw [hG20]; exact pj_kpt_a kG1 rfl
          rw [← hG20]
          refine pj_X_of (fun r h => pj_R_to (G20, 63, [(0, .ref 171), (1, .int w), (2, .int v), (3, .int is)], [.ref 171], 0, 0) 63 2 (fun _ => rfl) h) ?_
          refine pj_X_of (fun r h => pj_T_gr iG20 rfl rfl rfl h) ?_
          refine pj_X_of (fun r h => pj_R_to (G20, 67, [(0, .ref 171), (1, .int w), (2, .int v), (3, .int is)], [.ref 171, .ref 197], 0, 0) 67 2 (fun _ => rfl) h) ?_
          refine pj_X_of (fun r h => pj_T_gi iG20 rfl rfl h) ?_
          show pj_X _ _ G20 70 [(0, .ref 171), (1, .int w), (2, .int v), (3, .int is)] [.int (pj_fi G20 171 48), .ref 197] _
          refine pj_X_eqi (show pj_fi G20 171 48 = y18 from by rw [hG20, pj_fi_wa]; exact hy18.symm) ?_
          refine pj_X_of (fun r h => pj_R_to (G20, 71, [(0, .ref 171), (1, .int w), (2, .int v), (3, .int is)], [.int v, .int y18, .ref 197], 0, 0) 71 2 (fun _ => rfl) h) ?_
          refine pj_X_of (fun r h => pj_T_is iG20 rfl rfl (by omega) (by omega) h) ?_
          show pj_X _ _ (pj_wa G20 197 y18.toInt.toNat v) 72 [(0, .ref 171), (1, .int w), (2, .int v), (3, .int is)] [] _
          obtain ⟨G21, hG21⟩ : ∃ H, H = pj_wa G20 197 y18.toInt.toNat v := ⟨_, rfl⟩
          have iG21 : pj_Inv G21 := by rw [hG21]; exact pj_Inv_wa iG20 rfl (fun q hq => by cases hq) (fun n hn => by cases hn)
          have kG21 : pj_kpt kc_263 G0 G21 := by rw [hG21]; exact pj_kpt_a kG20 rfl
          rw [← hG21]
          refine pj_X_of (fun r h => pj_R_to (G21, 73, [(0, .ref 171), (1, .int w), (2, .int v), (3, .int is)], [.ref 171], 0, 0) 73 2 (fun _ => rfl) h) ?_
          refine pj_X_of (fun r h => pj_T_gr iG21 rfl rfl rfl h) ?_
          refine pj_X_of (fun r h => pj_R_to (G21, 77, [(0, .ref 171), (1, .int w), (2, .int v), (3, .int is)], [.ref 171, .ref 198], 0, 0) 77 2 (fun _ => rfl) h) ?_
          refine pj_X_of (fun r h => pj_T_gi iG21 rfl rfl h) ?_
          show pj_X _ _ G21 80 [(0, .ref 171), (1, .int w), (2, .int v), (3, .int is)] [.int (pj_fi G21 171 48), .ref 198] _
          refine pj_X_eqi (show pj_fi G21 171 48 = y18 from by rw [hG21, pj_fi_wa]; exact (by rw [hG20, pj_fi_wa]; exact hy18.symm)) ?_
          refine pj_X_of (fun r h => pj_R_to (G21, 81, [(0, .ref 171), (1, .int w), (2, .int v), (3, .int is)], [.int is, .int y18, .ref 198], 0, 0) 81 2 (fun _ => rfl) h) ?_
          refine pj_X_of (fun r h => pj_T_is iG21 rfl rfl (by omega) (by omega) h) ?_
          show pj_X _ _ (pj_wa G21 198 y18.toInt.toNat is) 82 [(0, .ref 171), (1, .int w), (2, .int v), (3, .int is)] [] _
          obtain ⟨G22, hG22⟩ : ∃ H, H = pj_wa G21 198 y18.toInt.toNat is := ⟨_, rfl⟩
          have iG22 : pj_Inv G22 := by rw [hG22]; exact pj_Inv_wa iG21 rfl (fun q hq => by cases hq) (fun n hn => by cases hn)
          have kG22 : pj_kpt kc_263 G0 G22 := by rw [hG22]; exact pj_kpt_a kG21 rfl
          rw [← hG22]
          refine pj_X_of (fun r h => pj_R_to (G22, 84, [(0, .ref 171), (1, .int w), (2, .int v), (3, .int is)], [.ref 171, .ref 171], 0, 0) 84 3 (fun _ => rfl) h) ?_
          refine pj_X_of (fun r h => pj_T_gi iG22 rfl rfl h) ?_
          show pj_X _ _ G22 87 [(0, .ref 171), (1, .int w), (2, .int v), (3, .int is)] [.int (pj_fi G22 171 48), .ref 171] _
          refine pj_X_eqi (show pj_fi G22 171 48 = y18 from by rw [hG22, pj_fi_wa]; exact (by rw [hG21, pj_fi_wa]; exact (by rw [hG20, pj_fi_wa]; exact hy18.symm))) ?_
          refine pj_X_of (fun r h => pj_R_to (G22, 89, [(0, .ref 171), (1, .int w), (2, .int v), (3, .int is)], [.int (y18 + (Int32.ofInt 1)), .ref 171], 0, 0) 89 3 (fun _ => rfl) h) ?_
          obtain ⟨z23, hz23⟩ : ∃ z : Int32, z = y18 + (Int32.ofInt 1) := ⟨_, rfl⟩
          refine pj_X_eqi hz23.symm ?_
          have fz23_0 : z23.toInt = y18.toInt + (Int32.ofInt 1).toInt := by rw [hz23]; exact pj_addI (by have := pj_i32 y18; have := pj_i32 (Int32.ofInt 1); omega) (by have := pj_i32 y18; have := pj_i32 (Int32.ofInt 1); omega)
          refine pj_X_of (fun r h => pj_T_pf iG22 rfl rfl rfl h) ?_
          show pj_X _ _ (pj_wv G22 171 48 (.int z23)) 92 [(0, .ref 171), (1, .int w), (2, .int v), (3, .int is)] [] _
          obtain ⟨G24, hG24⟩ : ∃ H, H = pj_wv G22 171 48 (.int z23) := ⟨_, rfl⟩
          have iG24 : pj_Inv G24 := by rw [hG24]; exact pj_Inv_wi iG22 (ci := 12) rfl (fun q hq => by cases hq; exact ⟨by show (0 : Int) ≤ _; omega, by show _ ≤ (12 : Int); omega⟩)
          have kG24 : pj_kpt kc_263 G0 G24 := by rw [hG24]; exact pj_kpt_v kG22 rfl
          rw [← hG24]
          refine pj_X_of (fun r h => pj_R_to (G24, 93, [(0, .ref 171), (1, .int w), (2, .int v), (3, .int is)], [.ref 171], 0, 0) 93 2 (fun _ => rfl) h) ?_
          refine pj_X_of (fun r h => pj_T_gi iG24 rfl rfl h) ?_
          show pj_X _ _ G24 96 [(0, .ref 171), (1, .int w), (2, .int v), (3, .int is)] [.int (pj_fi G24 171 48)] _
          refine pj_X_eqi (show pj_fi G24 171 48 = z23 from by rw [hG24]; exact pj_fi_wi iG22.1 (ci := 12) rfl _) ?_
          exact pj_X_rt rfl rfl ⟨_, rfl, iG24, kG24, pj_i32 _⟩
        | false =>
          have ub19 := pj_u_neF b19
          refine pj_X_of (fun r h => pj_R_icF rfl b19 h) ?_
          refine pj_X_of (fun r h => pj_R_to (G1, 51, [(0, .ref 171), (1, .int w), (2, .int v), (3, .int is)], [.int (Int32.ofInt (-1))], 0, 0) 51 2 (fun _ => rfl) h) ?_
          exact pj_X_rt rfl rfl ⟨_, rfl, iG1, kG1, pj_i32 _⟩
def kc_264 : pj_KT := ([(171, 0), (171, 48)], [171], [])
theorem ct_264 (G0 : pj_G) (hI : pj_Inv G0) : pj_Y 1 264 [.ref 171] G0 (fun v G' => ∃ y : Int32, v = some (.int y) ∧ pj_Inv G' ∧ pj_kpt kc_264 G0 G' ∧ ((-2147483648 : Int) ≤ y.toInt ∧ y.toInt ≤ 2147483647)) := by
  have c0_ : (Int32.ofInt 0).toInt = 0 := by decide
  refine pj_Y_X (M := pj_m264) rfl rfl (Nat.le_of_ble_eq_true rfl) ?_
  have hK : pj_kpt kc_264 G0 G0 := pj_kpt_r _ _
  show pj_X _ _ G0 0 [(0, .ref 171)] [] _
  refine pj_X_of (fun r h => pj_R_to (G0, 2, [(0, .ref 171)], [.int (Int32.ofInt 0), .ref 171], 0, 0) 2 3 (fun _ => rfl) h) ?_
  refine pj_X_of (fun r h => pj_T_pf hI rfl rfl rfl h) ?_
  show pj_X _ _ (pj_wv G0 171 0 (.int (Int32.ofInt 0))) 5 [(0, .ref 171)] [] _
  obtain ⟨G1, hG1⟩ : ∃ H, H = pj_wv G0 171 0 (.int (Int32.ofInt 0)) := ⟨_, rfl⟩
  have iG1 : pj_Inv G1 := by rw [hG1]; exact pj_Inv_wi hI (ci := 12) rfl (fun q hq => by cases hq)
  have kG1 : pj_kpt kc_264 G0 G1 := by rw [hG1]; exact pj_kpt_v hK rfl
  rw [← hG1]
  refine pj_X_of (fun r h => pj_R_to (G1, 6, [(0, .ref 171)], [.ref 171], 0, 0) 6 2 (fun _ => rfl) h) ?_
  refine pj_X_of (fun r h => pj_T_gi iG1 rfl rfl h) ?_
  show pj_X _ _ G1 9 [(0, .ref 171)] [.int (pj_fi G1 171 48)] _
  obtain ⟨y2, hy2⟩ : ∃ z : Int32, z = pj_fi G1 171 48 := ⟨_, rfl⟩
  refine pj_X_eqi hy2.symm ?_
  have ey2 : (pj_fi G1 171 48).toInt = y2.toInt := by rw [hy2]
  have ry2 : (0 : Int) ≤ y2.toInt ∧ y2.toInt ≤ 12 := by rw [hy2]; exact iG1.2.1 171 48 (0, 12) rfl
  refine pj_X_of (fun r h => pj_R_to (G1, 12, [(1, .int y2), (0, .ref 171)], [.int (Int32.ofInt 0), .ref 171], 0, 0) 12 4 (fun _ => rfl) h) ?_
  refine pj_X_of (fun r h => pj_T_pf iG1 rfl rfl rfl h) ?_
  show pj_X _ _ (pj_wv G1 171 48 (.int (Int32.ofInt 0))) 15 [(1, .int y2), (0, .ref 171)] [] _
  obtain ⟨G3, hG3⟩ : ∃ H, H = pj_wv G1 171 48 (.int (Int32.ofInt 0)) := ⟨_, rfl⟩
  have iG3 : pj_Inv G3 := by rw [hG3]; exact pj_Inv_wi iG1 (ci := 12) rfl (fun q hq => by cases hq; exact ⟨by show (0 : Int) ≤ _; omega, by show _ ≤ (12 : Int); omega⟩)
  have kG3 : pj_kpt kc_264 G0 G3 := by rw [hG3]; exact pj_kpt_v kG1 rfl
  rw [← hG3]
  refine pj_X_of (fun r h => pj_R_to (G3, 16, [(1, .int y2), (0, .ref 171)], [.int y2], 0, 0) 16 2 (fun _ => rfl) h) ?_
  exact pj_X_rt rfl rfl ⟨_, rfl, iG3, kG3, pj_i32 _⟩
theorem ct_265 (G0 : pj_G) (hI : pj_Inv G0) (b : Int32) (w : Int32) (v : Int32) (rb : (0 : Int) ≤ b.toInt ∧ b.toInt ≤ 5) : pj_Y 1 265 [.ref 171, .int b, .int w, .int v] G0 (fun v G' => ∃ y : Int32, v = some (.int y) ∧ G0 = G' ∧ ((0 : Int) ≤ y.toInt ∧ y.toInt ≤ 1)) := by
  have c0_ : ((Int8.ofInt 7).toInt32).toInt = 7 := by decide
  have c1_ : (Int32.ofInt 0).toInt = 0 := by decide
  have c2_ : (Int32.ofInt 1).toInt = 1 := by decide
  have c3_ : (Int32.ofInt 2).toInt = 2 := by decide
  have c4_ : (Int32.ofInt 3).toInt = 3 := by decide
  have c5_ : (Int32.ofInt 4).toInt = 4 := by decide
  refine pj_Y_X (M := pj_m265) rfl rfl (Nat.le_of_ble_eq_true rfl) ?_
  have hK : pj_kpt ([], [], []) G0 G0 := pj_kpt_r _ _
  show pj_X _ _ G0 0 [(0, .ref 171), (1, .int b), (2, .int w), (3, .int v)] [] _
  refine pj_X_of (fun r h => pj_R_to (G0, 1, [(0, .ref 171), (1, .int b), (2, .int w), (3, .int v)], [.ref 171], 0, 0) 1 2 (fun _ => rfl) h) ?_
  refine pj_X_of (fun r h => pj_T_gr hI rfl rfl rfl h) ?_
  refine pj_X_of (fun r h => pj_R_to (G0, 7, [(0, .ref 171), (1, .int b), (2, .int w), (3, .int v)], [.int ((Int32.ofInt 4) * b), .ref 179], 0, 0) 7 4 (fun _ => rfl) h) ?_
  obtain ⟨z1, hz1⟩ : ∃ z : Int32, z = (Int32.ofInt 4) * b := ⟨_, rfl⟩
  refine pj_X_eqi hz1.symm ?_
  have fz1_0 : z1.toInt = 4 * b.toInt := by rw [hz1]; exact pj_mulL (by decide) (by omega) (by omega)
  refine pj_X_of (fun r h => pj_R_to (G0, 9, [(0, .ref 171), (1, .int b), (2, .int w), (3, .int v)], [.int (z1 + (Int32.ofInt 3)), .ref 179], 0, 0) 9 3 (fun _ => rfl) h) ?_
  obtain ⟨z2, hz2⟩ : ∃ z : Int32, z = z1 + (Int32.ofInt 3) := ⟨_, rfl⟩
  refine pj_X_eqi hz2.symm ?_
  have fz2_0 : z2.toInt = z1.toInt + (Int32.ofInt 3).toInt := by rw [hz2]; exact pj_addI (by have := pj_i32 z1; have := pj_i32 (Int32.ofInt 3); omega) (by have := pj_i32 z1; have := pj_i32 (Int32.ofInt 3); omega)
  refine pj_X_of (fun r h => pj_T_il hI rfl rfl (by omega) (by omega) h) ?_
  show pj_X _ _ G0 10 [(0, .ref 171), (1, .int b), (2, .int w), (3, .int v)] [.int (pj_ai G0 179 z2.toInt.toNat)] _
  obtain ⟨z3, hz3⟩ : ∃ z : Int32, z = pj_ai G0 179 z2.toInt.toNat := ⟨_, rfl⟩
  refine pj_X_eqi hz3.symm ?_
  have ez3 : (pj_ai G0 179 z2.toInt.toNat).toInt = z3.toInt := by rw [hz3]
  refine pj_X_of (fun r h => pj_R_to (G0, 13, [(4, .int z3), (0, .ref 171), (1, .int b), (2, .int w), (3, .int v)], [.int w], 0, 0) 13 3 (fun _ => rfl) h) ?_
  by_cases t4 : w.toInt = 0
  · refine pj_X_of (fun r h => pj_R_tw 40 rfl (n := 0) t4 rfl h) ?_
    refine pj_X_of (fun r h => pj_R_to (G0, 41, [(4, .int z3), (0, .ref 171), (1, .int b), (2, .int w), (3, .int v)], [.ref 171], 0, 0) 41 2 (fun _ => rfl) h) ?_
    refine pj_X_of (fun r h => pj_T_gr hI rfl rfl rfl h) ?_
    refine pj_X_of (fun r h => pj_R_to (G0, 45, [(4, .int z3), (0, .ref 171), (1, .int b), (2, .int w), (3, .int v)], [.int b, .ref 177], 0, 0) 45 2 (fun _ => rfl) h) ?_
    refine pj_X_of (fun r h => pj_T_il hI rfl rfl (by omega) (by omega) h) ?_
    show pj_X _ _ G0 46 [(4, .int z3), (0, .ref 171), (1, .int b), (2, .int w), (3, .int v)] [.int (pj_ai G0 177 b.toInt.toNat)] _
    obtain ⟨z5, hz5⟩ : ∃ z : Int32, z = pj_ai G0 177 b.toInt.toNat := ⟨_, rfl⟩
    refine pj_X_eqi hz5.symm ?_
    have ez5 : (pj_ai G0 177 b.toInt.toNat).toInt = z5.toInt := by rw [hz5]
    refine pj_X_of (fun r h => pj_R_to (G0, 47, [(4, .int z3), (0, .ref 171), (1, .int b), (2, .int w), (3, .int v)], [.int v, .int z5], 0, 0) 47 2 (fun _ => rfl) h) ?_
    cases b6 : pj_c1 .lt z5 v with
    | true =>
      have ub6 := pj_u_ltT b6
      refine pj_X_of (fun r h => pj_R_icT 54 rfl rfl b6 h) ?_
      refine pj_X_of (fun r h => pj_R_to (G0, 55, [(4, .int z3), (0, .ref 171), (1, .int b), (2, .int w), (3, .int v)], [.int (Int32.ofInt 0)], 0, 0) 55 2 (fun _ => rfl) h) ?_
      exact pj_X_rt rfl rfl ⟨_, rfl, rfl, ⟨by omega, by omega⟩⟩
    | false =>
      have ub6 := pj_u_ltF b6
      refine pj_X_of (fun r h => pj_R_icF rfl b6 h) ?_
      refine pj_X_of (fun r h => pj_R_to (G0, 55, [(4, .int z3), (0, .ref 171), (1, .int b), (2, .int w), (3, .int v)], [.int (Int32.ofInt 1)], 0, 0) 55 3 (fun _ => rfl) h) ?_
      exact pj_X_rt rfl rfl ⟨_, rfl, rfl, ⟨by omega, by omega⟩⟩
  by_cases t7 : w.toInt = 1
  · refine pj_X_of (fun r h => pj_R_tw 56 rfl (n := 1) t7 rfl h) ?_
    refine pj_X_of (fun r h => pj_R_to (G0, 59, [(4, .int z3), (0, .ref 171), (1, .int b), (2, .int w), (3, .int v)], [.int v, .int z3], 0, 0) 59 3 (fun _ => rfl) h) ?_
    cases b8 : pj_c1 .lt z3 v with
    | true =>
      have ub8 := pj_u_ltT b8
      refine pj_X_of (fun r h => pj_R_icT 66 rfl rfl b8 h) ?_
      refine pj_X_of (fun r h => pj_R_to (G0, 67, [(4, .int z3), (0, .ref 171), (1, .int b), (2, .int w), (3, .int v)], [.int (Int32.ofInt 0)], 0, 0) 67 2 (fun _ => rfl) h) ?_
      exact pj_X_rt rfl rfl ⟨_, rfl, rfl, ⟨by omega, by omega⟩⟩
    | false =>
      have ub8 := pj_u_ltF b8
      refine pj_X_of (fun r h => pj_R_icF rfl b8 h) ?_
      refine pj_X_of (fun r h => pj_R_to (G0, 67, [(4, .int z3), (0, .ref 171), (1, .int b), (2, .int w), (3, .int v)], [.int (Int32.ofInt 1)], 0, 0) 67 3 (fun _ => rfl) h) ?_
      exact pj_X_rt rfl rfl ⟨_, rfl, rfl, ⟨by omega, by omega⟩⟩
  by_cases t9 : w.toInt = 2
  · refine pj_X_of (fun r h => pj_R_tw 68 rfl (n := 2) t9 rfl h) ?_
    refine pj_X_of (fun r h => pj_R_to (G0, 69, [(4, .int z3), (0, .ref 171), (1, .int b), (2, .int w), (3, .int v)], [.ref 171], 0, 0) 69 2 (fun _ => rfl) h) ?_
    refine pj_X_of (fun r h => pj_T_gr hI rfl rfl rfl h) ?_
    refine pj_X_of (fun r h => pj_R_to (G0, 73, [(4, .int z3), (0, .ref 171), (1, .int b), (2, .int w), (3, .int v)], [.int b, .ref 177], 0, 0) 73 2 (fun _ => rfl) h) ?_
    refine pj_X_of (fun r h => pj_T_il hI rfl rfl (by omega) (by omega) h) ?_
    show pj_X _ _ G0 74 [(4, .int z3), (0, .ref 171), (1, .int b), (2, .int w), (3, .int v)] [.int (pj_ai G0 177 b.toInt.toNat)] _
    obtain ⟨z10, hz10⟩ : ∃ z : Int32, z = pj_ai G0 177 b.toInt.toNat := ⟨_, rfl⟩
    refine pj_X_eqi hz10.symm ?_
    have ez10 : (pj_ai G0 177 b.toInt.toNat).toInt = z10.toInt := by rw [hz10]
    refine pj_X_of (fun r h => pj_R_to (G0, 77, [(4, .int z3), (0, .ref 171), (1, .int b), (2, .int w), (3, .int v)], [.int (z10 + z3)], 0, 0) 77 3 (fun _ => rfl) h) ?_
    obtain ⟨z11, hz11⟩ : ∃ z : Int32, z = z10 + z3 := ⟨_, rfl⟩
    refine pj_X_eqi hz11.symm ?_
    refine pj_X_of (fun r h => pj_R_to (G0, 79, [(4, .int z3), (0, .ref 171), (1, .int b), (2, .int w), (3, .int v)], [.int ((Int8.ofInt 7).toInt32), .int z11], 0, 0) 79 2 (fun _ => rfl) h) ?_
    refine pj_X_of (fun r h => pj_R_rm rfl (pj_nz (by omega)) h) ?_
    show pj_X _ _ G0 80 [(4, .int z3), (0, .ref 171), (1, .int b), (2, .int w), (3, .int v)] [.int (z11 - z11 / ((Int8.ofInt 7).toInt32) * ((Int8.ofInt 7).toInt32))] _
    obtain ⟨z12, hz12⟩ : ∃ z : Int32, z = z11 - z11 / ((Int8.ofInt 7).toInt32) * ((Int8.ofInt 7).toInt32) := ⟨_, rfl⟩
    refine pj_X_eqi hz12.symm ?_
    refine pj_X_of (fun r h => pj_R_to (G0, 81, [(4, .int z3), (0, .ref 171), (1, .int b), (2, .int w), (3, .int v)], [.int v, .int z12], 0, 0) 81 2 (fun _ => rfl) h) ?_
    cases b13 : pj_c1 .ne z12 v with
    | true =>
      have ub13 := pj_u_neT b13
      refine pj_X_of (fun r h => pj_R_icT 88 rfl rfl b13 h) ?_
      refine pj_X_of (fun r h => pj_R_to (G0, 89, [(4, .int z3), (0, .ref 171), (1, .int b), (2, .int w), (3, .int v)], [.int (Int32.ofInt 0)], 0, 0) 89 2 (fun _ => rfl) h) ?_
      exact pj_X_rt rfl rfl ⟨_, rfl, rfl, ⟨by omega, by omega⟩⟩
    | false =>
      have ub13 := pj_u_neF b13
      refine pj_X_of (fun r h => pj_R_icF rfl b13 h) ?_
      refine pj_X_of (fun r h => pj_R_to (G0, 89, [(4, .int z3), (0, .ref 171), (1, .int b), (2, .int w), (3, .int v)], [.int (Int32.ofInt 1)], 0, 0) 89 3 (fun _ => rfl) h) ?_
      exact pj_X_rt rfl rfl ⟨_, rfl, rfl, ⟨by omega, by omega⟩⟩
  refine pj_X_of (fun r h => pj_R_td 90 rfl (by omega) rfl h) ?_
  refine pj_X_of (fun r h => pj_R_to (G0, 92, [(4, .int z3), (0, .ref 171), (1, .int b), (2, .int w), (3, .int v)], [.int (Int32.ofInt 2), .int b], 0, 0) 92 3 (fun _ => rfl) h) ?_
  refine pj_X_of (fun r h => pj_R_rm rfl (pj_nz (by omega)) h) ?_
  show pj_X _ _ G0 93 [(4, .int z3), (0, .ref 171), (1, .int b), (2, .int w), (3, .int v)] [.int (b - b / (Int32.ofInt 2) * (Int32.ofInt 2))] _
  obtain ⟨z14, hz14⟩ : ∃ z : Int32, z = b - b / (Int32.ofInt 2) * (Int32.ofInt 2) := ⟨_, rfl⟩
  refine pj_X_eqi hz14.symm ?_
  have fz14_0 : 0 ≤ z14.toInt ∧ z14.toInt < (Int32.ofInt 2).toInt := by rw [hz14]; exact pj_remI (by omega) (by omega)
  refine pj_X_of (fun r h => pj_R_to (G0, 94, [(4, .int z3), (0, .ref 171), (1, .int b), (2, .int w), (3, .int v)], [.int v, .int z14], 0, 0) 94 2 (fun _ => rfl) h) ?_
  cases b15 : pj_c1 .ne z14 v with
  | true =>
    have ub15 := pj_u_neT b15
    refine pj_X_of (fun r h => pj_R_icT 101 rfl rfl b15 h) ?_
    refine pj_X_of (fun r h => pj_R_to (G0, 102, [(4, .int z3), (0, .ref 171), (1, .int b), (2, .int w), (3, .int v)], [.int (Int32.ofInt 0)], 0, 0) 102 2 (fun _ => rfl) h) ?_
    exact pj_X_rt rfl rfl ⟨_, rfl, rfl, ⟨by omega, by omega⟩⟩
  | false =>
    have ub15 := pj_u_neF b15
    refine pj_X_of (fun r h => pj_R_icF rfl b15 h) ?_
    refine pj_X_of (fun r h => pj_R_to (G0, 102, [(4, .int z3), (0, .ref 171), (1, .int b), (2, .int w), (3, .int v)], [.int (Int32.ofInt 1)], 0, 0) 102 3 (fun _ => rfl) h) ?_
    exact pj_X_rt rfl rfl ⟨_, rfl, rfl, ⟨by omega, by omega⟩⟩
theorem lp_ct_266 (G0 : pj_G) (hI : pj_Inv G0) : ∀ mn : Nat, (∀ (v1 : Int32) (v2 : Int32), ((-2147483648 : Int) ≤ v1.toInt ∧ v1.toInt ≤ 2147483647) → ((0 : Int) ≤ v2.toInt ∧ v2.toInt ≤ 6) → 30 * (6 - v2.toInt) < (mn : Int) → pj_X 1 pj_m266 G0 4 [(0, .ref 171), (1, .int v1), (2, .int v2)] [] (fun v G' => ∃ y : Int32, v = some (.int y) ∧ G0 = G' ∧ ((-2147483648 : Int) ≤ y.toInt ∧ y.toInt ≤ 2147483647))) ∧ (∀ (v1 : Int32) (v2 : Int32) (v3 : Int32) (v4 : Int32), ((-2147483648 : Int) ≤ v1.toInt ∧ v1.toInt ≤ 2147483647) → ((0 : Int) ≤ v2.toInt ∧ v2.toInt ≤ 5) → ((0 : Int) ≤ v3.toInt ∧ v3.toInt ≤ 1) → ((0 : Int) ≤ v4.toInt ∧ v4.toInt ≤ 12) → 30 * (6 - v2.toInt) - 1 - v4.toInt < (mn : Int) → pj_X 1 pj_m266 G0 17 [(0, .ref 171), (1, .int v1), (2, .int v2), (3, .int v3), (4, .int v4)] [] (fun v G' => ∃ y : Int32, v = some (.int y) ∧ G0 = G' ∧ ((-2147483648 : Int) ≤ y.toInt ∧ y.toInt ≤ 2147483647))) := by
  have c0_ : (Int32.ofInt 0).toInt = 0 := by decide
  have c1_ : (Int32.ofInt 1).toInt = 1 := by decide
  have hK : pj_kpt ([], [], []) G0 G0 := pj_kpt_r _ _
  intro mn
  induction mn with
  | zero =>
    refine ⟨?_, ?_⟩
    · intro v1 v2 rv1 rv2 hm
      exfalso
      omega
    · intro v1 v2 v3 v4 rv1 rv2 rv3 rv4 hm
      exfalso
      omega
  | succ mn ih =>
    refine ⟨?_, ?_⟩
    · intro v1 v2 rv1 rv2 hm
      refine pj_X_of (fun r h => pj_R_to (G0, 6, [(0, .ref 171), (1, .int v1), (2, .int v2)], [.ref 171, .int v2], 0, 0) 6 3 (fun _ => rfl) h) ?_
      refine pj_X_of (fun r h => pj_T_gi hI rfl rfl h) ?_
      show pj_X _ _ G0 9 [(0, .ref 171), (1, .int v1), (2, .int v2)] [.int (pj_fi G0 171 5), .int v2] _
      obtain ⟨y1, hy1⟩ : ∃ z : Int32, z = pj_fi G0 171 5 := ⟨_, rfl⟩
      refine pj_X_eqi hy1.symm ?_
      have ey1 : (pj_fi G0 171 5).toInt = y1.toInt := by rw [hy1]
      have ry1 : (0 : Int) ≤ y1.toInt ∧ y1.toInt ≤ 6 := by rw [hy1]; exact hI.2.1 171 5 (0, 6) rfl
      cases b2 : pj_c1 .ge v2 y1 with
      | true =>
        have ub2 := pj_u_geT b2
        refine pj_X_of (fun r h => pj_R_icT 94 rfl rfl b2 h) ?_
        refine pj_X_of (fun r h => pj_R_to (G0, 95, [(0, .ref 171), (1, .int v1), (2, .int v2)], [.int v1], 0, 0) 95 2 (fun _ => rfl) h) ?_
        exact pj_X_rt rfl rfl ⟨_, rfl, rfl, pj_i32 _⟩
      | false =>
        have ub2 := pj_u_geF b2
        refine pj_X_of (fun r h => pj_R_icF rfl b2 h) ?_
        refine pj_X_of (fun r h => pj_R_to (G0, 17, [(4, .int (Int32.ofInt 0)), (3, .int (Int32.ofInt 1)), (0, .ref 171), (1, .int v1), (2, .int v2)], [], 0, 0) 17 5 (fun _ => rfl) h) ?_
        exact pj_X_sub [(0, .ref 171), (1, .int v1), (2, .int v2), (3, .int (Int32.ofInt 1)), (4, .int (Int32.ofInt 0))] (show List.Nodup [0, 1, 2, 3, 4] by decide) ⟨rfl, rfl, rfl, rfl, rfl, trivial⟩ (ih.2 v1 v2 (Int32.ofInt 1) (Int32.ofInt 0) (pj_i32 _) ⟨by omega, by omega⟩ ⟨by omega, by omega⟩ ⟨by omega, by omega⟩ (by omega))
    · intro v1 v2 v3 v4 rv1 rv2 rv3 rv4 hm
      refine pj_X_of (fun r h => pj_R_to (G0, 20, [(0, .ref 171), (1, .int v1), (2, .int v2), (3, .int v3), (4, .int v4)], [.ref 171, .int v4], 0, 0) 20 3 (fun _ => rfl) h) ?_
      refine pj_X_of (fun r h => pj_T_gi hI rfl rfl h) ?_
      show pj_X _ _ G0 23 [(0, .ref 171), (1, .int v1), (2, .int v2), (3, .int v3), (4, .int v4)] [.int (pj_fi G0 171 48), .int v4] _
      obtain ⟨y3, hy3⟩ : ∃ z : Int32, z = pj_fi G0 171 48 := ⟨_, rfl⟩
      refine pj_X_eqi hy3.symm ?_
      have ey3 : (pj_fi G0 171 48).toInt = y3.toInt := by rw [hy3]
      have ry3 : (0 : Int) ≤ y3.toInt ∧ y3.toInt ≤ 12 := by rw [hy3]; exact hI.2.1 171 48 (0, 12) rfl
      cases b4 : pj_c1 .ge v4 y3 with
      | true =>
        have ub4 := pj_u_geT b4
        refine pj_X_of (fun r h => pj_R_icT 74 rfl rfl b4 h) ?_
        refine pj_X_of (fun r h => pj_R_to (G0, 76, [(0, .ref 171), (1, .int v1), (2, .int v2), (3, .int v3), (4, .int v4)], [.int v3, .int v1], 0, 0) 76 3 (fun _ => rfl) h) ?_
        cases b5 : pj_c1 .eq v3 0 with
        | true =>
          have ub5 := pj_u0_eqT b5
          refine pj_X_of (fun r h => pj_R_ifT 85 rfl rfl b5 h) ?_
          refine pj_X_of (fun r h => pj_R_to (G0, 87, [(0, .ref 171), (1, .int v1), (2, .int v2), (3, .int v3), (4, .int v4)], [.int (v1 ||| (Int32.ofInt 0))], 0, 0) 87 3 (fun _ => rfl) h) ?_
          obtain ⟨z6, hz6⟩ : ∃ z : Int32, z = v1 ||| (Int32.ofInt 0) := ⟨_, rfl⟩
          refine pj_X_eqi hz6.symm ?_
          refine pj_X_of (fun r h => pj_R_to (G0, 91, [(2, .int (v2 + Int32.ofInt 1)), (1, .int z6), (0, .ref 171), (3, .int v3), (4, .int v4)], [], 0, 0) 91 3 (fun _ => rfl) h) ?_
          obtain ⟨z7, hz7⟩ : ∃ z : Int32, z = v2 + Int32.ofInt 1 := ⟨_, rfl⟩
          rw [← hz7]
          have fz7_0 : z7.toInt = v2.toInt + (Int32.ofInt 1).toInt := by rw [hz7]; exact pj_addI (by have := pj_i32 v2; have := pj_i32 (Int32.ofInt 1); omega) (by have := pj_i32 v2; have := pj_i32 (Int32.ofInt 1); omega)
          refine pj_X_of (fun r h => pj_R_to (G0, 4, [(2, .int z7), (1, .int z6), (0, .ref 171), (3, .int v3), (4, .int v4)], [], 0, 0) 4 2 (fun _ => rfl) h) ?_
          exact pj_X_sub [(0, .ref 171), (1, .int z6), (2, .int z7)] (show List.Nodup [0, 1, 2] by decide) ⟨rfl, rfl, rfl, trivial⟩ (ih.1 z6 z7 (pj_i32 _) ⟨by omega, by omega⟩ (by omega))
        | false =>
          have ub5 := pj_u0_eqF b5
          refine pj_X_of (fun r h => pj_R_ifF rfl b5 h) ?_
          refine pj_X_of (fun r h => pj_R_to (G0, 82, [(0, .ref 171), (1, .int v1), (2, .int v2), (3, .int v3), (4, .int v4)], [.int ((Int32.ofInt 1) <<< (v2 &&& 31)), .int v1], 0, 0) 82 4 (fun _ => rfl) h) ?_
          obtain ⟨z8, hz8⟩ : ∃ z : Int32, z = (Int32.ofInt 1) <<< (v2 &&& 31) := ⟨_, rfl⟩
          refine pj_X_eqi hz8.symm ?_
          have fz8_0 : 1 ≤ z8.toInt ∧ z8.toInt ≤ 32 := by rw [hz8]; exact pj_shlI5 (by omega) (by omega)
          refine pj_X_of (fun r h => pj_R_to (G0, 87, [(0, .ref 171), (1, .int v1), (2, .int v2), (3, .int v3), (4, .int v4)], [.int (v1 ||| z8)], 0, 0) 87 3 (fun _ => rfl) h) ?_
          obtain ⟨z9, hz9⟩ : ∃ z : Int32, z = v1 ||| z8 := ⟨_, rfl⟩
          refine pj_X_eqi hz9.symm ?_
          refine pj_X_of (fun r h => pj_R_to (G0, 91, [(2, .int (v2 + Int32.ofInt 1)), (1, .int z9), (0, .ref 171), (3, .int v3), (4, .int v4)], [], 0, 0) 91 3 (fun _ => rfl) h) ?_
          obtain ⟨z10, hz10⟩ : ∃ z : Int32, z = v2 + Int32.ofInt 1 := ⟨_, rfl⟩
          rw [← hz10]
          have fz10_0 : z10.toInt = v2.toInt + (Int32.ofInt 1).toInt := by rw [hz10]; exact pj_addI (by have := pj_i32 v2; have := pj_i32 (Int32.ofInt 1); omega) (by have := pj_i32 v2; have := pj_i32 (Int32.ofInt 1); omega)
          refine pj_X_of (fun r h => pj_R_to (G0, 4, [(2, .int z10), (1, .int z9), (0, .ref 171), (3, .int v3), (4, .int v4)], [], 0, 0) 4 2 (fun _ => rfl) h) ?_
          exact pj_X_sub [(0, .ref 171), (1, .int z9), (2, .int z10)] (show List.Nodup [0, 1, 2] by decide) ⟨rfl, rfl, rfl, trivial⟩ (ih.1 z9 z10 (pj_i32 _) ⟨by omega, by omega⟩ (by omega))
      | false =>
        have ub4 := pj_u_geF b4
        refine pj_X_of (fun r h => pj_R_icF rfl b4 h) ?_
        refine pj_X_of (fun r h => pj_R_to (G0, 27, [(0, .ref 171), (1, .int v1), (2, .int v2), (3, .int v3), (4, .int v4)], [.int v3], 0, 0) 27 2 (fun _ => rfl) h) ?_
        cases b11 : pj_c1 .eq v3 0 with
        | true =>
          have ub11 := pj_u0_eqT b11
          refine pj_X_of (fun r h => pj_R_ifT 66 rfl rfl b11 h) ?_
          refine pj_X_of (fun r h => pj_R_to (G0, 71, [(4, .int (v4 + Int32.ofInt 1)), (3, .int (Int32.ofInt 0)), (0, .ref 171), (1, .int v1), (2, .int v2)], [], 0, 0) 71 4 (fun _ => rfl) h) ?_
          obtain ⟨z12, hz12⟩ : ∃ z : Int32, z = v4 + Int32.ofInt 1 := ⟨_, rfl⟩
          rw [← hz12]
          have fz12_0 : z12.toInt = v4.toInt + (Int32.ofInt 1).toInt := by rw [hz12]; exact pj_addI (by have := pj_i32 v4; have := pj_i32 (Int32.ofInt 1); omega) (by have := pj_i32 v4; have := pj_i32 (Int32.ofInt 1); omega)
          refine pj_X_of (fun r h => pj_R_to (G0, 17, [(4, .int z12), (3, .int (Int32.ofInt 0)), (0, .ref 171), (1, .int v1), (2, .int v2)], [], 0, 0) 17 2 (fun _ => rfl) h) ?_
          exact pj_X_sub [(0, .ref 171), (1, .int v1), (2, .int v2), (3, .int (Int32.ofInt 0)), (4, .int z12)] (show List.Nodup [0, 1, 2, 3, 4] by decide) ⟨rfl, rfl, rfl, rfl, rfl, trivial⟩ (ih.2 v1 v2 (Int32.ofInt 0) z12 (pj_i32 _) ⟨by omega, by omega⟩ ⟨by omega, by omega⟩ ⟨by omega, by omega⟩ (by omega))
        | false =>
          have ub11 := pj_u0_eqF b11
          refine pj_X_of (fun r h => pj_R_ifF rfl b11 h) ?_
          refine pj_X_of (fun r h => pj_R_to (G0, 33, [(0, .ref 171), (1, .int v1), (2, .int v2), (3, .int v3), (4, .int v4)], [.ref 171, .int v2, .ref 171], 0, 0) 33 4 (fun _ => rfl) h) ?_
          refine pj_X_of (fun r h => pj_T_gr hI rfl rfl rfl h) ?_
          refine pj_X_of (fun r h => pj_R_to (G0, 38, [(0, .ref 171), (1, .int v1), (2, .int v2), (3, .int v3), (4, .int v4)], [.int v4, .ref 196, .int v2, .ref 171], 0, 0) 38 2 (fun _ => rfl) h) ?_
          refine pj_X_of (fun r h => pj_T_il hI rfl rfl (by omega) (by omega) h) ?_
          show pj_X _ _ G0 39 [(0, .ref 171), (1, .int v1), (2, .int v2), (3, .int v3), (4, .int v4)] [.int (pj_ai G0 196 v4.toInt.toNat), .int v2, .ref 171] _
          obtain ⟨z13, hz13⟩ : ∃ z : Int32, z = pj_ai G0 196 v4.toInt.toNat := ⟨_, rfl⟩
          refine pj_X_eqi hz13.symm ?_
          have ez13 : (pj_ai G0 196 v4.toInt.toNat).toInt = z13.toInt := by rw [hz13]
          refine pj_X_of (fun r h => pj_R_to (G0, 40, [(0, .ref 171), (1, .int v1), (2, .int v2), (3, .int v3), (4, .int v4)], [.ref 171, .int z13, .int v2, .ref 171], 0, 0) 40 2 (fun _ => rfl) h) ?_
          refine pj_X_of (fun r h => pj_T_gr hI rfl rfl rfl h) ?_
          refine pj_X_of (fun r h => pj_R_to (G0, 45, [(0, .ref 171), (1, .int v1), (2, .int v2), (3, .int v3), (4, .int v4)], [.int v4, .ref 197, .int z13, .int v2, .ref 171], 0, 0) 45 2 (fun _ => rfl) h) ?_
          refine pj_X_of (fun r h => pj_T_il hI rfl rfl (by omega) (by omega) h) ?_
          show pj_X _ _ G0 46 [(0, .ref 171), (1, .int v1), (2, .int v2), (3, .int v3), (4, .int v4)] [.int (pj_ai G0 197 v4.toInt.toNat), .int z13, .int v2, .ref 171] _
          obtain ⟨z14, hz14⟩ : ∃ z : Int32, z = pj_ai G0 197 v4.toInt.toNat := ⟨_, rfl⟩
          refine pj_X_eqi hz14.symm ?_
          have ez14 : (pj_ai G0 197 v4.toInt.toNat).toInt = z14.toInt := by rw [hz14]
          refine pj_X_ca (vs := [.ref 171, .int v2, .int z13, .int z14]) rfl (fun _ => rfl) ⟨Nat.le_of_ble_eq_true rfl, Nat.le_of_ble_eq_true rfl, pj_T_rcv hI rfl⟩ ⟨rfl, rfl⟩ (pj_Y_up (by decide) (ct_265 G0 hI v2 z13 z14 ⟨by omega, by omega⟩)) ?_
          rintro _ _ ⟨y15, rfl, rfl, ry15⟩
          show pj_X _ _ G0 49 [(0, .ref 171), (1, .int v1), (2, .int v2), (3, .int v3), (4, .int v4)] [.int y15] _
          refine pj_X_ca (vs := [.int y15]) rfl (fun _ => rfl) ⟨Nat.le_of_ble_eq_true rfl, Nat.le_of_ble_eq_true rfl, rfl⟩ ⟨rfl, rfl⟩ (pj_Y_up (by decide) (ct_172x G0 hI y15 ⟨by omega, by omega⟩)) ?_
          rintro _ _ ⟨y16, rfl, rfl, ry16, ey16, fy16⟩
          show pj_X _ _ G0 52 [(0, .ref 171), (1, .int v1), (2, .int v2), (3, .int v3), (4, .int v4)] [.int y16] _
          refine pj_X_of (fun r h => pj_R_to (G0, 53, [(0, .ref 171), (1, .int v1), (2, .int v2), (3, .int v3), (4, .int v4)], [.ref 171, .int y16], 0, 0) 53 2 (fun _ => rfl) h) ?_
          refine pj_X_of (fun r h => pj_T_gr hI rfl rfl rfl h) ?_
          refine pj_X_of (fun r h => pj_R_to (G0, 58, [(0, .ref 171), (1, .int v1), (2, .int v2), (3, .int v3), (4, .int v4)], [.int v4, .ref 198, .int y16], 0, 0) 58 2 (fun _ => rfl) h) ?_
          refine pj_X_of (fun r h => pj_T_il hI rfl rfl (by omega) (by omega) h) ?_
          show pj_X _ _ G0 59 [(0, .ref 171), (1, .int v1), (2, .int v2), (3, .int v3), (4, .int v4)] [.int (pj_ai G0 198 v4.toInt.toNat), .int y16] _
          obtain ⟨z17, hz17⟩ : ∃ z : Int32, z = pj_ai G0 198 v4.toInt.toNat := ⟨_, rfl⟩
          refine pj_X_eqi hz17.symm ?_
          have ez17 : (pj_ai G0 198 v4.toInt.toNat).toInt = z17.toInt := by rw [hz17]
          cases b18 : pj_c1 .ne y16 z17 with
          | true =>
            have ub18 := pj_u_neT b18
            refine pj_X_of (fun r h => pj_R_icT 66 rfl rfl b18 h) ?_
            refine pj_X_of (fun r h => pj_R_to (G0, 71, [(4, .int (v4 + Int32.ofInt 1)), (3, .int (Int32.ofInt 0)), (0, .ref 171), (1, .int v1), (2, .int v2)], [], 0, 0) 71 4 (fun _ => rfl) h) ?_
            obtain ⟨z19, hz19⟩ : ∃ z : Int32, z = v4 + Int32.ofInt 1 := ⟨_, rfl⟩
            rw [← hz19]
            have fz19_0 : z19.toInt = v4.toInt + (Int32.ofInt 1).toInt := by rw [hz19]; exact pj_addI (by have := pj_i32 v4; have := pj_i32 (Int32.ofInt 1); omega) (by have := pj_i32 v4; have := pj_i32 (Int32.ofInt 1); omega)
            refine pj_X_of (fun r h => pj_R_to (G0, 17, [(4, .int z19), (3, .int (Int32.ofInt 0)), (0, .ref 171), (1, .int v1), (2, .int v2)], [], 0, 0) 17 2 (fun _ => rfl) h) ?_
            exact pj_X_sub [(0, .ref 171), (1, .int v1), (2, .int v2), (3, .int (Int32.ofInt 0)), (4, .int z19)] (show List.Nodup [0, 1, 2, 3, 4] by decide) ⟨rfl, rfl, rfl, rfl, rfl, trivial⟩ (ih.2 v1 v2 (Int32.ofInt 0) z19 (pj_i32 _) ⟨by omega, by omega⟩ ⟨by omega, by omega⟩ ⟨by omega, by omega⟩ (by omega))
          | false =>
            have ub18 := pj_u_neF b18
            refine pj_X_of (fun r h => pj_R_icF rfl b18 h) ?_
            refine pj_X_of (fun r h => pj_R_to (G0, 71, [(4, .int (v4 + Int32.ofInt 1)), (3, .int (Int32.ofInt 1)), (0, .ref 171), (1, .int v1), (2, .int v2)], [], 0, 0) 71 5 (fun _ => rfl) h) ?_
            obtain ⟨z20, hz20⟩ : ∃ z : Int32, z = v4 + Int32.ofInt 1 := ⟨_, rfl⟩
            rw [← hz20]
            have fz20_0 : z20.toInt = v4.toInt + (Int32.ofInt 1).toInt := by rw [hz20]; exact pj_addI (by have := pj_i32 v4; have := pj_i32 (Int32.ofInt 1); omega) (by have := pj_i32 v4; have := pj_i32 (Int32.ofInt 1); omega)
            refine pj_X_of (fun r h => pj_R_to (G0, 17, [(4, .int z20), (3, .int (Int32.ofInt 1)), (0, .ref 171), (1, .int v1), (2, .int v2)], [], 0, 0) 17 2 (fun _ => rfl) h) ?_
            exact pj_X_sub [(0, .ref 171), (1, .int v1), (2, .int v2), (3, .int (Int32.ofInt 1)), (4, .int z20)] (show List.Nodup [0, 1, 2, 3, 4] by decide) ⟨rfl, rfl, rfl, rfl, rfl, trivial⟩ (ih.2 v1 v2 (Int32.ofInt 1) z20 (pj_i32 _) ⟨by omega, by omega⟩ ⟨by omega, by omega⟩ ⟨by omega, by omega⟩ (by omega))
theorem ct_266 (G0 : pj_G) (hI : pj_Inv G0) : pj_Y 2 266 [.ref 171] G0 (fun v G' => ∃ y : Int32, v = some (.int y) ∧ G0 = G' ∧ ((-2147483648 : Int) ≤ y.toInt ∧ y.toInt ≤ 2147483647)) := by
  have c0_ : (Int32.ofInt 0).toInt = 0 := by decide
  have c1_ : (Int32.ofInt 1).toInt = 1 := by decide
  refine pj_Y_X (M := pj_m266) rfl rfl (Nat.le_of_ble_eq_true rfl) ?_
  have hK : pj_kpt ([], [], []) G0 G0 := pj_kpt_r _ _
  show pj_X _ _ G0 0 [(0, .ref 171)] [] _
  refine pj_X_of (fun r h => pj_R_to (G0, 4, [(2, .int (Int32.ofInt 0)), (1, .int (Int32.ofInt 0)), (0, .ref 171)], [], 0, 0) 4 5 (fun _ => rfl) h) ?_
  exact pj_X_sub [(0, .ref 171), (1, .int (Int32.ofInt 0)), (2, .int (Int32.ofInt 0))] (show List.Nodup [0, 1, 2] by decide) ⟨rfl, rfl, rfl, trivial⟩ ((lp_ct_266 G0 hI   301).1 (Int32.ofInt 0) (Int32.ofInt 0) (pj_i32 _) ⟨by omega, by omega⟩ (by omega))
def kc_267 : pj_KT := ([(171, 0), (171, 1)], [171, 172], [])
theorem ct_267 (G0 : pj_G) (hI : pj_Inv G0) : pj_Y 3 267 [.ref 171] G0 (fun v G' => ∃ y : Int32, v = some (.int y) ∧ pj_Inv G' ∧ pj_kpt kc_267 G0 G' ∧ ((-2147483648 : Int) ≤ y.toInt ∧ y.toInt ≤ 2147483647)) := by
  have c0_ : (Int32.ofInt 0).toInt = 0 := by decide
  refine pj_Y_X (M := pj_m267) rfl rfl (Nat.le_of_ble_eq_true rfl) ?_
  have hK : pj_kpt kc_267 G0 G0 := pj_kpt_r _ _
  show pj_X _ _ G0 0 [(0, .ref 171)] [] _
  obtain ⟨y1, hy1⟩ : ∃ z : Int32, z = pj_fi G0 171 1 := ⟨_, rfl⟩
  have ey1 : (pj_fi G0 171 1).toInt = y1.toInt := by rw [hy1]
  have ry1 : (0 : Int) ≤ y1.toInt ∧ y1.toInt ≤ 24 := by rw [hy1]; exact hI.2.1 171 1 (0, 24) rfl
  refine pj_X_of (fun r h => pj_R_to (G0, 2, [(0, .ref 171)], [.int (Int32.ofInt 0), .ref 171], 0, 0) 2 3 (fun _ => rfl) h) ?_
  refine pj_X_of (fun r h => pj_T_pf hI rfl rfl rfl h) ?_
  show pj_X _ _ (pj_wv G0 171 0 (.int (Int32.ofInt 0))) 5 [(0, .ref 171)] [] _
  obtain ⟨G2, hG2⟩ : ∃ H, H = pj_wv G0 171 0 (.int (Int32.ofInt 0)) := ⟨_, rfl⟩
  have iG2 : pj_Inv G2 := by rw [hG2]; exact pj_Inv_wi hI (ci := 12) rfl (fun q hq => by cases hq)
  have kG2 : pj_kpt kc_267 G0 G2 := by rw [hG2]; exact pj_kpt_v hK rfl
  rw [← hG2]
  refine pj_X_of (fun r h => pj_R_to (G2, 6, [(0, .ref 171)], [.ref 171], 0, 0) 6 2 (fun _ => rfl) h) ?_
  have q3 : (pj_fi G2 171 1).toInt = y1.toInt := by rw [show pj_fi G2 171 1 = y1 from by rw [hG2, pj_fi_wv_ne _ _ _ _ _ _ (by decide)]; exact hy1.symm]
  refine pj_X_ca (vs := [.ref 171]) rfl (fun _ => rfl) ⟨Nat.le_of_ble_eq_true rfl, Nat.le_of_ble_eq_true rfl, pj_T_rcv iG2 rfl⟩ ⟨rfl, rfl⟩ (pj_Y_up (by decide) (ct_266 G2 iG2)) ?_
  rintro _ _ ⟨y4, rfl, rfl, ry4⟩
  show pj_X _ _ G2 9 [(0, .ref 171)] [.int y4] _
  refine pj_X_of (fun r h => pj_R_to (G2, 12, [(1, .int y4), (0, .ref 171)], [.int (Int32.ofInt 0), .ref 171], 0, 0) 12 4 (fun _ => rfl) h) ?_
  refine pj_X_of (fun r h => pj_T_pf iG2 rfl rfl rfl h) ?_
  show pj_X _ _ (pj_wv G2 171 1 (.int (Int32.ofInt 0))) 15 [(1, .int y4), (0, .ref 171)] [] _
  obtain ⟨G5, hG5⟩ : ∃ H, H = pj_wv G2 171 1 (.int (Int32.ofInt 0)) := ⟨_, rfl⟩
  have iG5 : pj_Inv G5 := by rw [hG5]; exact pj_Inv_wi iG2 (ci := 12) rfl (fun q hq => by cases hq; exact ⟨by show (0 : Int) ≤ _; omega, by show _ ≤ (24 : Int); omega⟩)
  have kG5 : pj_kpt kc_267 G0 G5 := by rw [hG5]; exact pj_kpt_v kG2 rfl
  rw [← hG5]
  refine pj_X_of (fun r h => pj_R_to (G5, 17, [(1, .int y4), (0, .ref 171)], [.int y4, .ref 171], 0, 0) 17 3 (fun _ => rfl) h) ?_
  have q6 : (pj_fi G5 171 1).toInt = (Int32.ofInt 0).toInt := by rw [show pj_fi G5 171 1 = Int32.ofInt 0 from by rw [hG5]; exact pj_fi_wi iG2.1 (ci := 12) rfl _]
  refine pj_X_ca (vs := [.int y4]) rfl (fun _ => rfl) ⟨Nat.le_of_ble_eq_true rfl, Nat.le_of_ble_eq_true rfl, rfl⟩ ⟨rfl, rfl⟩ (pj_Y_up (by decide) (ct_287 G5 iG5 y4)) ?_
  rintro _ _ ⟨y7, rfl, rfl, ry7⟩
  show pj_X _ _ G5 20 [(1, .int y4), (0, .ref 171)] [.int y7, .ref 171] _
  refine pj_X_of (fun r h => pj_R_to (G5, 21, [(1, .int y4), (0, .ref 171)], [.long y7.toInt64, .ref 171], 0, 0) 21 2 (fun _ => rfl) h) ?_
  have q8 : (pj_fi G5 171 1).toInt = (Int32.ofInt 0).toInt := by rw [show pj_fi G5 171 1 = Int32.ofInt 0 from by rw [hG5]; exact pj_fi_wi iG2.1 (ci := 12) rfl _]
  have lc9 : (y7.toInt64).toInt = y7.toInt := Int32.toInt_toInt64 _
  refine pj_X_ca (vs := [.ref 171, .long y7.toInt64]) rfl (fun _ => rfl) ⟨Nat.le_of_ble_eq_true rfl, Nat.le_of_ble_eq_true rfl, pj_T_rcv iG5 rfl⟩ ⟨rfl, rfl⟩ (pj_Y_up (by decide) (ct_174x G5 iG5 y7.toInt64 (by omega))) ?_
  rintro _ G11 ⟨rfl, iG11, jG11, eG11, fy10⟩
  replace eG11 := eG11 _ rfl
  have kG11 : pj_kpt kc_267 G0 G11 := pj_kpt_t kG5 (pj_kpt_s jG11 rfl)
  obtain ⟨y12, hy12⟩ : ∃ z : Int32, z = pj_fi G11 171 1 := ⟨_, rfl⟩
  have ey12 : (pj_fi G11 171 1).toInt = y12.toInt := by rw [hy12]
  have ry12 : (0 : Int) ≤ y12.toInt ∧ y12.toInt ≤ 24 := by rw [hy12]; exact iG11.2.1 171 1 (0, 24) rfl
  show pj_X _ _ G11 24 [(1, .int y4), (0, .ref 171)] [] _
  refine pj_X_of (fun r h => pj_R_to (G11, 25, [(1, .int y4), (0, .ref 171)], [.int y4], 0, 0) 25 2 (fun _ => rfl) h) ?_
  have q13 : (pj_fi G11 171 1).toInt = y12.toInt := by rw [show pj_fi G11 171 1 = y12 from hy12.symm]
  exact pj_X_rt rfl rfl ⟨_, rfl, iG11, kG11, pj_i32 _⟩
def kc_268 : pj_KT := ([(171, 0), (171, 1)], [171, 172], [])
theorem lp_ct_268 (G0 : pj_G) (hI0 : pj_Inv G0) : ∀ mn : Nat, (∀ (G : pj_G) (hI : pj_Inv G) (hK : pj_kpt kc_268 G0 G) (v1 : Int32) (v2 : Int32) (v3 : Int32) (v4 : Int32), ((-2147483648 : Int) ≤ v1.toInt ∧ v1.toInt ≤ 2147483647) → ((-2147483648 : Int) ≤ v2.toInt ∧ v2.toInt ≤ 2147483647) → ((-2147483648 : Int) ≤ v3.toInt ∧ v3.toInt ≤ 2147483647) → ((0 : Int) ≤ v4.toInt ∧ v4.toInt ≤ 4) → 1000 * (4 - v4.toInt) < (mn : Int) → pj_X 2 pj_m268 G 26 [(0, .ref 171), (1, .int v1), (2, .int v2), (3, .int v3), (4, .int v4)] [] (fun v G' => ∃ y : Int32, v = some (.int y) ∧ pj_Inv G' ∧ pj_kpt kc_268 G0 G' ∧ ((-2147483648 : Int) ≤ y.toInt ∧ y.toInt ≤ 2147483647))) ∧ (∀ (G : pj_G) (hI : pj_Inv G) (hK : pj_kpt kc_268 G0 G) (v1 : Int32) (v2 : Int32) (v3 : Int32) (v4 : Int32) (v5 : Int32), ((-2147483648 : Int) ≤ v1.toInt ∧ v1.toInt ≤ 2147483647) → ((-2147483648 : Int) ≤ v2.toInt ∧ v2.toInt ≤ 2147483647) → ((-2147483648 : Int) ≤ v3.toInt ∧ v3.toInt ≤ 2147483647) → ((0 : Int) ≤ v4.toInt ∧ v4.toInt ≤ 3) → ((0 : Int) ≤ v5.toInt ∧ v5.toInt ≤ 19) → 1000 * (4 - v4.toInt) - 1 - 20 * v5.toInt < (mn : Int) → pj_X 2 pj_m268 G 35 [(0, .ref 171), (1, .int v1), (2, .int v2), (3, .int v3), (4, .int v4), (5, .int v5)] [] (fun v G' => ∃ y : Int32, v = some (.int y) ∧ pj_Inv G' ∧ pj_kpt kc_268 G0 G' ∧ ((-2147483648 : Int) ≤ y.toInt ∧ y.toInt ≤ 2147483647))) ∧ (∀ (G : pj_G) (hI : pj_Inv G) (hK : pj_kpt kc_268 G0 G) (v1 : Int32) (v2 : Int32) (v3 : Int32) (v4 : Int32) (v5 : Int32) (v6 : Int32) (v7 : Int32), ((-2147483648 : Int) ≤ v1.toInt ∧ v1.toInt ≤ 2147483647) → ((-2147483648 : Int) ≤ v2.toInt ∧ v2.toInt ≤ 2147483647) → ((-2147483648 : Int) ≤ v3.toInt ∧ v3.toInt ≤ 2147483647) → ((0 : Int) ≤ v4.toInt ∧ v4.toInt ≤ 3) → ((0 : Int) ≤ v5.toInt ∧ v5.toInt ≤ 18) → ((-2147483648 : Int) ≤ v6.toInt ∧ v6.toInt ≤ 2147483647) → ((0 : Int) ≤ v7.toInt ∧ v7.toInt ≤ 6) → 1000 * (4 - v4.toInt) - 2 - 20 * v5.toInt - v7.toInt < (mn : Int) → pj_X 2 pj_m268 G 51 [(0, .ref 171), (1, .int v1), (2, .int v2), (3, .int v3), (4, .int v4), (5, .int v5), (6, .int v6), (7, .int v7)] [] (fun v G' => ∃ y : Int32, v = some (.int y) ∧ pj_Inv G' ∧ pj_kpt kc_268 G0 G' ∧ ((-2147483648 : Int) ≤ y.toInt ∧ y.toInt ≤ 2147483647))) := by
  have c0_ : ((Int16.ofInt 1000).toInt32).toInt = 1000 := by decide
  have c1_ : ((Int8.ofInt (-2)).toInt32).toInt = -2 := by decide
  have c2_ : ((Int8.ofInt 19).toInt32).toInt = 19 := by decide
  have c3_ : (Int32.ofInt (-1)).toInt = -1 := by decide
  have c4_ : (Int32.ofInt 0).toInt = 0 := by decide
  have c5_ : (Int32.ofInt 1).toInt = 1 := by decide
  have c6_ : (Int32.ofInt 4).toInt = 4 := by decide
  intro mn
  induction mn with
  | zero =>
    refine ⟨?_, ?_, ?_⟩
    · intro G hI hK v1 v2 v3 v4 rv1 rv2 rv3 rv4 hm
      exfalso
      omega
    · intro G hI hK v1 v2 v3 v4 v5 rv1 rv2 rv3 rv4 rv5 hm
      exfalso
      omega
    · intro G hI hK v1 v2 v3 v4 v5 v6 v7 rv1 rv2 rv3 rv4 rv5 rv6 rv7 hm
      exfalso
      omega
  | succ mn ih =>
    refine ⟨?_, ?_, ?_⟩
    · intro G hI hK v1 v2 v3 v4 rv1 rv2 rv3 rv4 hm
      obtain ⟨y1, hy1⟩ : ∃ z : Int32, z = pj_fi G 171 1 := ⟨_, rfl⟩
      have ey1 : (pj_fi G 171 1).toInt = y1.toInt := by rw [hy1]
      have ry1 : (0 : Int) ≤ y1.toInt ∧ y1.toInt ≤ 24 := by rw [hy1]; exact hI.2.1 171 1 (0, 24) rfl
      refine pj_X_of (fun r h => pj_R_to (G, 29, [(0, .ref 171), (1, .int v1), (2, .int v2), (3, .int v3), (4, .int v4)], [.int (Int32.ofInt 4), .int v4], 0, 0) 29 3 (fun _ => rfl) h) ?_
      cases b2 : pj_c1 .ge v4 (Int32.ofInt 4) with
      | true =>
        have ub2 := pj_u_geT b2
        refine pj_X_of (fun r h => pj_R_icT 153 rfl rfl b2 h) ?_
        refine pj_X_of (fun r h => pj_R_to (G, 155, [(0, .ref 171), (1, .int v1), (2, .int v2), (3, .int v3), (4, .int v4)], [.int (Int32.ofInt 0), .ref 171], 0, 0) 155 3 (fun _ => rfl) h) ?_
        refine pj_X_of (fun r h => pj_T_pf hI rfl rfl rfl h) ?_
        show pj_X _ _ (pj_wv G 171 1 (.int (Int32.ofInt 0))) 158 [(0, .ref 171), (1, .int v1), (2, .int v2), (3, .int v3), (4, .int v4)] [] _
        obtain ⟨G3, hG3⟩ : ∃ H, H = pj_wv G 171 1 (.int (Int32.ofInt 0)) := ⟨_, rfl⟩
        have iG3 : pj_Inv G3 := by rw [hG3]; exact pj_Inv_wi hI (ci := 12) rfl (fun q hq => by cases hq; exact ⟨by show (0 : Int) ≤ _; omega, by show _ ≤ (24 : Int); omega⟩)
        have kG3 : pj_kpt kc_268 G0 G3 := by rw [hG3]; exact pj_kpt_v hK rfl
        rw [← hG3]
        refine pj_X_of (fun r h => pj_R_to (G3, 161, [(0, .ref 171), (1, .int v1), (2, .int v2), (3, .int v3), (4, .int v4)], [.long v3.toInt64, .ref 171], 0, 0) 161 4 (fun _ => rfl) h) ?_
        have q4 : (pj_fi G3 171 1).toInt = (Int32.ofInt 0).toInt := by rw [show pj_fi G3 171 1 = Int32.ofInt 0 from by rw [hG3]; exact pj_fi_wi hI.1 (ci := 12) rfl _]
        have lc5 : (v3.toInt64).toInt = v3.toInt := Int32.toInt_toInt64 _
        refine pj_X_ca (vs := [.ref 171, .long v3.toInt64]) rfl (fun _ => rfl) ⟨Nat.le_of_ble_eq_true rfl, Nat.le_of_ble_eq_true rfl, pj_T_rcv iG3 rfl⟩ ⟨rfl, rfl⟩ (pj_Y_up (by decide) (ct_174x G3 iG3 v3.toInt64 (by omega))) ?_
        rintro _ G7 ⟨rfl, iG7, jG7, eG7, fy6⟩
        replace eG7 := eG7 _ rfl
        have kG7 : pj_kpt kc_268 G0 G7 := pj_kpt_t kG3 (pj_kpt_s jG7 rfl)
        obtain ⟨y8, hy8⟩ : ∃ z : Int32, z = pj_fi G7 171 1 := ⟨_, rfl⟩
        have ey8 : (pj_fi G7 171 1).toInt = y8.toInt := by rw [hy8]
        have ry8 : (0 : Int) ≤ y8.toInt ∧ y8.toInt ≤ 24 := by rw [hy8]; exact iG7.2.1 171 1 (0, 24) rfl
        show pj_X _ _ G7 164 [(0, .ref 171), (1, .int v1), (2, .int v2), (3, .int v3), (4, .int v4)] [] _
        refine pj_X_of (fun r h => pj_R_to (G7, 165, [(0, .ref 171), (1, .int v1), (2, .int v2), (3, .int v3), (4, .int v4)], [.int v2], 0, 0) 165 2 (fun _ => rfl) h) ?_
        have q9 : (pj_fi G7 171 1).toInt = y8.toInt := by rw [show pj_fi G7 171 1 = y8 from hy8.symm]
        exact pj_X_rt rfl rfl ⟨_, rfl, iG7, kG7, pj_i32 _⟩
      | false =>
        have ub2 := pj_u_geF b2
        refine pj_X_of (fun r h => pj_R_icF rfl b2 h) ?_
        refine pj_X_of (fun r h => pj_R_to (G, 35, [(5, .int (Int32.ofInt 0)), (0, .ref 171), (1, .int v1), (2, .int v2), (3, .int v3), (4, .int v4)], [], 0, 0) 35 3 (fun _ => rfl) h) ?_
        have q10 : (pj_fi G 171 1).toInt = y1.toInt := by rw [show pj_fi G 171 1 = y1 from hy1.symm]
        exact pj_X_sub [(0, .ref 171), (1, .int v1), (2, .int v2), (3, .int v3), (4, .int v4), (5, .int (Int32.ofInt 0))] (show List.Nodup [0, 1, 2, 3, 4, 5] by decide) ⟨rfl, rfl, rfl, rfl, rfl, rfl, trivial⟩ (ih.2.1 G hI hK v1 v2 v3 v4 (Int32.ofInt 0) (pj_i32 _) (pj_i32 _) (pj_i32 _) ⟨by omega, by omega⟩ ⟨by omega, by omega⟩ (by omega))
    · intro G hI hK v1 v2 v3 v4 v5 rv1 rv2 rv3 rv4 rv5 hm
      obtain ⟨y11, hy11⟩ : ∃ z : Int32, z = pj_fi G 171 1 := ⟨_, rfl⟩
      have ey11 : (pj_fi G 171 1).toInt = y11.toInt := by rw [hy11]
      have ry11 : (0 : Int) ≤ y11.toInt ∧ y11.toInt ≤ 24 := by rw [hy11]; exact hI.2.1 171 1 (0, 24) rfl
      refine pj_X_of (fun r h => pj_R_to (G, 39, [(0, .ref 171), (1, .int v1), (2, .int v2), (3, .int v3), (4, .int v4), (5, .int v5)], [.int v4, .int v5], 0, 0) 39 3 (fun _ => rfl) h) ?_
      have q12 : (pj_fi G 171 1).toInt = y11.toInt := by rw [show pj_fi G 171 1 = y11 from hy11.symm]
      refine pj_X_ca (vs := [.int v4]) rfl (fun _ => rfl) ⟨Nat.le_of_ble_eq_true rfl, Nat.le_of_ble_eq_true rfl, rfl⟩ ⟨rfl, rfl⟩ (pj_Y_up (by decide) (ct_262 G hI v4)) ?_
      rintro _ _ ⟨y13, rfl, rfl, ry13⟩
      show pj_X _ _ G 42 [(0, .ref 171), (1, .int v1), (2, .int v2), (3, .int v3), (4, .int v4), (5, .int v5)] [.int y13, .int v5] _
      cases b14 : pj_c1 .gt v5 y13 with
      | true =>
        have ub14 := pj_u_gtT b14
        refine pj_X_of (fun r h => pj_R_icT 147 rfl rfl b14 h) ?_
        refine pj_X_of (fun r h => pj_R_to (G, 150, [(4, .int (v4 + Int32.ofInt 1)), (0, .ref 171), (1, .int v1), (2, .int v2), (3, .int v3), (5, .int v5)], [], 0, 0) 150 2 (fun _ => rfl) h) ?_
        obtain ⟨z15, hz15⟩ : ∃ z : Int32, z = v4 + Int32.ofInt 1 := ⟨_, rfl⟩
        rw [← hz15]
        have fz15_0 : z15.toInt = v4.toInt + (Int32.ofInt 1).toInt := by rw [hz15]; exact pj_addI (by have := pj_i32 v4; have := pj_i32 (Int32.ofInt 1); omega) (by have := pj_i32 v4; have := pj_i32 (Int32.ofInt 1); omega)
        refine pj_X_of (fun r h => pj_R_to (G, 26, [(4, .int z15), (0, .ref 171), (1, .int v1), (2, .int v2), (3, .int v3), (5, .int v5)], [], 0, 0) 26 2 (fun _ => rfl) h) ?_
        have q16 : (pj_fi G 171 1).toInt = y11.toInt := by rw [show pj_fi G 171 1 = y11 from hy11.symm]
        exact pj_X_sub [(0, .ref 171), (1, .int v1), (2, .int v2), (3, .int v3), (4, .int z15)] (show List.Nodup [0, 1, 2, 3, 4] by decide) ⟨rfl, rfl, rfl, rfl, rfl, trivial⟩ (ih.1 G hI hK v1 v2 v3 z15 (pj_i32 _) (pj_i32 _) (pj_i32 _) ⟨by omega, by omega⟩ (by omega))
      | false =>
        have ub14 := pj_u_gtF b14
        refine pj_X_of (fun r h => pj_R_icF rfl b14 h) ?_
        refine pj_X_of (fun r h => pj_R_to (G, 51, [(7, .int (Int32.ofInt 0)), (6, .int (Int32.ofInt 0)), (0, .ref 171), (1, .int v1), (2, .int v2), (3, .int v3), (4, .int v4), (5, .int v5)], [], 0, 0) 51 5 (fun _ => rfl) h) ?_
        have q17 : (pj_fi G 171 1).toInt = y11.toInt := by rw [show pj_fi G 171 1 = y11 from hy11.symm]
        exact pj_X_sub [(0, .ref 171), (1, .int v1), (2, .int v2), (3, .int v3), (4, .int v4), (5, .int v5), (6, .int (Int32.ofInt 0)), (7, .int (Int32.ofInt 0))] (show List.Nodup [0, 1, 2, 3, 4, 5, 6, 7] by decide) ⟨rfl, rfl, rfl, rfl, rfl, rfl, rfl, rfl, trivial⟩ (ih.2.2 G hI hK v1 v2 v3 v4 v5 (Int32.ofInt 0) (Int32.ofInt 0) (pj_i32 _) (pj_i32 _) (pj_i32 _) ⟨by omega, by omega⟩ ⟨by omega, by omega⟩ (pj_i32 _) ⟨by omega, by omega⟩ (by omega))
    · intro G hI hK v1 v2 v3 v4 v5 v6 v7 rv1 rv2 rv3 rv4 rv5 rv6 rv7 hm
      obtain ⟨y18, hy18⟩ : ∃ z : Int32, z = pj_fi G 171 1 := ⟨_, rfl⟩
      have ey18 : (pj_fi G 171 1).toInt = y18.toInt := by rw [hy18]
      have ry18 : (0 : Int) ≤ y18.toInt ∧ y18.toInt ≤ 24 := by rw [hy18]; exact hI.2.1 171 1 (0, 24) rfl
      refine pj_X_of (fun r h => pj_R_to (G, 54, [(0, .ref 171), (1, .int v1), (2, .int v2), (3, .int v3), (4, .int v4), (5, .int v5), (6, .int v6), (7, .int v7)], [.ref 171, .int v7], 0, 0) 54 3 (fun _ => rfl) h) ?_
      refine pj_X_of (fun r h => pj_T_gi hI rfl rfl h) ?_
      show pj_X _ _ G 57 [(0, .ref 171), (1, .int v1), (2, .int v2), (3, .int v3), (4, .int v4), (5, .int v5), (6, .int v6), (7, .int v7)] [.int (pj_fi G 171 5), .int v7] _
      obtain ⟨y19, hy19⟩ : ∃ z : Int32, z = pj_fi G 171 5 := ⟨_, rfl⟩
      refine pj_X_eqi hy19.symm ?_
      have ey19 : (pj_fi G 171 5).toInt = y19.toInt := by rw [hy19]
      have ry19 : (0 : Int) ≤ y19.toInt ∧ y19.toInt ≤ 6 := by rw [hy19]; exact hI.2.1 171 5 (0, 6) rfl
      cases b20 : pj_c1 .ge v7 y19 with
      | true =>
        have ub20 := pj_u_geT b20
        refine pj_X_of (fun r h => pj_R_icT 101 rfl rfl b20 h) ?_
        refine pj_X_of (fun r h => pj_R_to (G, 104, [(0, .ref 171), (1, .int v1), (2, .int v2), (3, .int v3), (4, .int v4), (5, .int v5), (6, .int v6), (7, .int v7)], [.int v1, .int v6], 0, 0) 104 3 (fun _ => rfl) h) ?_
        have q21 : (pj_fi G 171 1).toInt = y18.toInt := by rw [show pj_fi G 171 1 = y18 from hy18.symm]
        refine pj_X_ca (vs := [.int v1]) rfl (fun _ => rfl) ⟨Nat.le_of_ble_eq_true rfl, Nat.le_of_ble_eq_true rfl, rfl⟩ ⟨rfl, rfl⟩ (pj_Y_up (by decide) (ct_287 G hI v1)) ?_
        rintro _ _ ⟨y22, rfl, rfl, ry22⟩
        show pj_X _ _ G 107 [(0, .ref 171), (1, .int v1), (2, .int v2), (3, .int v3), (4, .int v4), (5, .int v5), (6, .int v6), (7, .int v7)] [.int y22, .int v6] _
        refine pj_X_of (fun r h => pj_R_to (G, 110, [(0, .ref 171), (1, .int v1), (2, .int v2), (3, .int v3), (4, .int v4), (5, .int v5), (6, .int v6), (7, .int v7)], [.int (y22 - v6), .int v6], 0, 0) 110 3 (fun _ => rfl) h) ?_
        obtain ⟨z23, hz23⟩ : ∃ z : Int32, z = y22 - v6 := ⟨_, rfl⟩
        refine pj_X_eqi hz23.symm ?_
        refine pj_X_of (fun r h => pj_R_mx (v := (if v6 < z23 then z23 else v6)) rfl rfl rfl (Nat.le_of_ble_eq_true rfl) h) ?_
        show pj_X _ _ G 113 [(0, .ref 171), (1, .int v1), (2, .int v2), (3, .int v3), (4, .int v4), (5, .int v5), (6, .int v6), (7, .int v7)] [.int (if v6 < z23 then z23 else v6)] _
        obtain ⟨z24, hz24⟩ : ∃ z : Int32, z = (if v6 < z23 then z23 else v6) := ⟨_, rfl⟩
        refine pj_X_eqi hz24.symm ?_
        have fz24_0 : v6.toInt ≤ z24.toInt ∧ z23.toInt ≤ z24.toInt ∧ (z24.toInt = v6.toInt ∨ z24.toInt = z23.toInt) := by rw [hz24]; exact pj_maxI
        refine pj_X_of (fun r h => pj_R_to (G, 118, [(7, .int z24), (0, .ref 171), (1, .int v1), (2, .int v2), (3, .int v3), (4, .int v4), (5, .int v5), (6, .int v6)], [.int v3, .int z24], 0, 0) 118 4 (fun _ => rfl) h) ?_
        cases b25 : pj_c1 .ge z24 v3 with
        | true =>
          have ub25 := pj_u_geT b25
          refine pj_X_of (fun r h => pj_R_icT 132 rfl rfl b25 h) ?_
          refine pj_X_of (fun r h => pj_R_to (G, 137, [(2, .int v2), (7, .int z24), (0, .ref 171), (1, .int v1), (3, .int v3), (4, .int v4), (5, .int v5), (6, .int v6)], [.int z24, .int v3], 0, 0) 137 5 (fun _ => rfl) h) ?_
          refine pj_X_of (fun r h => pj_R_mn (v := (if z24 < v3 then z24 else v3)) rfl rfl rfl (Nat.le_of_ble_eq_true rfl) h) ?_
          show pj_X _ _ G 140 [(2, .int v2), (7, .int z24), (0, .ref 171), (1, .int v1), (3, .int v3), (4, .int v4), (5, .int v5), (6, .int v6)] [.int (if z24 < v3 then z24 else v3)] _
          obtain ⟨z26, hz26⟩ : ∃ z : Int32, z = (if z24 < v3 then z24 else v3) := ⟨_, rfl⟩
          refine pj_X_eqi hz26.symm ?_
          have fz26_0 : z26.toInt ≤ v3.toInt ∧ z26.toInt ≤ z24.toInt ∧ (z26.toInt = v3.toInt ∨ z26.toInt = z24.toInt) := by rw [hz26]; exact pj_minI
          refine pj_X_of (fun r h => pj_R_to (G, 144, [(5, .int (v5 + Int32.ofInt 1)), (3, .int z26), (2, .int v2), (7, .int z24), (0, .ref 171), (1, .int v1), (4, .int v4), (6, .int v6)], [], 0, 0) 144 3 (fun _ => rfl) h) ?_
          obtain ⟨z27, hz27⟩ : ∃ z : Int32, z = v5 + Int32.ofInt 1 := ⟨_, rfl⟩
          rw [← hz27]
          have fz27_0 : z27.toInt = v5.toInt + (Int32.ofInt 1).toInt := by rw [hz27]; exact pj_addI (by have := pj_i32 v5; have := pj_i32 (Int32.ofInt 1); omega) (by have := pj_i32 v5; have := pj_i32 (Int32.ofInt 1); omega)
          refine pj_X_of (fun r h => pj_R_to (G, 35, [(5, .int z27), (3, .int z26), (2, .int v2), (7, .int z24), (0, .ref 171), (1, .int v1), (4, .int v4), (6, .int v6)], [], 0, 0) 35 2 (fun _ => rfl) h) ?_
          have q28 : (pj_fi G 171 1).toInt = y18.toInt := by rw [show pj_fi G 171 1 = y18 from hy18.symm]
          exact pj_X_sub [(0, .ref 171), (1, .int v1), (2, .int v2), (3, .int z26), (4, .int v4), (5, .int z27)] (show List.Nodup [0, 1, 2, 3, 4, 5] by decide) ⟨rfl, rfl, rfl, rfl, rfl, rfl, trivial⟩ (ih.2.1 G hI hK v1 v2 z26 v4 z27 (pj_i32 _) (pj_i32 _) (pj_i32 _) ⟨by omega, by omega⟩ ⟨by omega, by omega⟩ (by omega))
        | false =>
          have ub25 := pj_u_geF b25
          refine pj_X_of (fun r h => pj_R_icF rfl b25 h) ?_
          refine pj_X_of (fun r h => pj_R_to (G, 126, [(7, .int z24), (0, .ref 171), (1, .int v1), (2, .int v2), (3, .int v3), (4, .int v4), (5, .int v5), (6, .int v6)], [.int (((Int8.ofInt 19).toInt32) * v4)], 0, 0) 126 4 (fun _ => rfl) h) ?_
          obtain ⟨z29, hz29⟩ : ∃ z : Int32, z = ((Int8.ofInt 19).toInt32) * v4 := ⟨_, rfl⟩
          refine pj_X_eqi hz29.symm ?_
          have fz29_0 : z29.toInt = 19 * v4.toInt := by rw [hz29]; exact pj_mulL (by decide) (by omega) (by omega)
          refine pj_X_of (fun r h => pj_R_to (G, 129, [(7, .int z24), (0, .ref 171), (1, .int v1), (2, .int v2), (3, .int v3), (4, .int v4), (5, .int v5), (6, .int v6)], [.int (z29 + v5)], 0, 0) 129 3 (fun _ => rfl) h) ?_
          obtain ⟨z30, hz30⟩ : ∃ z : Int32, z = z29 + v5 := ⟨_, rfl⟩
          refine pj_X_eqi hz30.symm ?_
          have fz30_0 : z30.toInt = z29.toInt + v5.toInt := by rw [hz30]; exact pj_addI (by have := pj_i32 z29; have := pj_i32 v5; omega) (by have := pj_i32 z29; have := pj_i32 v5; omega)
          refine pj_X_of (fun r h => pj_R_to (G, 137, [(2, .int z30), (7, .int z24), (0, .ref 171), (1, .int v1), (3, .int v3), (4, .int v4), (5, .int v5), (6, .int v6)], [.int z24, .int v3], 0, 0) 137 5 (fun _ => rfl) h) ?_
          refine pj_X_of (fun r h => pj_R_mn (v := (if z24 < v3 then z24 else v3)) rfl rfl rfl (Nat.le_of_ble_eq_true rfl) h) ?_
          show pj_X _ _ G 140 [(2, .int z30), (7, .int z24), (0, .ref 171), (1, .int v1), (3, .int v3), (4, .int v4), (5, .int v5), (6, .int v6)] [.int (if z24 < v3 then z24 else v3)] _
          obtain ⟨z31, hz31⟩ : ∃ z : Int32, z = (if z24 < v3 then z24 else v3) := ⟨_, rfl⟩
          refine pj_X_eqi hz31.symm ?_
          have fz31_0 : z31.toInt ≤ v3.toInt ∧ z31.toInt ≤ z24.toInt ∧ (z31.toInt = v3.toInt ∨ z31.toInt = z24.toInt) := by rw [hz31]; exact pj_minI
          refine pj_X_of (fun r h => pj_R_to (G, 144, [(5, .int (v5 + Int32.ofInt 1)), (3, .int z31), (2, .int z30), (7, .int z24), (0, .ref 171), (1, .int v1), (4, .int v4), (6, .int v6)], [], 0, 0) 144 3 (fun _ => rfl) h) ?_
          obtain ⟨z32, hz32⟩ : ∃ z : Int32, z = v5 + Int32.ofInt 1 := ⟨_, rfl⟩
          rw [← hz32]
          have fz32_0 : z32.toInt = v5.toInt + (Int32.ofInt 1).toInt := by rw [hz32]; exact pj_addI (by have := pj_i32 v5; have := pj_i32 (Int32.ofInt 1); omega) (by have := pj_i32 v5; have := pj_i32 (Int32.ofInt 1); omega)
          refine pj_X_of (fun r h => pj_R_to (G, 35, [(5, .int z32), (3, .int z31), (2, .int z30), (7, .int z24), (0, .ref 171), (1, .int v1), (4, .int v4), (6, .int v6)], [], 0, 0) 35 2 (fun _ => rfl) h) ?_
          have q33 : (pj_fi G 171 1).toInt = y18.toInt := by rw [show pj_fi G 171 1 = y18 from hy18.symm]
          exact pj_X_sub [(0, .ref 171), (1, .int v1), (2, .int z30), (3, .int z31), (4, .int v4), (5, .int z32)] (show List.Nodup [0, 1, 2, 3, 4, 5] by decide) ⟨rfl, rfl, rfl, rfl, rfl, rfl, trivial⟩ (ih.2.1 G hI hK v1 z30 z31 v4 z32 (pj_i32 _) (pj_i32 _) (pj_i32 _) ⟨by omega, by omega⟩ ⟨by omega, by omega⟩ (by omega))
      | false =>
        have ub20 := pj_u_geF b20
        refine pj_X_of (fun r h => pj_R_icF rfl b20 h) ?_
        refine pj_X_of (fun r h => pj_R_to (G, 65, [(0, .ref 171), (1, .int v1), (2, .int v2), (3, .int v3), (4, .int v4), (5, .int v5), (6, .int v6), (7, .int v7)], [.int v7, .int v1, .int v6], 0, 0) 65 4 (fun _ => rfl) h) ?_
        have q34 : (pj_fi G 171 1).toInt = y18.toInt := by rw [show pj_fi G 171 1 = y18 from hy18.symm]
        refine pj_X_ca (vs := [.int v1, .int v7]) rfl (fun _ => rfl) ⟨Nat.le_of_ble_eq_true rfl, Nat.le_of_ble_eq_true rfl, rfl⟩ ⟨rfl, rfl⟩ (pj_Y_up (by decide) (ct_171bx G hI v1 v7)) ?_
        rintro _ _ ⟨y35, rfl, rfl, ry35, ey35, fy35⟩
        show pj_X _ _ G 68 [(0, .ref 171), (1, .int v1), (2, .int v2), (3, .int v3), (4, .int v4), (5, .int v5), (6, .int v6), (7, .int v7)] [.int y35, .int v6] _
        cases b36 : pj_c1 .eq y35 0 with
        | true =>
          have ub36 := pj_u0_eqT b36
          refine pj_X_of (fun r h => pj_R_ifT 88 rfl rfl b36 h) ?_
          refine pj_X_of (fun r h => pj_R_to (G, 89, [(0, .ref 171), (1, .int v1), (2, .int v2), (3, .int v3), (4, .int v4), (5, .int v5), (6, .int v6), (7, .int v7)], [.int (Int32.ofInt 0), .int v6], 0, 0) 89 2 (fun _ => rfl) h) ?_
          have q37 : (pj_fi G 171 1).toInt = y18.toInt := by rw [show pj_fi G 171 1 = y18 from hy18.symm]
          refine pj_X_ca (vs := [.int (Int32.ofInt 0)]) rfl (fun _ => rfl) ⟨Nat.le_of_ble_eq_true rfl, Nat.le_of_ble_eq_true rfl, rfl⟩ ⟨rfl, rfl⟩ (pj_Y_up (by decide) (ct_172x G hI (Int32.ofInt 0) ⟨by omega, by omega⟩)) ?_
          rintro _ _ ⟨y38, rfl, rfl, ry38, ey38, fy38⟩
          show pj_X _ _ G 92 [(0, .ref 171), (1, .int v1), (2, .int v2), (3, .int v3), (4, .int v4), (5, .int v5), (6, .int v6), (7, .int v7)] [.int y38, .int v6] _
          refine pj_X_of (fun r h => pj_R_to (G, 93, [(0, .ref 171), (1, .int v1), (2, .int v2), (3, .int v3), (4, .int v4), (5, .int v5), (6, .int v6), (7, .int v7)], [.int (v6 + y38)], 0, 0) 93 2 (fun _ => rfl) h) ?_
          obtain ⟨z39, hz39⟩ : ∃ z : Int32, z = v6 + y38 := ⟨_, rfl⟩
          refine pj_X_eqi hz39.symm ?_
          refine pj_X_of (fun r h => pj_R_to (G, 98, [(7, .int (v7 + Int32.ofInt 1)), (6, .int z39), (0, .ref 171), (1, .int v1), (2, .int v2), (3, .int v3), (4, .int v4), (5, .int v5)], [], 0, 0) 98 3 (fun _ => rfl) h) ?_
          obtain ⟨z40, hz40⟩ : ∃ z : Int32, z = v7 + Int32.ofInt 1 := ⟨_, rfl⟩
          rw [← hz40]
          have fz40_0 : z40.toInt = v7.toInt + (Int32.ofInt 1).toInt := by rw [hz40]; exact pj_addI (by have := pj_i32 v7; have := pj_i32 (Int32.ofInt 1); omega) (by have := pj_i32 v7; have := pj_i32 (Int32.ofInt 1); omega)
          refine pj_X_of (fun r h => pj_R_to (G, 51, [(7, .int z40), (6, .int z39), (0, .ref 171), (1, .int v1), (2, .int v2), (3, .int v3), (4, .int v4), (5, .int v5)], [], 0, 0) 51 2 (fun _ => rfl) h) ?_
          have q41 : (pj_fi G 171 1).toInt = y18.toInt := by rw [show pj_fi G 171 1 = y18 from hy18.symm]
          exact pj_X_sub [(0, .ref 171), (1, .int v1), (2, .int v2), (3, .int v3), (4, .int v4), (5, .int v5), (6, .int z39), (7, .int z40)] (show List.Nodup [0, 1, 2, 3, 4, 5, 6, 7] by decide) ⟨rfl, rfl, rfl, rfl, rfl, rfl, rfl, rfl, trivial⟩ (ih.2.2 G hI hK v1 v2 v3 v4 v5 z39 z40 (pj_i32 _) (pj_i32 _) (pj_i32 _) ⟨by omega, by omega⟩ ⟨by omega, by omega⟩ (pj_i32 _) ⟨by omega, by omega⟩ (by omega))
        | false =>
          have ub36 := pj_u0_eqF b36
          refine pj_X_of (fun r h => pj_R_ifF rfl b36 h) ?_
          refine pj_X_of (fun r h => pj_R_to (G, 78, [(0, .ref 171), (1, .int v1), (2, .int v2), (3, .int v3), (4, .int v4), (5, .int v5), (6, .int v6), (7, .int v7)], [.int v5, .int v4, .int v7, .ref 171, .int v6], 0, 0) 78 5 (fun _ => rfl) h) ?_
          have q42 : (pj_fi G 171 1).toInt = y18.toInt := by rw [show pj_fi G 171 1 = y18 from hy18.symm]
          refine pj_X_ca (vs := [.ref 171, .int v7, .int v4, .int v5]) rfl (fun _ => rfl) ⟨Nat.le_of_ble_eq_true rfl, Nat.le_of_ble_eq_true rfl, pj_T_rcv hI rfl⟩ ⟨rfl, rfl⟩ (pj_Y_up (by decide) (ct_265 G hI v7 v4 v5 ⟨by omega, by omega⟩)) ?_
          rintro _ _ ⟨y43, rfl, rfl, ry43⟩
          show pj_X _ _ G 81 [(0, .ref 171), (1, .int v1), (2, .int v2), (3, .int v3), (4, .int v4), (5, .int v5), (6, .int v6), (7, .int v7)] [.int y43, .int v6] _
          cases b44 : pj_c1 .eq y43 0 with
          | true =>
            have ub44 := pj_u0_eqT b44
            refine pj_X_of (fun r h => pj_R_ifT 88 rfl rfl b44 h) ?_
            refine pj_X_of (fun r h => pj_R_to (G, 89, [(0, .ref 171), (1, .int v1), (2, .int v2), (3, .int v3), (4, .int v4), (5, .int v5), (6, .int v6), (7, .int v7)], [.int (Int32.ofInt 0), .int v6], 0, 0) 89 2 (fun _ => rfl) h) ?_
            have q45 : (pj_fi G 171 1).toInt = y18.toInt := by rw [show pj_fi G 171 1 = y18 from hy18.symm]
            refine pj_X_ca (vs := [.int (Int32.ofInt 0)]) rfl (fun _ => rfl) ⟨Nat.le_of_ble_eq_true rfl, Nat.le_of_ble_eq_true rfl, rfl⟩ ⟨rfl, rfl⟩ (pj_Y_up (by decide) (ct_172x G hI (Int32.ofInt 0) ⟨by omega, by omega⟩)) ?_
            rintro _ _ ⟨y46, rfl, rfl, ry46, ey46, fy46⟩
            show pj_X _ _ G 92 [(0, .ref 171), (1, .int v1), (2, .int v2), (3, .int v3), (4, .int v4), (5, .int v5), (6, .int v6), (7, .int v7)] [.int y46, .int v6] _
            refine pj_X_of (fun r h => pj_R_to (G, 93, [(0, .ref 171), (1, .int v1), (2, .int v2), (3, .int v3), (4, .int v4), (5, .int v5), (6, .int v6), (7, .int v7)], [.int (v6 + y46)], 0, 0) 93 2 (fun _ => rfl) h) ?_
            obtain ⟨z47, hz47⟩ : ∃ z : Int32, z = v6 + y46 := ⟨_, rfl⟩
            refine pj_X_eqi hz47.symm ?_
            refine pj_X_of (fun r h => pj_R_to (G, 98, [(7, .int (v7 + Int32.ofInt 1)), (6, .int z47), (0, .ref 171), (1, .int v1), (2, .int v2), (3, .int v3), (4, .int v4), (5, .int v5)], [], 0, 0) 98 3 (fun _ => rfl) h) ?_
            obtain ⟨z48, hz48⟩ : ∃ z : Int32, z = v7 + Int32.ofInt 1 := ⟨_, rfl⟩
            rw [← hz48]
            have fz48_0 : z48.toInt = v7.toInt + (Int32.ofInt 1).toInt := by rw [hz48]; exact pj_addI (by have := pj_i32 v7; have := pj_i32 (Int32.ofInt 1); omega) (by have := pj_i32 v7; have := pj_i32 (Int32.ofInt 1); omega)
            refine pj_X_of (fun r h => pj_R_to (G, 51, [(7, .int z48), (6, .int z47), (0, .ref 171), (1, .int v1), (2, .int v2), (3, .int v3), (4, .int v4), (5, .int v5)], [], 0, 0) 51 2 (fun _ => rfl) h) ?_
            have q49 : (pj_fi G 171 1).toInt = y18.toInt := by rw [show pj_fi G 171 1 = y18 from hy18.symm]
            exact pj_X_sub [(0, .ref 171), (1, .int v1), (2, .int v2), (3, .int v3), (4, .int v4), (5, .int v5), (6, .int z47), (7, .int z48)] (show List.Nodup [0, 1, 2, 3, 4, 5, 6, 7] by decide) ⟨rfl, rfl, rfl, rfl, rfl, rfl, rfl, rfl, trivial⟩ (ih.2.2 G hI hK v1 v2 v3 v4 v5 z47 z48 (pj_i32 _) (pj_i32 _) (pj_i32 _) ⟨by omega, by omega⟩ ⟨by omega, by omega⟩ (pj_i32 _) ⟨by omega, by omega⟩ (by omega))
          | false =>
            have ub44 := pj_u0_eqF b44
            refine pj_X_of (fun r h => pj_R_ifF rfl b44 h) ?_
            refine pj_X_of (fun r h => pj_R_to (G, 89, [(0, .ref 171), (1, .int v1), (2, .int v2), (3, .int v3), (4, .int v4), (5, .int v5), (6, .int v6), (7, .int v7)], [.int (Int32.ofInt 1), .int v6], 0, 0) 89 3 (fun _ => rfl) h) ?_
            have q50 : (pj_fi G 171 1).toInt = y18.toInt := by rw [show pj_fi G 171 1 = y18 from hy18.symm]
            refine pj_X_ca (vs := [.int (Int32.ofInt 1)]) rfl (fun _ => rfl) ⟨Nat.le_of_ble_eq_true rfl, Nat.le_of_ble_eq_true rfl, rfl⟩ ⟨rfl, rfl⟩ (pj_Y_up (by decide) (ct_172x G hI (Int32.ofInt 1) ⟨by omega, by omega⟩)) ?_
            rintro _ _ ⟨y51, rfl, rfl, ry51, ey51, fy51⟩
            show pj_X _ _ G 92 [(0, .ref 171), (1, .int v1), (2, .int v2), (3, .int v3), (4, .int v4), (5, .int v5), (6, .int v6), (7, .int v7)] [.int y51, .int v6] _
            refine pj_X_of (fun r h => pj_R_to (G, 93, [(0, .ref 171), (1, .int v1), (2, .int v2), (3, .int v3), (4, .int v4), (5, .int v5), (6, .int v6), (7, .int v7)], [.int (v6 + y51)], 0, 0) 93 2 (fun _ => rfl) h) ?_
            obtain ⟨z52, hz52⟩ : ∃ z : Int32, z = v6 + y51 := ⟨_, rfl⟩
            refine pj_X_eqi hz52.symm ?_
            refine pj_X_of (fun r h => pj_R_to (G, 98, [(7, .int (v7 + Int32.ofInt 1)), (6, .int z52), (0, .ref 171), (1, .int v1), (2, .int v2), (3, .int v3), (4, .int v4), (5, .int v5)], [], 0, 0) 98 3 (fun _ => rfl) h) ?_
            obtain ⟨z53, hz53⟩ : ∃ z : Int32, z = v7 + Int32.ofInt 1 := ⟨_, rfl⟩
            rw [← hz53]
            have fz53_0 : z53.toInt = v7.toInt + (Int32.ofInt 1).toInt := by rw [hz53]; exact pj_addI (by have := pj_i32 v7; have := pj_i32 (Int32.ofInt 1); omega) (by have := pj_i32 v7; have := pj_i32 (Int32.ofInt 1); omega)
            refine pj_X_of (fun r h => pj_R_to (G, 51, [(7, .int z53), (6, .int z52), (0, .ref 171), (1, .int v1), (2, .int v2), (3, .int v3), (4, .int v4), (5, .int v5)], [], 0, 0) 51 2 (fun _ => rfl) h) ?_
            have q54 : (pj_fi G 171 1).toInt = y18.toInt := by rw [show pj_fi G 171 1 = y18 from hy18.symm]
            exact pj_X_sub [(0, .ref 171), (1, .int v1), (2, .int v2), (3, .int v3), (4, .int v4), (5, .int v5), (6, .int z52), (7, .int z53)] (show List.Nodup [0, 1, 2, 3, 4, 5, 6, 7] by decide) ⟨rfl, rfl, rfl, rfl, rfl, rfl, rfl, rfl, trivial⟩ (ih.2.2 G hI hK v1 v2 v3 v4 v5 z52 z53 (pj_i32 _) (pj_i32 _) (pj_i32 _) ⟨by omega, by omega⟩ ⟨by omega, by omega⟩ (pj_i32 _) ⟨by omega, by omega⟩ (by omega))
theorem ct_268 (G0 : pj_G) (hI : pj_Inv G0) : pj_Y 3 268 [.ref 171] G0 (fun v G' => ∃ y : Int32, v = some (.int y) ∧ pj_Inv G' ∧ pj_kpt kc_268 G0 G' ∧ ((-2147483648 : Int) ≤ y.toInt ∧ y.toInt ≤ 2147483647)) := by
  have c0_ : ((Int16.ofInt 1000).toInt32).toInt = 1000 := by decide
  have c1_ : ((Int8.ofInt (-2)).toInt32).toInt = -2 := by decide
  have c2_ : ((Int8.ofInt 19).toInt32).toInt = 19 := by decide
  have c3_ : (Int32.ofInt (-1)).toInt = -1 := by decide
  have c4_ : (Int32.ofInt 0).toInt = 0 := by decide
  have c5_ : (Int32.ofInt 1).toInt = 1 := by decide
  have c6_ : (Int32.ofInt 4).toInt = 4 := by decide
  refine pj_Y_X (M := pj_m268) rfl rfl (Nat.le_of_ble_eq_true rfl) ?_
  have hK : pj_kpt kc_268 G0 G0 := pj_kpt_r _ _
  show pj_X _ _ G0 0 [(0, .ref 171)] [] _
  obtain ⟨y55, hy55⟩ : ∃ z : Int32, z = pj_fi G0 171 1 := ⟨_, rfl⟩
  have ey55 : (pj_fi G0 171 1).toInt = y55.toInt := by rw [hy55]
  have ry55 : (0 : Int) ≤ y55.toInt ∧ y55.toInt ≤ 24 := by rw [hy55]; exact hI.2.1 171 1 (0, 24) rfl
  refine pj_X_of (fun r h => pj_R_to (G0, 2, [(0, .ref 171)], [.int (Int32.ofInt 0), .ref 171], 0, 0) 2 3 (fun _ => rfl) h) ?_
  refine pj_X_of (fun r h => pj_T_pf hI rfl rfl rfl h) ?_
  show pj_X _ _ (pj_wv G0 171 0 (.int (Int32.ofInt 0))) 5 [(0, .ref 171)] [] _
  obtain ⟨G56, hG56⟩ : ∃ H, H = pj_wv G0 171 0 (.int (Int32.ofInt 0)) := ⟨_, rfl⟩
  have iG56 : pj_Inv G56 := by rw [hG56]; exact pj_Inv_wi hI (ci := 12) rfl (fun q hq => by cases hq)
  have kG56 : pj_kpt kc_268 G0 G56 := by rw [hG56]; exact pj_kpt_v hK rfl
  rw [← hG56]
  refine pj_X_of (fun r h => pj_R_to (G56, 6, [(0, .ref 171)], [.ref 171], 0, 0) 6 2 (fun _ => rfl) h) ?_
  have q57 : (pj_fi G56 171 1).toInt = y55.toInt := by rw [show pj_fi G56 171 1 = y55 from by rw [hG56, pj_fi_wv_ne _ _ _ _ _ _ (by decide)]; exact hy55.symm]
  refine pj_X_ca (vs := [.ref 171]) rfl (fun _ => rfl) ⟨Nat.le_of_ble_eq_true rfl, Nat.le_of_ble_eq_true rfl, pj_T_rcv iG56 rfl⟩ ⟨rfl, rfl⟩ (pj_Y_up (by decide) (ct_266 G56 iG56)) ?_
  rintro _ _ ⟨y58, rfl, rfl, ry58⟩
  show pj_X _ _ G56 9 [(0, .ref 171)] [.int y58] _
  refine pj_X_of (fun r h => pj_R_to (G56, 11, [(1, .int y58), (0, .ref 171)], [.int y58], 0, 0) 11 3 (fun _ => rfl) h) ?_
  cases b59 : pj_c1 .ne y58 0 with
  | true =>
    have ub59 := pj_u0_neT b59
    refine pj_X_of (fun r h => pj_R_ifT 17 rfl rfl b59 h) ?_
    refine pj_X_of (fun r h => pj_R_to (G56, 26, [(4, .int (Int32.ofInt 0)), (3, .int ((Int16.ofInt 1000).toInt32)), (2, .int (Int32.ofInt (-1))), (1, .int y58), (0, .ref 171)], [], 0, 0) 26 7 (fun _ => rfl) h) ?_
    have q60 : (pj_fi G56 171 1).toInt = y55.toInt := by rw [show pj_fi G56 171 1 = y55 from by rw [hG56, pj_fi_wv_ne _ _ _ _ _ _ (by decide)]; exact hy55.symm]
    exact pj_X_sub [(0, .ref 171), (1, .int y58), (2, .int (Int32.ofInt (-1))), (3, .int ((Int16.ofInt 1000).toInt32)), (4, .int (Int32.ofInt 0))] (show List.Nodup [0, 1, 2, 3, 4] by decide) ⟨rfl, rfl, rfl, rfl, rfl, trivial⟩ ((lp_ct_268 G0 hI   9001).1 G56 iG56 kG56 y58 (Int32.ofInt (-1)) ((Int16.ofInt 1000).toInt32) (Int32.ofInt 0) (pj_i32 _) (pj_i32 _) (pj_i32 _) ⟨by omega, by omega⟩ (by omega))
  | false =>
    have ub59 := pj_u0_neF b59
    refine pj_X_of (fun r h => pj_R_ifF rfl b59 h) ?_
    refine pj_X_of (fun r h => pj_R_to (G56, 16, [(1, .int y58), (0, .ref 171)], [.int ((Int8.ofInt (-2)).toInt32)], 0, 0) 16 2 (fun _ => rfl) h) ?_
    have q61 : (pj_fi G56 171 1).toInt = y55.toInt := by rw [show pj_fi G56 171 1 = y55 from by rw [hG56, pj_fi_wv_ne _ _ _ _ _ _ (by decide)]; exact hy55.symm]
    exact pj_X_rt rfl rfl ⟨_, rfl, iG56, kG56, pj_i32 _⟩
def kc_269 : pj_KT := ([(171, 52), (171, 53), (171, 54), (171, 55)], [171], [])
theorem lp_ct_269 (G0 : pj_G) (hI0 : pj_Inv G0) (a : Int32) (b : Int32) (n : Int32) (k : Int32) (rn : (1 : Int) ≤ n.toInt ∧ n.toInt ≤ 48) (rk : (1 : Int) ≤ k.toInt ∧ k.toInt ≤ 48) : ∀ mn : Nat, (∀ (G : pj_G) (hI : pj_Inv G) (hK : pj_kpt kc_269 G0 G) (v5 : Int32), ((0 : Int) ≤ v5.toInt ∧ v5.toInt ≤ 48) → 48 - v5.toInt < (mn : Int) → pj_X 1 pj_m269 G 23 [(0, .ref 171), (1, .int a), (2, .int b), (3, .int n), (4, .int k), (5, .int v5)] [] (fun v G' => v = none ∧ pj_Inv G' ∧ pj_kpt kc_269 G0 G')) := by
  have c0_ : ((Int8.ofInt 24).toInt32).toInt = 24 := by decide
  have c1_ : (Int32.ofInt 0).toInt = 0 := by decide
  have c2_ : (Int32.ofInt 1).toInt = 1 := by decide
  have c3_ : (Int32.ofInt 2).toInt = 2 := by decide
  intro mn
  induction mn with
  | zero =>
    intro G hI hK v5 rv5 hm
    exfalso
    omega
  | succ mn ih =>
    intro G hI hK v5 rv5 hm
    refine pj_X_of (fun r h => pj_R_to (G, 26, [(0, .ref 171), (1, .int a), (2, .int b), (3, .int n), (4, .int k), (5, .int v5)], [.int n, .int v5], 0, 0) 26 3 (fun _ => rfl) h) ?_
    cases b1 : pj_c1 .ge v5 n with
    | true =>
      have ub1 := pj_u_geT b1
      refine pj_X_of (fun r h => pj_R_icT 182 rfl rfl b1 h) ?_
      exact pj_X_rt rfl rfl ⟨rfl, hI, hK⟩
    | false =>
      have ub1 := pj_u_geF b1
      refine pj_X_of (fun r h => pj_R_icF rfl b1 h) ?_
      refine pj_X_of (fun r h => pj_R_to (G, 33, [(0, .ref 171), (1, .int a), (2, .int b), (3, .int n), (4, .int k), (5, .int v5)], [.int k, .int v5], 0, 0) 33 3 (fun _ => rfl) h) ?_
      refine pj_X_of (fun r h => pj_R_dv rfl (pj_nz (by omega)) h) ?_
      show pj_X _ _ G 34 [(0, .ref 171), (1, .int a), (2, .int b), (3, .int n), (4, .int k), (5, .int v5)] [.int (v5 / k)] _
      obtain ⟨z2, hz2⟩ : ∃ z : Int32, z = v5 / k := ⟨_, rfl⟩
      refine pj_X_eqi hz2.symm ?_
      have fz2_0 : 0 ≤ z2.toInt ∧ z2.toInt ≤ v5.toInt := by rw [hz2]; exact pj_divI (by omega) (by omega)
      refine pj_X_of (fun r h => pj_R_to (G, 35, [(0, .ref 171), (1, .int a), (2, .int b), (3, .int n), (4, .int k), (5, .int v5)], [.int (Int32.ofInt 2), .int z2], 0, 0) 35 2 (fun _ => rfl) h) ?_
      refine pj_X_of (fun r h => pj_R_rm rfl (pj_nz (by omega)) h) ?_
      show pj_X _ _ G 36 [(0, .ref 171), (1, .int a), (2, .int b), (3, .int n), (4, .int k), (5, .int v5)] [.int (z2 - z2 / (Int32.ofInt 2) * (Int32.ofInt 2))] _
      obtain ⟨z3, hz3⟩ : ∃ z : Int32, z = z2 - z2 / (Int32.ofInt 2) * (Int32.ofInt 2) := ⟨_, rfl⟩
      refine pj_X_eqi hz3.symm ?_
      have fz3_0 : 0 ≤ z3.toInt ∧ z3.toInt < (Int32.ofInt 2).toInt := by rw [hz3]; exact pj_remI (by omega) (by omega)
      cases b4 : pj_c1 .ne z3 0 with
      | true =>
        have ub4 := pj_u0_neT b4
        refine pj_X_of (fun r h => pj_R_ifT 43 rfl rfl b4 h) ?_
        refine pj_X_of (fun r h => pj_R_to (G, 51, [(6, .int (Int32.ofInt 0)), (0, .ref 171), (1, .int a), (2, .int b), (3, .int n), (4, .int k), (5, .int v5)], [.int ((Int8.ofInt 24).toInt32), .int v5, .int a], 0, 0) 51 6 (fun _ => rfl) h) ?_
        refine pj_X_of (fun r h => pj_R_rm rfl (pj_nz (by omega)) h) ?_
        show pj_X _ _ G 52 [(6, .int (Int32.ofInt 0)), (0, .ref 171), (1, .int a), (2, .int b), (3, .int n), (4, .int k), (5, .int v5)] [.int (v5 - v5 / ((Int8.ofInt 24).toInt32) * ((Int8.ofInt 24).toInt32)), .int a] _
        obtain ⟨z5, hz5⟩ : ∃ z : Int32, z = v5 - v5 / ((Int8.ofInt 24).toInt32) * ((Int8.ofInt 24).toInt32) := ⟨_, rfl⟩
        refine pj_X_eqi hz5.symm ?_
        have fz5_0 : 0 ≤ z5.toInt ∧ z5.toInt < ((Int8.ofInt 24).toInt32).toInt := by rw [hz5]; exact pj_remI (by omega) (by omega)
        refine pj_X_ca (vs := [.int a, .int z5]) rfl (fun _ => rfl) ⟨Nat.le_of_ble_eq_true rfl, Nat.le_of_ble_eq_true rfl, rfl⟩ ⟨rfl, rfl⟩ (pj_Y_up (by decide) (ct_171bx G hI a z5)) ?_
        rintro _ _ ⟨y6, rfl, rfl, ry6, ey6, fy6⟩
        show pj_X _ _ G 55 [(6, .int (Int32.ofInt 0)), (0, .ref 171), (1, .int a), (2, .int b), (3, .int n), (4, .int k), (5, .int v5)] [.int y6] _
        refine pj_X_of (fun r h => pj_R_to (G, 62, [(7, .int y6), (6, .int (Int32.ofInt 0)), (0, .ref 171), (1, .int a), (2, .int b), (3, .int n), (4, .int k), (5, .int v5)], [.int ((Int8.ofInt 24).toInt32), .int v5, .int b], 0, 0) 62 5 (fun _ => rfl) h) ?_
        refine pj_X_of (fun r h => pj_R_rm rfl (pj_nz (by omega)) h) ?_
        show pj_X _ _ G 63 [(7, .int y6), (6, .int (Int32.ofInt 0)), (0, .ref 171), (1, .int a), (2, .int b), (3, .int n), (4, .int k), (5, .int v5)] [.int (v5 - v5 / ((Int8.ofInt 24).toInt32) * ((Int8.ofInt 24).toInt32)), .int b] _
        obtain ⟨z7, hz7⟩ : ∃ z : Int32, z = v5 - v5 / ((Int8.ofInt 24).toInt32) * ((Int8.ofInt 24).toInt32) := ⟨_, rfl⟩
        refine pj_X_eqi hz7.symm ?_
        have fz7_0 : 0 ≤ z7.toInt ∧ z7.toInt < ((Int8.ofInt 24).toInt32).toInt := by rw [hz7]; exact pj_remI (by omega) (by omega)
        refine pj_X_ca (vs := [.int b, .int z7]) rfl (fun _ => rfl) ⟨Nat.le_of_ble_eq_true rfl, Nat.le_of_ble_eq_true rfl, rfl⟩ ⟨rfl, rfl⟩ (pj_Y_up (by decide) (ct_171bx G hI b z7)) ?_
        rintro _ _ ⟨y8, rfl, rfl, ry8, ey8, fy8⟩
        show pj_X _ _ G 66 [(7, .int y6), (6, .int (Int32.ofInt 0)), (0, .ref 171), (1, .int a), (2, .int b), (3, .int n), (4, .int k), (5, .int v5)] [.int y8] _
        refine pj_X_of (fun r h => pj_R_to (G, 70, [(8, .int y8), (7, .int y6), (6, .int (Int32.ofInt 0)), (0, .ref 171), (1, .int a), (2, .int b), (3, .int n), (4, .int k), (5, .int v5)], [.ref 171, .ref 171], 0, 0) 70 4 (fun _ => rfl) h) ?_
        refine pj_X_of (fun r h => pj_T_gi hI rfl rfl h) ?_
        show pj_X _ _ G 73 [(8, .int y8), (7, .int y6), (6, .int (Int32.ofInt 0)), (0, .ref 171), (1, .int a), (2, .int b), (3, .int n), (4, .int k), (5, .int v5)] [.int (pj_fi G 171 52), .ref 171] _
        obtain ⟨y9, hy9⟩ : ∃ z : Int32, z = pj_fi G 171 52 := ⟨_, rfl⟩
        refine pj_X_eqi hy9.symm ?_
        have ey9 : (pj_fi G 171 52).toInt = y9.toInt := by rw [hy9]
        refine pj_X_of (fun r h => pj_R_to (G, 75, [(8, .int y8), (7, .int y6), (6, .int (Int32.ofInt 0)), (0, .ref 171), (1, .int a), (2, .int b), (3, .int n), (4, .int k), (5, .int v5)], [.int (Int32.ofInt 0), .int y9, .ref 171], 0, 0) 75 2 (fun _ => rfl) h) ?_
        refine pj_X_of (fun r h => pj_R_ifT 87 rfl rfl (pj_b0_eqT (by omega)) h) ?_
        refine pj_X_of (fun r h => pj_R_to (G, 88, [(8, .int y8), (7, .int y6), (6, .int (Int32.ofInt 0)), (0, .ref 171), (1, .int a), (2, .int b), (3, .int n), (4, .int k), (5, .int v5)], [.int (Int32.ofInt 0), .int y9, .ref 171], 0, 0) 88 2 (fun _ => rfl) h) ?_
        refine pj_X_ca (vs := [.int (Int32.ofInt 0)]) rfl (fun _ => rfl) ⟨Nat.le_of_ble_eq_true rfl, Nat.le_of_ble_eq_true rfl, rfl⟩ ⟨rfl, rfl⟩ (pj_Y_up (by decide) (ct_172x G hI (Int32.ofInt 0) ⟨by omega, by omega⟩)) ?_
        rintro _ _ ⟨y10, rfl, rfl, ry10, ey10, fy10⟩
        show pj_X _ _ G 91 [(8, .int y8), (7, .int y6), (6, .int (Int32.ofInt 0)), (0, .ref 171), (1, .int a), (2, .int b), (3, .int n), (4, .int k), (5, .int v5)] [.int y10, .int y9, .ref 171] _
        refine pj_X_of (fun r h => pj_R_to (G, 92, [(8, .int y8), (7, .int y6), (6, .int (Int32.ofInt 0)), (0, .ref 171), (1, .int a), (2, .int b), (3, .int n), (4, .int k), (5, .int v5)], [.int (y9 + y10), .ref 171], 0, 0) 92 2 (fun _ => rfl) h) ?_
        obtain ⟨z11, hz11⟩ : ∃ z : Int32, z = y9 + y10 := ⟨_, rfl⟩
        refine pj_X_eqi hz11.symm ?_
        refine pj_X_of (fun r h => pj_T_pf hI rfl rfl rfl h) ?_
        show pj_X _ _ (pj_wv G 171 52 (.int z11)) 95 [(8, .int y8), (7, .int y6), (6, .int (Int32.ofInt 0)), (0, .ref 171), (1, .int a), (2, .int b), (3, .int n), (4, .int k), (5, .int v5)] [] _
        obtain ⟨G12, hG12⟩ : ∃ H, H = pj_wv G 171 52 (.int z11) := ⟨_, rfl⟩
        have iG12 : pj_Inv G12 := by rw [hG12]; exact pj_Inv_wi hI (ci := 12) rfl (fun q hq => by cases hq)
        have kG12 : pj_kpt kc_269 G0 G12 := by rw [hG12]; exact pj_kpt_v hK rfl
        rw [← hG12]
        refine pj_X_of (fun r h => pj_R_to (G12, 97, [(8, .int y8), (7, .int y6), (6, .int (Int32.ofInt 0)), (0, .ref 171), (1, .int a), (2, .int b), (3, .int n), (4, .int k), (5, .int v5)], [.ref 171, .ref 171], 0, 0) 97 3 (fun _ => rfl) h) ?_
        refine pj_X_of (fun r h => pj_T_gi iG12 rfl rfl h) ?_
        show pj_X _ _ G12 100 [(8, .int y8), (7, .int y6), (6, .int (Int32.ofInt 0)), (0, .ref 171), (1, .int a), (2, .int b), (3, .int n), (4, .int k), (5, .int v5)] [.int (pj_fi G12 171 53), .ref 171] _
        obtain ⟨y13, hy13⟩ : ∃ z : Int32, z = pj_fi G12 171 53 := ⟨_, rfl⟩
        refine pj_X_eqi hy13.symm ?_
        have ey13 : (pj_fi G12 171 53).toInt = y13.toInt := by rw [hy13]
        refine pj_X_of (fun r h => pj_R_to (G12, 102, [(8, .int y8), (7, .int y6), (6, .int (Int32.ofInt 0)), (0, .ref 171), (1, .int a), (2, .int b), (3, .int n), (4, .int k), (5, .int v5)], [.int (Int32.ofInt 0), .int y13, .ref 171], 0, 0) 102 2 (fun _ => rfl) h) ?_
        refine pj_X_of (fun r h => pj_R_ifF rfl (pj_b0_neF (by omega)) h) ?_
        refine pj_X_of (fun r h => pj_R_to (G12, 107, [(8, .int y8), (7, .int y6), (6, .int (Int32.ofInt 0)), (0, .ref 171), (1, .int a), (2, .int b), (3, .int n), (4, .int k), (5, .int v5)], [.int y8, .int y13, .ref 171], 0, 0) 107 2 (fun _ => rfl) h) ?_
        cases b14 : pj_c1 .eq y8 0 with
        | true =>
          have ub14 := pj_u0_eqT b14
          refine pj_X_of (fun r h => pj_R_ifT 114 rfl rfl b14 h) ?_
          refine pj_X_of (fun r h => pj_R_to (G12, 115, [(8, .int y8), (7, .int y6), (6, .int (Int32.ofInt 0)), (0, .ref 171), (1, .int a), (2, .int b), (3, .int n), (4, .int k), (5, .int v5)], [.int (Int32.ofInt 0), .int y13, .ref 171], 0, 0) 115 2 (fun _ => rfl) h) ?_
          refine pj_X_ca (vs := [.int (Int32.ofInt 0)]) rfl (fun _ => rfl) ⟨Nat.le_of_ble_eq_true rfl, Nat.le_of_ble_eq_true rfl, rfl⟩ ⟨rfl, rfl⟩ (pj_Y_up (by decide) (ct_172x G12 iG12 (Int32.ofInt 0) ⟨by omega, by omega⟩)) ?_
          rintro _ _ ⟨y15, rfl, rfl, ry15, ey15, fy15⟩
          show pj_X _ _ G12 118 [(8, .int y8), (7, .int y6), (6, .int (Int32.ofInt 0)), (0, .ref 171), (1, .int a), (2, .int b), (3, .int n), (4, .int k), (5, .int v5)] [.int y15, .int y13, .ref 171] _
          refine pj_X_of (fun r h => pj_R_to (G12, 119, [(8, .int y8), (7, .int y6), (6, .int (Int32.ofInt 0)), (0, .ref 171), (1, .int a), (2, .int b), (3, .int n), (4, .int k), (5, .int v5)], [.int (y13 + y15), .ref 171], 0, 0) 119 2 (fun _ => rfl) h) ?_
          obtain ⟨z16, hz16⟩ : ∃ z : Int32, z = y13 + y15 := ⟨_, rfl⟩
          refine pj_X_eqi hz16.symm ?_
          refine pj_X_of (fun r h => pj_T_pf iG12 rfl rfl rfl h) ?_
          show pj_X _ _ (pj_wv G12 171 53 (.int z16)) 122 [(8, .int y8), (7, .int y6), (6, .int (Int32.ofInt 0)), (0, .ref 171), (1, .int a), (2, .int b), (3, .int n), (4, .int k), (5, .int v5)] [] _
          obtain ⟨G17, hG17⟩ : ∃ H, H = pj_wv G12 171 53 (.int z16) := ⟨_, rfl⟩
          have iG17 : pj_Inv G17 := by rw [hG17]; exact pj_Inv_wi iG12 (ci := 12) rfl (fun q hq => by cases hq)
          have kG17 : pj_kpt kc_269 G0 G17 := by rw [hG17]; exact pj_kpt_v kG12 rfl
          rw [← hG17]
          refine pj_X_of (fun r h => pj_R_to (G17, 124, [(8, .int y8), (7, .int y6), (6, .int (Int32.ofInt 0)), (0, .ref 171), (1, .int a), (2, .int b), (3, .int n), (4, .int k), (5, .int v5)], [.ref 171, .ref 171], 0, 0) 124 3 (fun _ => rfl) h) ?_
          refine pj_X_of (fun r h => pj_T_gi iG17 rfl rfl h) ?_
          show pj_X _ _ G17 127 [(8, .int y8), (7, .int y6), (6, .int (Int32.ofInt 0)), (0, .ref 171), (1, .int a), (2, .int b), (3, .int n), (4, .int k), (5, .int v5)] [.int (pj_fi G17 171 54), .ref 171] _
          obtain ⟨y18, hy18⟩ : ∃ z : Int32, z = pj_fi G17 171 54 := ⟨_, rfl⟩
          refine pj_X_eqi hy18.symm ?_
          have ey18 : (pj_fi G17 171 54).toInt = y18.toInt := by rw [hy18]
          refine pj_X_of (fun r h => pj_R_to (G17, 129, [(8, .int y8), (7, .int y6), (6, .int (Int32.ofInt 0)), (0, .ref 171), (1, .int a), (2, .int b), (3, .int n), (4, .int k), (5, .int v5)], [.int (Int32.ofInt 0), .int y18, .ref 171], 0, 0) 129 2 (fun _ => rfl) h) ?_
          refine pj_X_of (fun r h => pj_R_ifF rfl (pj_b0_neF (by omega)) h) ?_
          refine pj_X_of (fun r h => pj_R_to (G17, 134, [(8, .int y8), (7, .int y6), (6, .int (Int32.ofInt 0)), (0, .ref 171), (1, .int a), (2, .int b), (3, .int n), (4, .int k), (5, .int v5)], [.int y6, .int y18, .ref 171], 0, 0) 134 2 (fun _ => rfl) h) ?_
          cases b19 : pj_c1 .eq y6 0 with
          | true =>
            have ub19 := pj_u0_eqT b19
            refine pj_X_of (fun r h => pj_R_ifT 141 rfl rfl b19 h) ?_
            refine pj_X_of (fun r h => pj_R_to (G17, 142, [(8, .int y8), (7, .int y6), (6, .int (Int32.ofInt 0)), (0, .ref 171), (1, .int a), (2, .int b), (3, .int n), (4, .int k), (5, .int v5)], [.int (Int32.ofInt 0), .int y18, .ref 171], 0, 0) 142 2 (fun _ => rfl) h) ?_
            refine pj_X_ca (vs := [.int (Int32.ofInt 0)]) rfl (fun _ => rfl) ⟨Nat.le_of_ble_eq_true rfl, Nat.le_of_ble_eq_true rfl, rfl⟩ ⟨rfl, rfl⟩ (pj_Y_up (by decide) (ct_172x G17 iG17 (Int32.ofInt 0) ⟨by omega, by omega⟩)) ?_
            rintro _ _ ⟨y20, rfl, rfl, ry20, ey20, fy20⟩
            show pj_X _ _ G17 145 [(8, .int y8), (7, .int y6), (6, .int (Int32.ofInt 0)), (0, .ref 171), (1, .int a), (2, .int b), (3, .int n), (4, .int k), (5, .int v5)] [.int y20, .int y18, .ref 171] _
            refine pj_X_of (fun r h => pj_R_to (G17, 146, [(8, .int y8), (7, .int y6), (6, .int (Int32.ofInt 0)), (0, .ref 171), (1, .int a), (2, .int b), (3, .int n), (4, .int k), (5, .int v5)], [.int (y18 + y20), .ref 171], 0, 0) 146 2 (fun _ => rfl) h) ?_
            obtain ⟨z21, hz21⟩ : ∃ z : Int32, z = y18 + y20 := ⟨_, rfl⟩
            refine pj_X_eqi hz21.symm ?_
            refine pj_X_of (fun r h => pj_T_pf iG17 rfl rfl rfl h) ?_
            show pj_X _ _ (pj_wv G17 171 54 (.int z21)) 149 [(8, .int y8), (7, .int y6), (6, .int (Int32.ofInt 0)), (0, .ref 171), (1, .int a), (2, .int b), (3, .int n), (4, .int k), (5, .int v5)] [] _
            obtain ⟨G22, hG22⟩ : ∃ H, H = pj_wv G17 171 54 (.int z21) := ⟨_, rfl⟩
            have iG22 : pj_Inv G22 := by rw [hG22]; exact pj_Inv_wi iG17 (ci := 12) rfl (fun q hq => by cases hq)
            have kG22 : pj_kpt kc_269 G0 G22 := by rw [hG22]; exact pj_kpt_v kG17 rfl
            rw [← hG22]
            refine pj_X_of (fun r h => pj_R_to (G22, 151, [(8, .int y8), (7, .int y6), (6, .int (Int32.ofInt 0)), (0, .ref 171), (1, .int a), (2, .int b), (3, .int n), (4, .int k), (5, .int v5)], [.ref 171, .ref 171], 0, 0) 151 3 (fun _ => rfl) h) ?_
            refine pj_X_of (fun r h => pj_T_gi iG22 rfl rfl h) ?_
            show pj_X _ _ G22 154 [(8, .int y8), (7, .int y6), (6, .int (Int32.ofInt 0)), (0, .ref 171), (1, .int a), (2, .int b), (3, .int n), (4, .int k), (5, .int v5)] [.int (pj_fi G22 171 55), .ref 171] _
            obtain ⟨y23, hy23⟩ : ∃ z : Int32, z = pj_fi G22 171 55 := ⟨_, rfl⟩
            refine pj_X_eqi hy23.symm ?_
            have ey23 : (pj_fi G22 171 55).toInt = y23.toInt := by rw [hy23]
            refine pj_X_of (fun r h => pj_R_to (G22, 156, [(8, .int y8), (7, .int y6), (6, .int (Int32.ofInt 0)), (0, .ref 171), (1, .int a), (2, .int b), (3, .int n), (4, .int k), (5, .int v5)], [.int (Int32.ofInt 0), .int y23, .ref 171], 0, 0) 156 2 (fun _ => rfl) h) ?_
            refine pj_X_of (fun r h => pj_R_ifT 168 rfl rfl (pj_b0_eqT (by omega)) h) ?_
            refine pj_X_of (fun r h => pj_R_to (G22, 169, [(8, .int y8), (7, .int y6), (6, .int (Int32.ofInt 0)), (0, .ref 171), (1, .int a), (2, .int b), (3, .int n), (4, .int k), (5, .int v5)], [.int (Int32.ofInt 0), .int y23, .ref 171], 0, 0) 169 2 (fun _ => rfl) h) ?_
            refine pj_X_ca (vs := [.int (Int32.ofInt 0)]) rfl (fun _ => rfl) ⟨Nat.le_of_ble_eq_true rfl, Nat.le_of_ble_eq_true rfl, rfl⟩ ⟨rfl, rfl⟩ (pj_Y_up (by decide) (ct_172x G22 iG22 (Int32.ofInt 0) ⟨by omega, by omega⟩)) ?_
            rintro _ _ ⟨y24, rfl, rfl, ry24, ey24, fy24⟩
            show pj_X _ _ G22 172 [(8, .int y8), (7, .int y6), (6, .int (Int32.ofInt 0)), (0, .ref 171), (1, .int a), (2, .int b), (3, .int n), (4, .int k), (5, .int v5)] [.int y24, .int y23, .ref 171] _
            refine pj_X_of (fun r h => pj_R_to (G22, 173, [(8, .int y8), (7, .int y6), (6, .int (Int32.ofInt 0)), (0, .ref 171), (1, .int a), (2, .int b), (3, .int n), (4, .int k), (5, .int v5)], [.int (y23 + y24), .ref 171], 0, 0) 173 2 (fun _ => rfl) h) ?_
            obtain ⟨z25, hz25⟩ : ∃ z : Int32, z = y23 + y24 := ⟨_, rfl⟩
            refine pj_X_eqi hz25.symm ?_
            refine pj_X_of (fun r h => pj_T_pf iG22 rfl rfl rfl h) ?_
            show pj_X _ _ (pj_wv G22 171 55 (.int z25)) 176 [(8, .int y8), (7, .int y6), (6, .int (Int32.ofInt 0)), (0, .ref 171), (1, .int a), (2, .int b), (3, .int n), (4, .int k), (5, .int v5)] [] _
            obtain ⟨G26, hG26⟩ : ∃ H, H = pj_wv G22 171 55 (.int z25) := ⟨_, rfl⟩
            have iG26 : pj_Inv G26 := by rw [hG26]; exact pj_Inv_wi iG22 (ci := 12) rfl (fun q hq => by cases hq)
            have kG26 : pj_kpt kc_269 G0 G26 := by rw [hG26]; exact pj_kpt_v kG22 rfl
            rw [← hG26]
            refine pj_X_of (fun r h => pj_R_to (G26, 179, [(5, .int (v5 + Int32.ofInt 1)), (8, .int y8), (7, .int y6), (6, .int (Int32.ofInt 0)), (0, .ref 171), (1, .int a), (2, .int b), (3, .int n), (4, .int k)], [], 0, 0) 179 2 (fun _ => rfl) h) ?_
            obtain ⟨z27, hz27⟩ : ∃ z : Int32, z = v5 + Int32.ofInt 1 := ⟨_, rfl⟩
            rw [← hz27]
            have fz27_0 : z27.toInt = v5.toInt + (Int32.ofInt 1).toInt := by rw [hz27]; exact pj_addI (by have := pj_i32 v5; have := pj_i32 (Int32.ofInt 1); omega) (by have := pj_i32 v5; have := pj_i32 (Int32.ofInt 1); omega)
            refine pj_X_of (fun r h => pj_R_to (G26, 23, [(5, .int z27), (8, .int y8), (7, .int y6), (6, .int (Int32.ofInt 0)), (0, .ref 171), (1, .int a), (2, .int b), (3, .int n), (4, .int k)], [], 0, 0) 23 2 (fun _ => rfl) h) ?_
            exact pj_X_sub [(0, .ref 171), (1, .int a), (2, .int b), (3, .int n), (4, .int k), (5, .int z27)] (show List.Nodup [0, 1, 2, 3, 4, 5] by decide) ⟨rfl, rfl, rfl, rfl, rfl, rfl, trivial⟩ (ih G26 iG26 kG26 z27 ⟨by omega, by omega⟩ (by omega))
          | false =>
            have ub19 := pj_u0_eqF b19
            refine pj_X_of (fun r h => pj_R_ifF rfl b19 h) ?_
            refine pj_X_of (fun r h => pj_R_to (G17, 142, [(8, .int y8), (7, .int y6), (6, .int (Int32.ofInt 0)), (0, .ref 171), (1, .int a), (2, .int b), (3, .int n), (4, .int k), (5, .int v5)], [.int (Int32.ofInt 1), .int y18, .ref 171], 0, 0) 142 3 (fun _ => rfl) h) ?_
            refine pj_X_ca (vs := [.int (Int32.ofInt 1)]) rfl (fun _ => rfl) ⟨Nat.le_of_ble_eq_true rfl, Nat.le_of_ble_eq_true rfl, rfl⟩ ⟨rfl, rfl⟩ (pj_Y_up (by decide) (ct_172x G17 iG17 (Int32.ofInt 1) ⟨by omega, by omega⟩)) ?_
            rintro _ _ ⟨y28, rfl, rfl, ry28, ey28, fy28⟩
            show pj_X _ _ G17 145 [(8, .int y8), (7, .int y6), (6, .int (Int32.ofInt 0)), (0, .ref 171), (1, .int a), (2, .int b), (3, .int n), (4, .int k), (5, .int v5)] [.int y28, .int y18, .ref 171] _
            refine pj_X_of (fun r h => pj_R_to (G17, 146, [(8, .int y8), (7, .int y6), (6, .int (Int32.ofInt 0)), (0, .ref 171), (1, .int a), (2, .int b), (3, .int n), (4, .int k), (5, .int v5)], [.int (y18 + y28), .ref 171], 0, 0) 146 2 (fun _ => rfl) h) ?_
            obtain ⟨z29, hz29⟩ : ∃ z : Int32, z = y18 + y28 := ⟨_, rfl⟩
            refine pj_X_eqi hz29.symm ?_
            refine pj_X_of (fun r h => pj_T_pf iG17 rfl rfl rfl h) ?_
            show pj_X _ _ (pj_wv G17 171 54 (.int z29)) 149 [(8, .int y8), (7, .int y6), (6, .int (Int32.ofInt 0)), (0, .ref 171), (1, .int a), (2, .int b), (3, .int n), (4, .int k), (5, .int v5)] [] _
            obtain ⟨G30, hG30⟩ : ∃ H, H = pj_wv G17 171 54 (.int z29) := ⟨_, rfl⟩
            have iG30 : pj_Inv G30 := by rw [hG30]; exact pj_Inv_wi iG17 (ci := 12) rfl (fun q hq => by cases hq)
            have kG30 : pj_kpt kc_269 G0 G30 := by rw [hG30]; exact pj_kpt_v kG17 rfl
            rw [← hG30]
            refine pj_X_of (fun r h => pj_R_to (G30, 151, [(8, .int y8), (7, .int y6), (6, .int (Int32.ofInt 0)), (0, .ref 171), (1, .int a), (2, .int b), (3, .int n), (4, .int k), (5, .int v5)], [.ref 171, .ref 171], 0, 0) 151 3 (fun _ => rfl) h) ?_
            refine pj_X_of (fun r h => pj_T_gi iG30 rfl rfl h) ?_
            show pj_X _ _ G30 154 [(8, .int y8), (7, .int y6), (6, .int (Int32.ofInt 0)), (0, .ref 171), (1, .int a), (2, .int b), (3, .int n), (4, .int k), (5, .int v5)] [.int (pj_fi G30 171 55), .ref 171] _
            obtain ⟨y31, hy31⟩ : ∃ z : Int32, z = pj_fi G30 171 55 := ⟨_, rfl⟩
            refine pj_X_eqi hy31.symm ?_
            have ey31 : (pj_fi G30 171 55).toInt = y31.toInt := by rw [hy31]
            refine pj_X_of (fun r h => pj_R_to (G30, 156, [(8, .int y8), (7, .int y6), (6, .int (Int32.ofInt 0)), (0, .ref 171), (1, .int a), (2, .int b), (3, .int n), (4, .int k), (5, .int v5)], [.int (Int32.ofInt 0), .int y31, .ref 171], 0, 0) 156 2 (fun _ => rfl) h) ?_
            refine pj_X_of (fun r h => pj_R_ifT 168 rfl rfl (pj_b0_eqT (by omega)) h) ?_
            refine pj_X_of (fun r h => pj_R_to (G30, 169, [(8, .int y8), (7, .int y6), (6, .int (Int32.ofInt 0)), (0, .ref 171), (1, .int a), (2, .int b), (3, .int n), (4, .int k), (5, .int v5)], [.int (Int32.ofInt 0), .int y31, .ref 171], 0, 0) 169 2 (fun _ => rfl) h) ?_
            refine pj_X_ca (vs := [.int (Int32.ofInt 0)]) rfl (fun _ => rfl) ⟨Nat.le_of_ble_eq_true rfl, Nat.le_of_ble_eq_true rfl, rfl⟩ ⟨rfl, rfl⟩ (pj_Y_up (by decide) (ct_172x G30 iG30 (Int32.ofInt 0) ⟨by omega, by omega⟩)) ?_
            rintro _ _ ⟨y32, rfl, rfl, ry32, ey32, fy32⟩
            show pj_X _ _ G30 172 [(8, .int y8), (7, .int y6), (6, .int (Int32.ofInt 0)), (0, .ref 171), (1, .int a), (2, .int b), (3, .int n), (4, .int k), (5, .int v5)] [.int y32, .int y31, .ref 171] _
            refine pj_X_of (fun r h => pj_R_to (G30, 173, [(8, .int y8), (7, .int y6), (6, .int (Int32.ofInt 0)), (0, .ref 171), (1, .int a), (2, .int b), (3, .int n), (4, .int k), (5, .int v5)], [.int (y31 + y32), .ref 171], 0, 0) 173 2 (fun _ => rfl) h) ?_
            obtain ⟨z33, hz33⟩ : ∃ z : Int32, z = y31 + y32 := ⟨_, rfl⟩
            refine pj_X_eqi hz33.symm ?_
            refine pj_X_of (fun r h => pj_T_pf iG30 rfl rfl rfl h) ?_
            show pj_X _ _ (pj_wv G30 171 55 (.int z33)) 176 [(8, .int y8), (7, .int y6), (6, .int (Int32.ofInt 0)), (0, .ref 171), (1, .int a), (2, .int b), (3, .int n), (4, .int k), (5, .int v5)] [] _
            obtain ⟨G34, hG34⟩ : ∃ H, H = pj_wv G30 171 55 (.int z33) := ⟨_, rfl⟩
            have iG34 : pj_Inv G34 := by rw [hG34]; exact pj_Inv_wi iG30 (ci := 12) rfl (fun q hq => by cases hq)
            have kG34 : pj_kpt kc_269 G0 G34 := by rw [hG34]; exact pj_kpt_v kG30 rfl
            rw [← hG34]
            refine pj_X_of (fun r h => pj_R_to (G34, 179, [(5, .int (v5 + Int32.ofInt 1)), (8, .int y8), (7, .int y6), (6, .int (Int32.ofInt 0)), (0, .ref 171), (1, .int a), (2, .int b), (3, .int n), (4, .int k)], [], 0, 0) 179 2 (fun _ => rfl) h) ?_
            obtain ⟨z35, hz35⟩ : ∃ z : Int32, z = v5 + Int32.ofInt 1 := ⟨_, rfl⟩
            rw [← hz35]
            have fz35_0 : z35.toInt = v5.toInt + (Int32.ofInt 1).toInt := by rw [hz35]; exact pj_addI (by have := pj_i32 v5; have := pj_i32 (Int32.ofInt 1); omega) (by have := pj_i32 v5; have := pj_i32 (Int32.ofInt 1); omega)
            refine pj_X_of (fun r h => pj_R_to (G34, 23, [(5, .int z35), (8, .int y8), (7, .int y6), (6, .int (Int32.ofInt 0)), (0, .ref 171), (1, .int a), (2, .int b), (3, .int n), (4, .int k)], [], 0, 0) 23 2 (fun _ => rfl) h) ?_
            exact pj_X_sub [(0, .ref 171), (1, .int a), (2, .int b), (3, .int n), (4, .int k), (5, .int z35)] (show List.Nodup [0, 1, 2, 3, 4, 5] by decide) ⟨rfl, rfl, rfl, rfl, rfl, rfl, trivial⟩ (ih G34 iG34 kG34 z35 ⟨by omega, by omega⟩ (by omega))
        | false =>
          have ub14 := pj_u0_eqF b14
          refine pj_X_of (fun r h => pj_R_ifF rfl b14 h) ?_
          refine pj_X_of (fun r h => pj_R_to (G12, 115, [(8, .int y8), (7, .int y6), (6, .int (Int32.ofInt 0)), (0, .ref 171), (1, .int a), (2, .int b), (3, .int n), (4, .int k), (5, .int v5)], [.int (Int32.ofInt 1), .int y13, .ref 171], 0, 0) 115 3 (fun _ => rfl) h) ?_
          refine pj_X_ca (vs := [.int (Int32.ofInt 1)]) rfl (fun _ => rfl) ⟨Nat.le_of_ble_eq_true rfl, Nat.le_of_ble_eq_true rfl, rfl⟩ ⟨rfl, rfl⟩ (pj_Y_up (by decide) (ct_172x G12 iG12 (Int32.ofInt 1) ⟨by omega, by omega⟩)) ?_
          rintro _ _ ⟨y36, rfl, rfl, ry36, ey36, fy36⟩
          show pj_X _ _ G12 118 [(8, .int y8), (7, .int y6), (6, .int (Int32.ofInt 0)), (0, .ref 171), (1, .int a), (2, .int b), (3, .int n), (4, .int k), (5, .int v5)] [.int y36, .int y13, .ref 171] _
          refine pj_X_of (fun r h => pj_R_to (G12, 119, [(8, .int y8), (7, .int y6), (6, .int (Int32.ofInt 0)), (0, .ref 171), (1, .int a), (2, .int b), (3, .int n), (4, .int k), (5, .int v5)], [.int (y13 + y36), .ref 171], 0, 0) 119 2 (fun _ => rfl) h) ?_
          obtain ⟨z37, hz37⟩ : ∃ z : Int32, z = y13 + y36 := ⟨_, rfl⟩
          refine pj_X_eqi hz37.symm ?_
          refine pj_X_of (fun r h => pj_T_pf iG12 rfl rfl rfl h) ?_
          show pj_X _ _ (pj_wv G12 171 53 (.int z37)) 122 [(8, .int y8), (7, .int y6), (6, .int (Int32.ofInt 0)), (0, .ref 171), (1, .int a), (2, .int b), (3, .int n), (4, .int k), (5, .int v5)] [] _
          obtain ⟨G38, hG38⟩ : ∃ H, H = pj_wv G12 171 53 (.int z37) := ⟨_, rfl⟩
          have iG38 : pj_Inv G38 := by rw [hG38]; exact pj_Inv_wi iG12 (ci := 12) rfl (fun q hq => by cases hq)
          have kG38 : pj_kpt kc_269 G0 G38 := by rw [hG38]; exact pj_kpt_v kG12 rfl
          rw [← hG38]
          refine pj_X_of (fun r h => pj_R_to (G38, 124, [(8, .int y8), (7, .int y6), (6, .int (Int32.ofInt 0)), (0, .ref 171), (1, .int a), (2, .int b), (3, .int n), (4, .int k), (5, .int v5)], [.ref 171, .ref 171], 0, 0) 124 3 (fun _ => rfl) h) ?_
          refine pj_X_of (fun r h => pj_T_gi iG38 rfl rfl h) ?_
          show pj_X _ _ G38 127 [(8, .int y8), (7, .int y6), (6, .int (Int32.ofInt 0)), (0, .ref 171), (1, .int a), (2, .int b), (3, .int n), (4, .int k), (5, .int v5)] [.int (pj_fi G38 171 54), .ref 171] _
          obtain ⟨y39, hy39⟩ : ∃ z : Int32, z = pj_fi G38 171 54 := ⟨_, rfl⟩
          refine pj_X_eqi hy39.symm ?_
          have ey39 : (pj_fi G38 171 54).toInt = y39.toInt := by rw [hy39]
          refine pj_X_of (fun r h => pj_R_to (G38, 129, [(8, .int y8), (7, .int y6), (6, .int (Int32.ofInt 0)), (0, .ref 171), (1, .int a), (2, .int b), (3, .int n), (4, .int k), (5, .int v5)], [.int (Int32.ofInt 0), .int y39, .ref 171], 0, 0) 129 2 (fun _ => rfl) h) ?_
          refine pj_X_of (fun r h => pj_R_ifF rfl (pj_b0_neF (by omega)) h) ?_
          refine pj_X_of (fun r h => pj_R_to (G38, 134, [(8, .int y8), (7, .int y6), (6, .int (Int32.ofInt 0)), (0, .ref 171), (1, .int a), (2, .int b), (3, .int n), (4, .int k), (5, .int v5)], [.int y6, .int y39, .ref 171], 0, 0) 134 2 (fun _ => rfl) h) ?_
          cases b40 : pj_c1 .eq y6 0 with
          | true =>
            have ub40 := pj_u0_eqT b40
            refine pj_X_of (fun r h => pj_R_ifT 141 rfl rfl b40 h) ?_
            refine pj_X_of (fun r h => pj_R_to (G38, 142, [(8, .int y8), (7, .int y6), (6, .int (Int32.ofInt 0)), (0, .ref 171), (1, .int a), (2, .int b), (3, .int n), (4, .int k), (5, .int v5)], [.int (Int32.ofInt 0), .int y39, .ref 171], 0, 0) 142 2 (fun _ => rfl) h) ?_
            refine pj_X_ca (vs := [.int (Int32.ofInt 0)]) rfl (fun _ => rfl) ⟨Nat.le_of_ble_eq_true rfl, Nat.le_of_ble_eq_true rfl, rfl⟩ ⟨rfl, rfl⟩ (pj_Y_up (by decide) (ct_172x G38 iG38 (Int32.ofInt 0) ⟨by omega, by omega⟩)) ?_
            rintro _ _ ⟨y41, rfl, rfl, ry41, ey41, fy41⟩
            show pj_X _ _ G38 145 [(8, .int y8), (7, .int y6), (6, .int (Int32.ofInt 0)), (0, .ref 171), (1, .int a), (2, .int b), (3, .int n), (4, .int k), (5, .int v5)] [.int y41, .int y39, .ref 171] _
            refine pj_X_of (fun r h => pj_R_to (G38, 146, [(8, .int y8), (7, .int y6), (6, .int (Int32.ofInt 0)), (0, .ref 171), (1, .int a), (2, .int b), (3, .int n), (4, .int k), (5, .int v5)], [.int (y39 + y41), .ref 171], 0, 0) 146 2 (fun _ => rfl) h) ?_
            obtain ⟨z42, hz42⟩ : ∃ z : Int32, z = y39 + y41 := ⟨_, rfl⟩
            refine pj_X_eqi hz42.symm ?_
            refine pj_X_of (fun r h => pj_T_pf iG38 rfl rfl rfl h) ?_
            show pj_X _ _ (pj_wv G38 171 54 (.int z42)) 149 [(8, .int y8), (7, .int y6), (6, .int (Int32.ofInt 0)), (0, .ref 171), (1, .int a), (2, .int b), (3, .int n), (4, .int k), (5, .int v5)] [] _
            obtain ⟨G43, hG43⟩ : ∃ H, H = pj_wv G38 171 54 (.int z42) := ⟨_, rfl⟩
            have iG43 : pj_Inv G43 := by rw [hG43]; exact pj_Inv_wi iG38 (ci := 12) rfl (fun q hq => by cases hq)
            have kG43 : pj_kpt kc_269 G0 G43 := by rw [hG43]; exact pj_kpt_v kG38 rfl
            rw [← hG43]
            refine pj_X_of (fun r h => pj_R_to (G43, 151, [(8, .int y8), (7, .int y6), (6, .int (Int32.ofInt 0)), (0, .ref 171), (1, .int a), (2, .int b), (3, .int n), (4, .int k), (5, .int v5)], [.ref 171, .ref 171], 0, 0) 151 3 (fun _ => rfl) h) ?_
            refine pj_X_of (fun r h => pj_T_gi iG43 rfl rfl h) ?_
            show pj_X _ _ G43 154 [(8, .int y8), (7, .int y6), (6, .int (Int32.ofInt 0)), (0, .ref 171), (1, .int a), (2, .int b), (3, .int n), (4, .int k), (5, .int v5)] [.int (pj_fi G43 171 55), .ref 171] _
            obtain ⟨y44, hy44⟩ : ∃ z : Int32, z = pj_fi G43 171 55 := ⟨_, rfl⟩
            refine pj_X_eqi hy44.symm ?_
            have ey44 : (pj_fi G43 171 55).toInt = y44.toInt := by rw [hy44]
            refine pj_X_of (fun r h => pj_R_to (G43, 156, [(8, .int y8), (7, .int y6), (6, .int (Int32.ofInt 0)), (0, .ref 171), (1, .int a), (2, .int b), (3, .int n), (4, .int k), (5, .int v5)], [.int (Int32.ofInt 0), .int y44, .ref 171], 0, 0) 156 2 (fun _ => rfl) h) ?_
            refine pj_X_of (fun r h => pj_R_ifT 168 rfl rfl (pj_b0_eqT (by omega)) h) ?_
            refine pj_X_of (fun r h => pj_R_to (G43, 169, [(8, .int y8), (7, .int y6), (6, .int (Int32.ofInt 0)), (0, .ref 171), (1, .int a), (2, .int b), (3, .int n), (4, .int k), (5, .int v5)], [.int (Int32.ofInt 0), .int y44, .ref 171], 0, 0) 169 2 (fun _ => rfl) h) ?_
            refine pj_X_ca (vs := [.int (Int32.ofInt 0)]) rfl (fun _ => rfl) ⟨Nat.le_of_ble_eq_true rfl, Nat.le_of_ble_eq_true rfl, rfl⟩ ⟨rfl, rfl⟩ (pj_Y_up (by decide) (ct_172x G43 iG43 (Int32.ofInt 0) ⟨by omega, by omega⟩)) ?_
            rintro _ _ ⟨y45, rfl, rfl, ry45, ey45, fy45⟩
            show pj_X _ _ G43 172 [(8, .int y8), (7, .int y6), (6, .int (Int32.ofInt 0)), (0, .ref 171), (1, .int a), (2, .int b), (3, .int n), (4, .int k), (5, .int v5)] [.int y45, .int y44, .ref 171] _
            refine pj_X_of (fun r h => pj_R_to (G43, 173, [(8, .int y8), (7, .int y6), (6, .int (Int32.ofInt 0)), (0, .ref 171), (1, .int a), (2, .int b), (3, .int n), (4, .int k), (5, .int v5)], [.int (y44 + y45), .ref 171], 0, 0) 173 2 (fun _ => rfl) h) ?_
            obtain ⟨z46, hz46⟩ : ∃ z : Int32, z = y44 + y45 := ⟨_, rfl⟩
            refine pj_X_eqi hz46.symm ?_
            refine pj_X_of (fun r h => pj_T_pf iG43 rfl rfl rfl h) ?_
            show pj_X _ _ (pj_wv G43 171 55 (.int z46)) 176 [(8, .int y8), (7, .int y6), (6, .int (Int32.ofInt 0)), (0, .ref 171), (1, .int a), (2, .int b), (3, .int n), (4, .int k), (5, .int v5)] [] _
            obtain ⟨G47, hG47⟩ : ∃ H, H = pj_wv G43 171 55 (.int z46) := ⟨_, rfl⟩
            have iG47 : pj_Inv G47 := by rw [hG47]; exact pj_Inv_wi iG43 (ci := 12) rfl (fun q hq => by cases hq)
            have kG47 : pj_kpt kc_269 G0 G47 := by rw [hG47]; exact pj_kpt_v kG43 rfl
            rw [← hG47]
            refine pj_X_of (fun r h => pj_R_to (G47, 179, [(5, .int (v5 + Int32.ofInt 1)), (8, .int y8), (7, .int y6), (6, .int (Int32.ofInt 0)), (0, .ref 171), (1, .int a), (2, .int b), (3, .int n), (4, .int k)], [], 0, 0) 179 2 (fun _ => rfl) h) ?_
            obtain ⟨z48, hz48⟩ : ∃ z : Int32, z = v5 + Int32.ofInt 1 := ⟨_, rfl⟩
            rw [← hz48]
            have fz48_0 : z48.toInt = v5.toInt + (Int32.ofInt 1).toInt := by rw [hz48]; exact pj_addI (by have := pj_i32 v5; have := pj_i32 (Int32.ofInt 1); omega) (by have := pj_i32 v5; have := pj_i32 (Int32.ofInt 1); omega)
            refine pj_X_of (fun r h => pj_R_to (G47, 23, [(5, .int z48), (8, .int y8), (7, .int y6), (6, .int (Int32.ofInt 0)), (0, .ref 171), (1, .int a), (2, .int b), (3, .int n), (4, .int k)], [], 0, 0) 23 2 (fun _ => rfl) h) ?_
            exact pj_X_sub [(0, .ref 171), (1, .int a), (2, .int b), (3, .int n), (4, .int k), (5, .int z48)] (show List.Nodup [0, 1, 2, 3, 4, 5] by decide) ⟨rfl, rfl, rfl, rfl, rfl, rfl, trivial⟩ (ih G47 iG47 kG47 z48 ⟨by omega, by omega⟩ (by omega))
          | false =>
            have ub40 := pj_u0_eqF b40
            refine pj_X_of (fun r h => pj_R_ifF rfl b40 h) ?_
            refine pj_X_of (fun r h => pj_R_to (G38, 142, [(8, .int y8), (7, .int y6), (6, .int (Int32.ofInt 0)), (0, .ref 171), (1, .int a), (2, .int b), (3, .int n), (4, .int k), (5, .int v5)], [.int (Int32.ofInt 1), .int y39, .ref 171], 0, 0) 142 3 (fun _ => rfl) h) ?_
            refine pj_X_ca (vs := [.int (Int32.ofInt 1)]) rfl (fun _ => rfl) ⟨Nat.le_of_ble_eq_true rfl, Nat.le_of_ble_eq_true rfl, rfl⟩ ⟨rfl, rfl⟩ (pj_Y_up (by decide) (ct_172x G38 iG38 (Int32.ofInt 1) ⟨by omega, by omega⟩)) ?_
            rintro _ _ ⟨y49, rfl, rfl, ry49, ey49, fy49⟩
            show pj_X _ _ G38 145 [(8, .int y8), (7, .int y6), (6, .int (Int32.ofInt 0)), (0, .ref 171), (1, .int a), (2, .int b), (3, .int n), (4, .int k), (5, .int v5)] [.int y49, .int y39, .ref 171] _
            refine pj_X_of (fun r h => pj_R_to (G38, 146, [(8, .int y8), (7, .int y6), (6, .int (Int32.ofInt 0)), (0, .ref 171), (1, .int a), (2, .int b), (3, .int n), (4, .int k), (5, .int v5)], [.int (y39 + y49), .ref 171], 0, 0) 146 2 (fun _ => rfl) h) ?_
            obtain ⟨z50, hz50⟩ : ∃ z : Int32, z = y39 + y49 := ⟨_, rfl⟩
            refine pj_X_eqi hz50.symm ?_
            refine pj_X_of (fun r h => pj_T_pf iG38 rfl rfl rfl h) ?_
            show pj_X _ _ (pj_wv G38 171 54 (.int z50)) 149 [(8, .int y8), (7, .int y6), (6, .int (Int32.ofInt 0)), (0, .ref 171), (1, .int a), (2, .int b), (3, .int n), (4, .int k), (5, .int v5)] [] _
            obtain ⟨G51, hG51⟩ : ∃ H, H = pj_wv G38 171 54 (.int z50) := ⟨_, rfl⟩
            have iG51 : pj_Inv G51 := by rw [hG51]; exact pj_Inv_wi iG38 (ci := 12) rfl (fun q hq => by cases hq)
            have kG51 : pj_kpt kc_269 G0 G51 := by rw [hG51]; exact pj_kpt_v kG38 rfl
            rw [← hG51]
            refine pj_X_of (fun r h => pj_R_to (G51, 151, [(8, .int y8), (7, .int y6), (6, .int (Int32.ofInt 0)), (0, .ref 171), (1, .int a), (2, .int b), (3, .int n), (4, .int k), (5, .int v5)], [.ref 171, .ref 171], 0, 0) 151 3 (fun _ => rfl) h) ?_
            refine pj_X_of (fun r h => pj_T_gi iG51 rfl rfl h) ?_
            show pj_X _ _ G51 154 [(8, .int y8), (7, .int y6), (6, .int (Int32.ofInt 0)), (0, .ref 171), (1, .int a), (2, .int b), (3, .int n), (4, .int k), (5, .int v5)] [.int (pj_fi G51 171 55), .ref 171] _
            obtain ⟨y52, hy52⟩ : ∃ z : Int32, z = pj_fi G51 171 55 := ⟨_, rfl⟩
            refine pj_X_eqi hy52.symm ?_
            have ey52 : (pj_fi G51 171 55).toInt = y52.toInt := by rw [hy52]
            refine pj_X_of (fun r h => pj_R_to (G51, 156, [(8, .int y8), (7, .int y6), (6, .int (Int32.ofInt 0)), (0, .ref 171), (1, .int a), (2, .int b), (3, .int n), (4, .int k), (5, .int v5)], [.int (Int32.ofInt 0), .int y52, .ref 171], 0, 0) 156 2 (fun _ => rfl) h) ?_
            refine pj_X_of (fun r h => pj_R_ifT 168 rfl rfl (pj_b0_eqT (by omega)) h) ?_
            refine pj_X_of (fun r h => pj_R_to (G51, 169, [(8, .int y8), (7, .int y6), (6, .int (Int32.ofInt 0)), (0, .ref 171), (1, .int a), (2, .int b), (3, .int n), (4, .int k), (5, .int v5)], [.int (Int32.ofInt 0), .int y52, .ref 171], 0, 0) 169 2 (fun _ => rfl) h) ?_
            refine pj_X_ca (vs := [.int (Int32.ofInt 0)]) rfl (fun _ => rfl) ⟨Nat.le_of_ble_eq_true rfl, Nat.le_of_ble_eq_true rfl, rfl⟩ ⟨rfl, rfl⟩ (pj_Y_up (by decide) (ct_172x G51 iG51 (Int32.ofInt 0) ⟨by omega, by omega⟩)) ?_
            rintro _ _ ⟨y53, rfl, rfl, ry53, ey53, fy53⟩
            show pj_X _ _ G51 172 [(8, .int y8), (7, .int y6), (6, .int (Int32.ofInt 0)), (0, .ref 171), (1, .int a), (2, .int b), (3, .int n), (4, .int k), (5, .int v5)] [.int y53, .int y52, .ref 171] _
            refine pj_X_of (fun r h => pj_R_to (G51, 173, [(8, .int y8), (7, .int y6), (6, .int (Int32.ofInt 0)), (0, .ref 171), (1, .int a), (2, .int b), (3, .int n), (4, .int k), (5, .int v5)], [.int (y52 + y53), .ref 171], 0, 0) 173 2 (fun _ => rfl) h) ?_
            obtain ⟨z54, hz54⟩ : ∃ z : Int32, z = y52 + y53 := ⟨_, rfl⟩
            refine pj_X_eqi hz54.symm ?_
            refine pj_X_of (fun r h => pj_T_pf iG51 rfl rfl rfl h) ?_
            show pj_X _ _ (pj_wv G51 171 55 (.int z54)) 176 [(8, .int y8), (7, .int y6), (6, .int (Int32.ofInt 0)), (0, .ref 171), (1, .int a), (2, .int b), (3, .int n), (4, .int k), (5, .int v5)] [] _
            obtain ⟨G55, hG55⟩ : ∃ H, H = pj_wv G51 171 55 (.int z54) := ⟨_, rfl⟩
            have iG55 : pj_Inv G55 := by rw [hG55]; exact pj_Inv_wi iG51 (ci := 12) rfl (fun q hq => by cases hq)
            have kG55 : pj_kpt kc_269 G0 G55 := by rw [hG55]; exact pj_kpt_v kG51 rfl
            rw [← hG55]
            refine pj_X_of (fun r h => pj_R_to (G55, 179, [(5, .int (v5 + Int32.ofInt 1)), (8, .int y8), (7, .int y6), (6, .int (Int32.ofInt 0)), (0, .ref 171), (1, .int a), (2, .int b), (3, .int n), (4, .int k)], [], 0, 0) 179 2 (fun _ => rfl) h) ?_
            obtain ⟨z56, hz56⟩ : ∃ z : Int32, z = v5 + Int32.ofInt 1 := ⟨_, rfl⟩
            rw [← hz56]
            have fz56_0 : z56.toInt = v5.toInt + (Int32.ofInt 1).toInt := by rw [hz56]; exact pj_addI (by have := pj_i32 v5; have := pj_i32 (Int32.ofInt 1); omega) (by have := pj_i32 v5; have := pj_i32 (Int32.ofInt 1); omega)
            refine pj_X_of (fun r h => pj_R_to (G55, 23, [(5, .int z56), (8, .int y8), (7, .int y6), (6, .int (Int32.ofInt 0)), (0, .ref 171), (1, .int a), (2, .int b), (3, .int n), (4, .int k)], [], 0, 0) 23 2 (fun _ => rfl) h) ?_
            exact pj_X_sub [(0, .ref 171), (1, .int a), (2, .int b), (3, .int n), (4, .int k), (5, .int z56)] (show List.Nodup [0, 1, 2, 3, 4, 5] by decide) ⟨rfl, rfl, rfl, rfl, rfl, rfl, trivial⟩ (ih G55 iG55 kG55 z56 ⟨by omega, by omega⟩ (by omega))
      | false =>
        have ub4 := pj_u0_neF b4
        refine pj_X_of (fun r h => pj_R_ifF rfl b4 h) ?_
        refine pj_X_of (fun r h => pj_R_to (G, 51, [(6, .int (Int32.ofInt 1)), (0, .ref 171), (1, .int a), (2, .int b), (3, .int n), (4, .int k), (5, .int v5)], [.int ((Int8.ofInt 24).toInt32), .int v5, .int a], 0, 0) 51 7 (fun _ => rfl) h) ?_
        refine pj_X_of (fun r h => pj_R_rm rfl (pj_nz (by omega)) h) ?_
        show pj_X _ _ G 52 [(6, .int (Int32.ofInt 1)), (0, .ref 171), (1, .int a), (2, .int b), (3, .int n), (4, .int k), (5, .int v5)] [.int (v5 - v5 / ((Int8.ofInt 24).toInt32) * ((Int8.ofInt 24).toInt32)), .int a] _
        obtain ⟨z57, hz57⟩ : ∃ z : Int32, z = v5 - v5 / ((Int8.ofInt 24).toInt32) * ((Int8.ofInt 24).toInt32) := ⟨_, rfl⟩
        refine pj_X_eqi hz57.symm ?_
        have fz57_0 : 0 ≤ z57.toInt ∧ z57.toInt < ((Int8.ofInt 24).toInt32).toInt := by rw [hz57]; exact pj_remI (by omega) (by omega)
        refine pj_X_ca (vs := [.int a, .int z57]) rfl (fun _ => rfl) ⟨Nat.le_of_ble_eq_true rfl, Nat.le_of_ble_eq_true rfl, rfl⟩ ⟨rfl, rfl⟩ (pj_Y_up (by decide) (ct_171bx G hI a z57)) ?_
        rintro _ _ ⟨y58, rfl, rfl, ry58, ey58, fy58⟩
        show pj_X _ _ G 55 [(6, .int (Int32.ofInt 1)), (0, .ref 171), (1, .int a), (2, .int b), (3, .int n), (4, .int k), (5, .int v5)] [.int y58] _
        refine pj_X_of (fun r h => pj_R_to (G, 62, [(7, .int y58), (6, .int (Int32.ofInt 1)), (0, .ref 171), (1, .int a), (2, .int b), (3, .int n), (4, .int k), (5, .int v5)], [.int ((Int8.ofInt 24).toInt32), .int v5, .int b], 0, 0) 62 5 (fun _ => rfl) h) ?_
        refine pj_X_of (fun r h => pj_R_rm rfl (pj_nz (by omega)) h) ?_
        show pj_X _ _ G 63 [(7, .int y58), (6, .int (Int32.ofInt 1)), (0, .ref 171), (1, .int a), (2, .int b), (3, .int n), (4, .int k), (5, .int v5)] [.int (v5 - v5 / ((Int8.ofInt 24).toInt32) * ((Int8.ofInt 24).toInt32)), .int b] _
        obtain ⟨z59, hz59⟩ : ∃ z : Int32, z = v5 - v5 / ((Int8.ofInt 24).toInt32) * ((Int8.ofInt 24).toInt32) := ⟨_, rfl⟩
        refine pj_X_eqi hz59.symm ?_
        have fz59_0 : 0 ≤ z59.toInt ∧ z59.toInt < ((Int8.ofInt 24).toInt32).toInt := by rw [hz59]; exact pj_remI (by omega) (by omega)
        refine pj_X_ca (vs := [.int b, .int z59]) rfl (fun _ => rfl) ⟨Nat.le_of_ble_eq_true rfl, Nat.le_of_ble_eq_true rfl, rfl⟩ ⟨rfl, rfl⟩ (pj_Y_up (by decide) (ct_171bx G hI b z59)) ?_
        rintro _ _ ⟨y60, rfl, rfl, ry60, ey60, fy60⟩
        show pj_X _ _ G 66 [(7, .int y58), (6, .int (Int32.ofInt 1)), (0, .ref 171), (1, .int a), (2, .int b), (3, .int n), (4, .int k), (5, .int v5)] [.int y60] _
        refine pj_X_of (fun r h => pj_R_to (G, 70, [(8, .int y60), (7, .int y58), (6, .int (Int32.ofInt 1)), (0, .ref 171), (1, .int a), (2, .int b), (3, .int n), (4, .int k), (5, .int v5)], [.ref 171, .ref 171], 0, 0) 70 4 (fun _ => rfl) h) ?_
        refine pj_X_of (fun r h => pj_T_gi hI rfl rfl h) ?_
        show pj_X _ _ G 73 [(8, .int y60), (7, .int y58), (6, .int (Int32.ofInt 1)), (0, .ref 171), (1, .int a), (2, .int b), (3, .int n), (4, .int k), (5, .int v5)] [.int (pj_fi G 171 52), .ref 171] _
        obtain ⟨y61, hy61⟩ : ∃ z : Int32, z = pj_fi G 171 52 := ⟨_, rfl⟩
        refine pj_X_eqi hy61.symm ?_
        have ey61 : (pj_fi G 171 52).toInt = y61.toInt := by rw [hy61]
        refine pj_X_of (fun r h => pj_R_to (G, 75, [(8, .int y60), (7, .int y58), (6, .int (Int32.ofInt 1)), (0, .ref 171), (1, .int a), (2, .int b), (3, .int n), (4, .int k), (5, .int v5)], [.int (Int32.ofInt 1), .int y61, .ref 171], 0, 0) 75 2 (fun _ => rfl) h) ?_
        refine pj_X_of (fun r h => pj_R_ifF rfl (pj_b0_eqF (by omega)) h) ?_
        refine pj_X_of (fun r h => pj_R_to (G, 80, [(8, .int y60), (7, .int y58), (6, .int (Int32.ofInt 1)), (0, .ref 171), (1, .int a), (2, .int b), (3, .int n), (4, .int k), (5, .int v5)], [.int y58, .int y61, .ref 171], 0, 0) 80 2 (fun _ => rfl) h) ?_
        cases b62 : pj_c1 .eq y58 0 with
        | true =>
          have ub62 := pj_u0_eqT b62
          refine pj_X_of (fun r h => pj_R_ifT 87 rfl rfl b62 h) ?_
          refine pj_X_of (fun r h => pj_R_to (G, 88, [(8, .int y60), (7, .int y58), (6, .int (Int32.ofInt 1)), (0, .ref 171), (1, .int a), (2, .int b), (3, .int n), (4, .int k), (5, .int v5)], [.int (Int32.ofInt 0), .int y61, .ref 171], 0, 0) 88 2 (fun _ => rfl) h) ?_
          refine pj_X_ca (vs := [.int (Int32.ofInt 0)]) rfl (fun _ => rfl) ⟨Nat.le_of_ble_eq_true rfl, Nat.le_of_ble_eq_true rfl, rfl⟩ ⟨rfl, rfl⟩ (pj_Y_up (by decide) (ct_172x G hI (Int32.ofInt 0) ⟨by omega, by omega⟩)) ?_
          rintro _ _ ⟨y63, rfl, rfl, ry63, ey63, fy63⟩
          show pj_X _ _ G 91 [(8, .int y60), (7, .int y58), (6, .int (Int32.ofInt 1)), (0, .ref 171), (1, .int a), (2, .int b), (3, .int n), (4, .int k), (5, .int v5)] [.int y63, .int y61, .ref 171] _
          refine pj_X_of (fun r h => pj_R_to (G, 92, [(8, .int y60), (7, .int y58), (6, .int (Int32.ofInt 1)), (0, .ref 171), (1, .int a), (2, .int b), (3, .int n), (4, .int k), (5, .int v5)], [.int (y61 + y63), .ref 171], 0, 0) 92 2 (fun _ => rfl) h) ?_
          obtain ⟨z64, hz64⟩ : ∃ z : Int32, z = y61 + y63 := ⟨_, rfl⟩
          refine pj_X_eqi hz64.symm ?_
          refine pj_X_of (fun r h => pj_T_pf hI rfl rfl rfl h) ?_
          show pj_X _ _ (pj_wv G 171 52 (.int z64)) 95 [(8, .int y60), (7, .int y58), (6, .int (Int32.ofInt 1)), (0, .ref 171), (1, .int a), (2, .int b), (3, .int n), (4, .int k), (5, .int v5)] [] _
          obtain ⟨G65, hG65⟩ : ∃ H, H = pj_wv G 171 52 (.int z64) := ⟨_, rfl⟩
          have iG65 : pj_Inv G65 := by rw [hG65]; exact pj_Inv_wi hI (ci := 12) rfl (fun q hq => by cases hq)
          have kG65 : pj_kpt kc_269 G0 G65 := by rw [hG65]; exact pj_kpt_v hK rfl
          rw [← hG65]
          refine pj_X_of (fun r h => pj_R_to (G65, 97, [(8, .int y60), (7, .int y58), (6, .int (Int32.ofInt 1)), (0, .ref 171), (1, .int a), (2, .int b), (3, .int n), (4, .int k), (5, .int v5)], [.ref 171, .ref 171], 0, 0) 97 3 (fun _ => rfl) h) ?_
          refine pj_X_of (fun r h => pj_T_gi iG65 rfl rfl h) ?_
          show pj_X _ _ G65 100 [(8, .int y60), (7, .int y58), (6, .int (Int32.ofInt 1)), (0, .ref 171), (1, .int a), (2, .int b), (3, .int n), (4, .int k), (5, .int v5)] [.int (pj_fi G65 171 53), .ref 171] _
          obtain ⟨y66, hy66⟩ : ∃ z : Int32, z = pj_fi G65 171 53 := ⟨_, rfl⟩
          refine pj_X_eqi hy66.symm ?_
          have ey66 : (pj_fi G65 171 53).toInt = y66.toInt := by rw [hy66]
          refine pj_X_of (fun r h => pj_R_to (G65, 102, [(8, .int y60), (7, .int y58), (6, .int (Int32.ofInt 1)), (0, .ref 171), (1, .int a), (2, .int b), (3, .int n), (4, .int k), (5, .int v5)], [.int (Int32.ofInt 1), .int y66, .ref 171], 0, 0) 102 2 (fun _ => rfl) h) ?_
          refine pj_X_of (fun r h => pj_R_ifT 114 rfl rfl (pj_b0_neT (by omega)) h) ?_
          refine pj_X_of (fun r h => pj_R_to (G65, 115, [(8, .int y60), (7, .int y58), (6, .int (Int32.ofInt 1)), (0, .ref 171), (1, .int a), (2, .int b), (3, .int n), (4, .int k), (5, .int v5)], [.int (Int32.ofInt 0), .int y66, .ref 171], 0, 0) 115 2 (fun _ => rfl) h) ?_
          refine pj_X_ca (vs := [.int (Int32.ofInt 0)]) rfl (fun _ => rfl) ⟨Nat.le_of_ble_eq_true rfl, Nat.le_of_ble_eq_true rfl, rfl⟩ ⟨rfl, rfl⟩ (pj_Y_up (by decide) (ct_172x G65 iG65 (Int32.ofInt 0) ⟨by omega, by omega⟩)) ?_
          rintro _ _ ⟨y67, rfl, rfl, ry67, ey67, fy67⟩
          show pj_X _ _ G65 118 [(8, .int y60), (7, .int y58), (6, .int (Int32.ofInt 1)), (0, .ref 171), (1, .int a), (2, .int b), (3, .int n), (4, .int k), (5, .int v5)] [.int y67, .int y66, .ref 171] _
          refine pj_X_of (fun r h => pj_R_to (G65, 119, [(8, .int y60), (7, .int y58), (6, .int (Int32.ofInt 1)), (0, .ref 171), (1, .int a), (2, .int b), (3, .int n), (4, .int k), (5, .int v5)], [.int (y66 + y67), .ref 171], 0, 0) 119 2 (fun _ => rfl) h) ?_
          obtain ⟨z68, hz68⟩ : ∃ z : Int32, z = y66 + y67 := ⟨_, rfl⟩
          refine pj_X_eqi hz68.symm ?_
          refine pj_X_of (fun r h => pj_T_pf iG65 rfl rfl rfl h) ?_
          show pj_X _ _ (pj_wv G65 171 53 (.int z68)) 122 [(8, .int y60), (7, .int y58), (6, .int (Int32.ofInt 1)), (0, .ref 171), (1, .int a), (2, .int b), (3, .int n), (4, .int k), (5, .int v5)] [] _
          obtain ⟨G69, hG69⟩ : ∃ H, H = pj_wv G65 171 53 (.int z68) := ⟨_, rfl⟩
          have iG69 : pj_Inv G69 := by rw [hG69]; exact pj_Inv_wi iG65 (ci := 12) rfl (fun q hq => by cases hq)
          have kG69 : pj_kpt kc_269 G0 G69 := by rw [hG69]; exact pj_kpt_v kG65 rfl
          rw [← hG69]
          refine pj_X_of (fun r h => pj_R_to (G69, 124, [(8, .int y60), (7, .int y58), (6, .int (Int32.ofInt 1)), (0, .ref 171), (1, .int a), (2, .int b), (3, .int n), (4, .int k), (5, .int v5)], [.ref 171, .ref 171], 0, 0) 124 3 (fun _ => rfl) h) ?_
          refine pj_X_of (fun r h => pj_T_gi iG69 rfl rfl h) ?_
          show pj_X _ _ G69 127 [(8, .int y60), (7, .int y58), (6, .int (Int32.ofInt 1)), (0, .ref 171), (1, .int a), (2, .int b), (3, .int n), (4, .int k), (5, .int v5)] [.int (pj_fi G69 171 54), .ref 171] _
          obtain ⟨y70, hy70⟩ : ∃ z : Int32, z = pj_fi G69 171 54 := ⟨_, rfl⟩
          refine pj_X_eqi hy70.symm ?_
          have ey70 : (pj_fi G69 171 54).toInt = y70.toInt := by rw [hy70]
          refine pj_X_of (fun r h => pj_R_to (G69, 129, [(8, .int y60), (7, .int y58), (6, .int (Int32.ofInt 1)), (0, .ref 171), (1, .int a), (2, .int b), (3, .int n), (4, .int k), (5, .int v5)], [.int (Int32.ofInt 1), .int y70, .ref 171], 0, 0) 129 2 (fun _ => rfl) h) ?_
          refine pj_X_of (fun r h => pj_R_ifT 141 rfl rfl (pj_b0_neT (by omega)) h) ?_
          refine pj_X_of (fun r h => pj_R_to (G69, 142, [(8, .int y60), (7, .int y58), (6, .int (Int32.ofInt 1)), (0, .ref 171), (1, .int a), (2, .int b), (3, .int n), (4, .int k), (5, .int v5)], [.int (Int32.ofInt 0), .int y70, .ref 171], 0, 0) 142 2 (fun _ => rfl) h) ?_
          refine pj_X_ca (vs := [.int (Int32.ofInt 0)]) rfl (fun _ => rfl) ⟨Nat.le_of_ble_eq_true rfl, Nat.le_of_ble_eq_true rfl, rfl⟩ ⟨rfl, rfl⟩ (pj_Y_up (by decide) (ct_172x G69 iG69 (Int32.ofInt 0) ⟨by omega, by omega⟩)) ?_
          rintro _ _ ⟨y71, rfl, rfl, ry71, ey71, fy71⟩
          show pj_X _ _ G69 145 [(8, .int y60), (7, .int y58), (6, .int (Int32.ofInt 1)), (0, .ref 171), (1, .int a), (2, .int b), (3, .int n), (4, .int k), (5, .int v5)] [.int y71, .int y70, .ref 171] _
          refine pj_X_of (fun r h => pj_R_to (G69, 146, [(8, .int y60), (7, .int y58), (6, .int (Int32.ofInt 1)), (0, .ref 171), (1, .int a), (2, .int b), (3, .int n), (4, .int k), (5, .int v5)], [.int (y70 + y71), .ref 171], 0, 0) 146 2 (fun _ => rfl) h) ?_
          obtain ⟨z72, hz72⟩ : ∃ z : Int32, z = y70 + y71 := ⟨_, rfl⟩
          refine pj_X_eqi hz72.symm ?_
          refine pj_X_of (fun r h => pj_T_pf iG69 rfl rfl rfl h) ?_
          show pj_X _ _ (pj_wv G69 171 54 (.int z72)) 149 [(8, .int y60), (7, .int y58), (6, .int (Int32.ofInt 1)), (0, .ref 171), (1, .int a), (2, .int b), (3, .int n), (4, .int k), (5, .int v5)] [] _
          obtain ⟨G73, hG73⟩ : ∃ H, H = pj_wv G69 171 54 (.int z72) := ⟨_, rfl⟩
          have iG73 : pj_Inv G73 := by rw [hG73]; exact pj_Inv_wi iG69 (ci := 12) rfl (fun q hq => by cases hq)
          have kG73 : pj_kpt kc_269 G0 G73 := by rw [hG73]; exact pj_kpt_v kG69 rfl
          rw [← hG73]
          refine pj_X_of (fun r h => pj_R_to (G73, 151, [(8, .int y60), (7, .int y58), (6, .int (Int32.ofInt 1)), (0, .ref 171), (1, .int a), (2, .int b), (3, .int n), (4, .int k), (5, .int v5)], [.ref 171, .ref 171], 0, 0) 151 3 (fun _ => rfl) h) ?_
          refine pj_X_of (fun r h => pj_T_gi iG73 rfl rfl h) ?_
          show pj_X _ _ G73 154 [(8, .int y60), (7, .int y58), (6, .int (Int32.ofInt 1)), (0, .ref 171), (1, .int a), (2, .int b), (3, .int n), (4, .int k), (5, .int v5)] [.int (pj_fi G73 171 55), .ref 171] _
          obtain ⟨y74, hy74⟩ : ∃ z : Int32, z = pj_fi G73 171 55 := ⟨_, rfl⟩
          refine pj_X_eqi hy74.symm ?_
          have ey74 : (pj_fi G73 171 55).toInt = y74.toInt := by rw [hy74]
          refine pj_X_of (fun r h => pj_R_to (G73, 156, [(8, .int y60), (7, .int y58), (6, .int (Int32.ofInt 1)), (0, .ref 171), (1, .int a), (2, .int b), (3, .int n), (4, .int k), (5, .int v5)], [.int (Int32.ofInt 1), .int y74, .ref 171], 0, 0) 156 2 (fun _ => rfl) h) ?_
          refine pj_X_of (fun r h => pj_R_ifF rfl (pj_b0_eqF (by omega)) h) ?_
          refine pj_X_of (fun r h => pj_R_to (G73, 161, [(8, .int y60), (7, .int y58), (6, .int (Int32.ofInt 1)), (0, .ref 171), (1, .int a), (2, .int b), (3, .int n), (4, .int k), (5, .int v5)], [.int y60, .int y74, .ref 171], 0, 0) 161 2 (fun _ => rfl) h) ?_
          cases b75 : pj_c1 .eq y60 0 with
          | true =>
            have ub75 := pj_u0_eqT b75
            refine pj_X_of (fun r h => pj_R_ifT 168 rfl rfl b75 h) ?_
            refine pj_X_of (fun r h => pj_R_to (G73, 169, [(8, .int y60), (7, .int y58), (6, .int (Int32.ofInt 1)), (0, .ref 171), (1, .int a), (2, .int b), (3, .int n), (4, .int k), (5, .int v5)], [.int (Int32.ofInt 0), .int y74, .ref 171], 0, 0) 169 2 (fun _ => rfl) h) ?_
            refine pj_X_ca (vs := [.int (Int32.ofInt 0)]) rfl (fun _ => rfl) ⟨Nat.le_of_ble_eq_true rfl, Nat.le_of_ble_eq_true rfl, rfl⟩ ⟨rfl, rfl⟩ (pj_Y_up (by decide) (ct_172x G73 iG73 (Int32.ofInt 0) ⟨by omega, by omega⟩)) ?_
            rintro _ _ ⟨y76, rfl, rfl, ry76, ey76, fy76⟩
            show pj_X _ _ G73 172 [(8, .int y60), (7, .int y58), (6, .int (Int32.ofInt 1)), (0, .ref 171), (1, .int a), (2, .int b), (3, .int n), (4, .int k), (5, .int v5)] [.int y76, .int y74, .ref 171] _
            refine pj_X_of (fun r h => pj_R_to (G73, 173, [(8, .int y60), (7, .int y58), (6, .int (Int32.ofInt 1)), (0, .ref 171), (1, .int a), (2, .int b), (3, .int n), (4, .int k), (5, .int v5)], [.int (y74 + y76), .ref 171], 0, 0) 173 2 (fun _ => rfl) h) ?_
            obtain ⟨z77, hz77⟩ : ∃ z : Int32, z = y74 + y76 := ⟨_, rfl⟩
            refine pj_X_eqi hz77.symm ?_
            refine pj_X_of (fun r h => pj_T_pf iG73 rfl rfl rfl h) ?_
            show pj_X _ _ (pj_wv G73 171 55 (.int z77)) 176 [(8, .int y60), (7, .int y58), (6, .int (Int32.ofInt 1)), (0, .ref 171), (1, .int a), (2, .int b), (3, .int n), (4, .int k), (5, .int v5)] [] _
            obtain ⟨G78, hG78⟩ : ∃ H, H = pj_wv G73 171 55 (.int z77) := ⟨_, rfl⟩
            have iG78 : pj_Inv G78 := by rw [hG78]; exact pj_Inv_wi iG73 (ci := 12) rfl (fun q hq => by cases hq)
            have kG78 : pj_kpt kc_269 G0 G78 := by rw [hG78]; exact pj_kpt_v kG73 rfl
            rw [← hG78]
            refine pj_X_of (fun r h => pj_R_to (G78, 179, [(5, .int (v5 + Int32.ofInt 1)), (8, .int y60), (7, .int y58), (6, .int (Int32.ofInt 1)), (0, .ref 171), (1, .int a), (2, .int b), (3, .int n), (4, .int k)], [], 0, 0) 179 2 (fun _ => rfl) h) ?_
            obtain ⟨z79, hz79⟩ : ∃ z : Int32, z = v5 + Int32.ofInt 1 := ⟨_, rfl⟩
            rw [← hz79]
            have fz79_0 : z79.toInt = v5.toInt + (Int32.ofInt 1).toInt := by rw [hz79]; exact pj_addI (by have := pj_i32 v5; have := pj_i32 (Int32.ofInt 1); omega) (by have := pj_i32 v5; have := pj_i32 (Int32.ofInt 1); omega)
            refine pj_X_of (fun r h => pj_R_to (G78, 23, [(5, .int z79), (8, .int y60), (7, .int y58), (6, .int (Int32.ofInt 1)), (0, .ref 171), (1, .int a), (2, .int b), (3, .int n), (4, .int k)], [], 0, 0) 23 2 (fun _ => rfl) h) ?_
            exact pj_X_sub [(0, .ref 171), (1, .int a), (2, .int b), (3, .int n), (4, .int k), (5, .int z79)] (show List.Nodup [0, 1, 2, 3, 4, 5] by decide) ⟨rfl, rfl, rfl, rfl, rfl, rfl, trivial⟩ (ih G78 iG78 kG78 z79 ⟨by omega, by omega⟩ (by omega))
          | false =>
            have ub75 := pj_u0_eqF b75
            refine pj_X_of (fun r h => pj_R_ifF rfl b75 h) ?_
            refine pj_X_of (fun r h => pj_R_to (G73, 169, [(8, .int y60), (7, .int y58), (6, .int (Int32.ofInt 1)), (0, .ref 171), (1, .int a), (2, .int b), (3, .int n), (4, .int k), (5, .int v5)], [.int (Int32.ofInt 1), .int y74, .ref 171], 0, 0) 169 3 (fun _ => rfl) h) ?_
            refine pj_X_ca (vs := [.int (Int32.ofInt 1)]) rfl (fun _ => rfl) ⟨Nat.le_of_ble_eq_true rfl, Nat.le_of_ble_eq_true rfl, rfl⟩ ⟨rfl, rfl⟩ (pj_Y_up (by decide) (ct_172x G73 iG73 (Int32.ofInt 1) ⟨by omega, by omega⟩)) ?_
            rintro _ _ ⟨y80, rfl, rfl, ry80, ey80, fy80⟩
            show pj_X _ _ G73 172 [(8, .int y60), (7, .int y58), (6, .int (Int32.ofInt 1)), (0, .ref 171), (1, .int a), (2, .int b), (3, .int n), (4, .int k), (5, .int v5)] [.int y80, .int y74, .ref 171] _
            refine pj_X_of (fun r h => pj_R_to (G73, 173, [(8, .int y60), (7, .int y58), (6, .int (Int32.ofInt 1)), (0, .ref 171), (1, .int a), (2, .int b), (3, .int n), (4, .int k), (5, .int v5)], [.int (y74 + y80), .ref 171], 0, 0) 173 2 (fun _ => rfl) h) ?_
            obtain ⟨z81, hz81⟩ : ∃ z : Int32, z = y74 + y80 := ⟨_, rfl⟩
            refine pj_X_eqi hz81.symm ?_
            refine pj_X_of (fun r h => pj_T_pf iG73 rfl rfl rfl h) ?_
            show pj_X _ _ (pj_wv G73 171 55 (.int z81)) 176 [(8, .int y60), (7, .int y58), (6, .int (Int32.ofInt 1)), (0, .ref 171), (1, .int a), (2, .int b), (3, .int n), (4, .int k), (5, .int v5)] [] _
            obtain ⟨G82, hG82⟩ : ∃ H, H = pj_wv G73 171 55 (.int z81) := ⟨_, rfl⟩
            have iG82 : pj_Inv G82 := by rw [hG82]; exact pj_Inv_wi iG73 (ci := 12) rfl (fun q hq => by cases hq)
            have kG82 : pj_kpt kc_269 G0 G82 := by rw [hG82]; exact pj_kpt_v kG73 rfl
            rw [← hG82]
            refine pj_X_of (fun r h => pj_R_to (G82, 179, [(5, .int (v5 + Int32.ofInt 1)), (8, .int y60), (7, .int y58), (6, .int (Int32.ofInt 1)), (0, .ref 171), (1, .int a), (2, .int b), (3, .int n), (4, .int k)], [], 0, 0) 179 2 (fun _ => rfl) h) ?_
            obtain ⟨z83, hz83⟩ : ∃ z : Int32, z = v5 + Int32.ofInt 1 := ⟨_, rfl⟩
            rw [← hz83]
            have fz83_0 : z83.toInt = v5.toInt + (Int32.ofInt 1).toInt := by rw [hz83]; exact pj_addI (by have := pj_i32 v5; have := pj_i32 (Int32.ofInt 1); omega) (by have := pj_i32 v5; have := pj_i32 (Int32.ofInt 1); omega)
            refine pj_X_of (fun r h => pj_R_to (G82, 23, [(5, .int z83), (8, .int y60), (7, .int y58), (6, .int (Int32.ofInt 1)), (0, .ref 171), (1, .int a), (2, .int b), (3, .int n), (4, .int k)], [], 0, 0) 23 2 (fun _ => rfl) h) ?_
            exact pj_X_sub [(0, .ref 171), (1, .int a), (2, .int b), (3, .int n), (4, .int k), (5, .int z83)] (show List.Nodup [0, 1, 2, 3, 4, 5] by decide) ⟨rfl, rfl, rfl, rfl, rfl, rfl, trivial⟩ (ih G82 iG82 kG82 z83 ⟨by omega, by omega⟩ (by omega))
        | false =>
          have ub62 := pj_u0_eqF b62
          refine pj_X_of (fun r h => pj_R_ifF rfl b62 h) ?_
          refine pj_X_of (fun r h => pj_R_to (G, 88, [(8, .int y60), (7, .int y58), (6, .int (Int32.ofInt 1)), (0, .ref 171), (1, .int a), (2, .int b), (3, .int n), (4, .int k), (5, .int v5)], [.int (Int32.ofInt 1), .int y61, .ref 171], 0, 0) 88 3 (fun _ => rfl) h) ?_
          refine pj_X_ca (vs := [.int (Int32.ofInt 1)]) rfl (fun _ => rfl) ⟨Nat.le_of_ble_eq_true rfl, Nat.le_of_ble_eq_true rfl, rfl⟩ ⟨rfl, rfl⟩ (pj_Y_up (by decide) (ct_172x G hI (Int32.ofInt 1) ⟨by omega, by omega⟩)) ?_
          rintro _ _ ⟨y84, rfl, rfl, ry84, ey84, fy84⟩
          show pj_X _ _ G 91 [(8, .int y60), (7, .int y58), (6, .int (Int32.ofInt 1)), (0, .ref 171), (1, .int a), (2, .int b), (3, .int n), (4, .int k), (5, .int v5)] [.int y84, .int y61, .ref 171] _
          refine pj_X_of (fun r h => pj_R_to (G, 92, [(8, .int y60), (7, .int y58), (6, .int (Int32.ofInt 1)), (0, .ref 171), (1, .int a), (2, .int b), (3, .int n), (4, .int k), (5, .int v5)], [.int (y61 + y84), .ref 171], 0, 0) 92 2 (fun _ => rfl) h) ?_
          obtain ⟨z85, hz85⟩ : ∃ z : Int32, z = y61 + y84 := ⟨_, rfl⟩
          refine pj_X_eqi hz85.symm ?_
          refine pj_X_of (fun r h => pj_T_pf hI rfl rfl rfl h) ?_
          show pj_X _ _ (pj_wv G 171 52 (.int z85)) 95 [(8, .int y60), (7, .int y58), (6, .int (Int32.ofInt 1)), (0, .ref 171), (1, .int a), (2, .int b), (3, .int n), (4, .int k), (5, .int v5)] [] _
          obtain ⟨G86, hG86⟩ : ∃ H, H = pj_wv G 171 52 (.int z85) := ⟨_, rfl⟩
          have iG86 : pj_Inv G86 := by rw [hG86]; exact pj_Inv_wi hI (ci := 12) rfl (fun q hq => by cases hq)
          have kG86 : pj_kpt kc_269 G0 G86 := by rw [hG86]; exact pj_kpt_v hK rfl
          rw [← hG86]
          refine pj_X_of (fun r h => pj_R_to (G86, 97, [(8, .int y60), (7, .int y58), (6, .int (Int32.ofInt 1)), (0, .ref 171), (1, .int a), (2, .int b), (3, .int n), (4, .int k), (5, .int v5)], [.ref 171, .ref 171], 0, 0) 97 3 (fun _ => rfl) h) ?_
          refine pj_X_of (fun r h => pj_T_gi iG86 rfl rfl h) ?_
          show pj_X _ _ G86 100 [(8, .int y60), (7, .int y58), (6, .int (Int32.ofInt 1)), (0, .ref 171), (1, .int a), (2, .int b), (3, .int n), (4, .int k), (5, .int v5)] [.int (pj_fi G86 171 53), .ref 171] _
          obtain ⟨y87, hy87⟩ : ∃ z : Int32, z = pj_fi G86 171 53 := ⟨_, rfl⟩
          refine pj_X_eqi hy87.symm ?_
          have ey87 : (pj_fi G86 171 53).toInt = y87.toInt := by rw [hy87]
          refine pj_X_of (fun r h => pj_R_to (G86, 102, [(8, .int y60), (7, .int y58), (6, .int (Int32.ofInt 1)), (0, .ref 171), (1, .int a), (2, .int b), (3, .int n), (4, .int k), (5, .int v5)], [.int (Int32.ofInt 1), .int y87, .ref 171], 0, 0) 102 2 (fun _ => rfl) h) ?_
          refine pj_X_of (fun r h => pj_R_ifT 114 rfl rfl (pj_b0_neT (by omega)) h) ?_
          refine pj_X_of (fun r h => pj_R_to (G86, 115, [(8, .int y60), (7, .int y58), (6, .int (Int32.ofInt 1)), (0, .ref 171), (1, .int a), (2, .int b), (3, .int n), (4, .int k), (5, .int v5)], [.int (Int32.ofInt 0), .int y87, .ref 171], 0, 0) 115 2 (fun _ => rfl) h) ?_
          refine pj_X_ca (vs := [.int (Int32.ofInt 0)]) rfl (fun _ => rfl) ⟨Nat.le_of_ble_eq_true rfl, Nat.le_of_ble_eq_true rfl, rfl⟩ ⟨rfl, rfl⟩ (pj_Y_up (by decide) (ct_172x G86 iG86 (Int32.ofInt 0) ⟨by omega, by omega⟩)) ?_
          rintro _ _ ⟨y88, rfl, rfl, ry88, ey88, fy88⟩
          show pj_X _ _ G86 118 [(8, .int y60), (7, .int y58), (6, .int (Int32.ofInt 1)), (0, .ref 171), (1, .int a), (2, .int b), (3, .int n), (4, .int k), (5, .int v5)] [.int y88, .int y87, .ref 171] _
          refine pj_X_of (fun r h => pj_R_to (G86, 119, [(8, .int y60), (7, .int y58), (6, .int (Int32.ofInt 1)), (0, .ref 171), (1, .int a), (2, .int b), (3, .int n), (4, .int k), (5, .int v5)], [.int (y87 + y88), .ref 171], 0, 0) 119 2 (fun _ => rfl) h) ?_
          obtain ⟨z89, hz89⟩ : ∃ z : Int32, z = y87 + y88 := ⟨_, rfl⟩
          refine pj_X_eqi hz89.symm ?_
          refine pj_X_of (fun r h => pj_T_pf iG86 rfl rfl rfl h) ?_
          show pj_X _ _ (pj_wv G86 171 53 (.int z89)) 122 [(8, .int y60), (7, .int y58), (6, .int (Int32.ofInt 1)), (0, .ref 171), (1, .int a), (2, .int b), (3, .int n), (4, .int k), (5, .int v5)] [] _
          obtain ⟨G90, hG90⟩ : ∃ H, H = pj_wv G86 171 53 (.int z89) := ⟨_, rfl⟩
          have iG90 : pj_Inv G90 := by rw [hG90]; exact pj_Inv_wi iG86 (ci := 12) rfl (fun q hq => by cases hq)
          have kG90 : pj_kpt kc_269 G0 G90 := by rw [hG90]; exact pj_kpt_v kG86 rfl
          rw [← hG90]
          refine pj_X_of (fun r h => pj_R_to (G90, 124, [(8, .int y60), (7, .int y58), (6, .int (Int32.ofInt 1)), (0, .ref 171), (1, .int a), (2, .int b), (3, .int n), (4, .int k), (5, .int v5)], [.ref 171, .ref 171], 0, 0) 124 3 (fun _ => rfl) h) ?_
          refine pj_X_of (fun r h => pj_T_gi iG90 rfl rfl h) ?_
          show pj_X _ _ G90 127 [(8, .int y60), (7, .int y58), (6, .int (Int32.ofInt 1)), (0, .ref 171), (1, .int a), (2, .int b), (3, .int n), (4, .int k), (5, .int v5)] [.int (pj_fi G90 171 54), .ref 171] _
          obtain ⟨y91, hy91⟩ : ∃ z : Int32, z = pj_fi G90 171 54 := ⟨_, rfl⟩
          refine pj_X_eqi hy91.symm ?_
          have ey91 : (pj_fi G90 171 54).toInt = y91.toInt := by rw [hy91]
          refine pj_X_of (fun r h => pj_R_to (G90, 129, [(8, .int y60), (7, .int y58), (6, .int (Int32.ofInt 1)), (0, .ref 171), (1, .int a), (2, .int b), (3, .int n), (4, .int k), (5, .int v5)], [.int (Int32.ofInt 1), .int y91, .ref 171], 0, 0) 129 2 (fun _ => rfl) h) ?_
          refine pj_X_of (fun r h => pj_R_ifT 141 rfl rfl (pj_b0_neT (by omega)) h) ?_
          refine pj_X_of (fun r h => pj_R_to (G90, 142, [(8, .int y60), (7, .int y58), (6, .int (Int32.ofInt 1)), (0, .ref 171), (1, .int a), (2, .int b), (3, .int n), (4, .int k), (5, .int v5)], [.int (Int32.ofInt 0), .int y91, .ref 171], 0, 0) 142 2 (fun _ => rfl) h) ?_
          refine pj_X_ca (vs := [.int (Int32.ofInt 0)]) rfl (fun _ => rfl) ⟨Nat.le_of_ble_eq_true rfl, Nat.le_of_ble_eq_true rfl, rfl⟩ ⟨rfl, rfl⟩ (pj_Y_up (by decide) (ct_172x G90 iG90 (Int32.ofInt 0) ⟨by omega, by omega⟩)) ?_
          rintro _ _ ⟨y92, rfl, rfl, ry92, ey92, fy92⟩
          show pj_X _ _ G90 145 [(8, .int y60), (7, .int y58), (6, .int (Int32.ofInt 1)), (0, .ref 171), (1, .int a), (2, .int b), (3, .int n), (4, .int k), (5, .int v5)] [.int y92, .int y91, .ref 171] _
          refine pj_X_of (fun r h => pj_R_to (G90, 146, [(8, .int y60), (7, .int y58), (6, .int (Int32.ofInt 1)), (0, .ref 171), (1, .int a), (2, .int b), (3, .int n), (4, .int k), (5, .int v5)], [.int (y91 + y92), .ref 171], 0, 0) 146 2 (fun _ => rfl) h) ?_
          obtain ⟨z93, hz93⟩ : ∃ z : Int32, z = y91 + y92 := ⟨_, rfl⟩
          refine pj_X_eqi hz93.symm ?_
          refine pj_X_of (fun r h => pj_T_pf iG90 rfl rfl rfl h) ?_
          show pj_X _ _ (pj_wv G90 171 54 (.int z93)) 149 [(8, .int y60), (7, .int y58), (6, .int (Int32.ofInt 1)), (0, .ref 171), (1, .int a), (2, .int b), (3, .int n), (4, .int k), (5, .int v5)] [] _
          obtain ⟨G94, hG94⟩ : ∃ H, H = pj_wv G90 171 54 (.int z93) := ⟨_, rfl⟩
          have iG94 : pj_Inv G94 := by rw [hG94]; exact pj_Inv_wi iG90 (ci := 12) rfl (fun q hq => by cases hq)
          have kG94 : pj_kpt kc_269 G0 G94 := by rw [hG94]; exact pj_kpt_v kG90 rfl
          rw [← hG94]
          refine pj_X_of (fun r h => pj_R_to (G94, 151, [(8, .int y60), (7, .int y58), (6, .int (Int32.ofInt 1)), (0, .ref 171), (1, .int a), (2, .int b), (3, .int n), (4, .int k), (5, .int v5)], [.ref 171, .ref 171], 0, 0) 151 3 (fun _ => rfl) h) ?_
          refine pj_X_of (fun r h => pj_T_gi iG94 rfl rfl h) ?_
          show pj_X _ _ G94 154 [(8, .int y60), (7, .int y58), (6, .int (Int32.ofInt 1)), (0, .ref 171), (1, .int a), (2, .int b), (3, .int n), (4, .int k), (5, .int v5)] [.int (pj_fi G94 171 55), .ref 171] _
          obtain ⟨y95, hy95⟩ : ∃ z : Int32, z = pj_fi G94 171 55 := ⟨_, rfl⟩
          refine pj_X_eqi hy95.symm ?_
          have ey95 : (pj_fi G94 171 55).toInt = y95.toInt := by rw [hy95]
          refine pj_X_of (fun r h => pj_R_to (G94, 156, [(8, .int y60), (7, .int y58), (6, .int (Int32.ofInt 1)), (0, .ref 171), (1, .int a), (2, .int b), (3, .int n), (4, .int k), (5, .int v5)], [.int (Int32.ofInt 1), .int y95, .ref 171], 0, 0) 156 2 (fun _ => rfl) h) ?_
          refine pj_X_of (fun r h => pj_R_ifF rfl (pj_b0_eqF (by omega)) h) ?_
          refine pj_X_of (fun r h => pj_R_to (G94, 161, [(8, .int y60), (7, .int y58), (6, .int (Int32.ofInt 1)), (0, .ref 171), (1, .int a), (2, .int b), (3, .int n), (4, .int k), (5, .int v5)], [.int y60, .int y95, .ref 171], 0, 0) 161 2 (fun _ => rfl) h) ?_
          cases b96 : pj_c1 .eq y60 0 with
          | true =>
            have ub96 := pj_u0_eqT b96
            refine pj_X_of (fun r h => pj_R_ifT 168 rfl rfl b96 h) ?_
            refine pj_X_of (fun r h => pj_R_to (G94, 169, [(8, .int y60), (7, .int y58), (6, .int (Int32.ofInt 1)), (0, .ref 171), (1, .int a), (2, .int b), (3, .int n), (4, .int k), (5, .int v5)], [.int (Int32.ofInt 0), .int y95, .ref 171], 0, 0) 169 2 (fun _ => rfl) h) ?_
            refine pj_X_ca (vs := [.int (Int32.ofInt 0)]) rfl (fun _ => rfl) ⟨Nat.le_of_ble_eq_true rfl, Nat.le_of_ble_eq_true rfl, rfl⟩ ⟨rfl, rfl⟩ (pj_Y_up (by decide) (ct_172x G94 iG94 (Int32.ofInt 0) ⟨by omega, by omega⟩)) ?_
            rintro _ _ ⟨y97, rfl, rfl, ry97, ey97, fy97⟩
            show pj_X _ _ G94 172 [(8, .int y60), (7, .int y58), (6, .int (Int32.ofInt 1)), (0, .ref 171), (1, .int a), (2, .int b), (3, .int n), (4, .int k), (5, .int v5)] [.int y97, .int y95, .ref 171] _
            refine pj_X_of (fun r h => pj_R_to (G94, 173, [(8, .int y60), (7, .int y58), (6, .int (Int32.ofInt 1)), (0, .ref 171), (1, .int a), (2, .int b), (3, .int n), (4, .int k), (5, .int v5)], [.int (y95 + y97), .ref 171], 0, 0) 173 2 (fun _ => rfl) h) ?_
            obtain ⟨z98, hz98⟩ : ∃ z : Int32, z = y95 + y97 := ⟨_, rfl⟩
            refine pj_X_eqi hz98.symm ?_
            refine pj_X_of (fun r h => pj_T_pf iG94 rfl rfl rfl h) ?_
            show pj_X _ _ (pj_wv G94 171 55 (.int z98)) 176 [(8, .int y60), (7, .int y58), (6, .int (Int32.ofInt 1)), (0, .ref 171), (1, .int a), (2, .int b), (3, .int n), (4, .int k), (5, .int v5)] [] _
            obtain ⟨G99, hG99⟩ : ∃ H, H = pj_wv G94 171 55 (.int z98) := ⟨_, rfl⟩
            have iG99 : pj_Inv G99 := by rw [hG99]; exact pj_Inv_wi iG94 (ci := 12) rfl (fun q hq => by cases hq)
            have kG99 : pj_kpt kc_269 G0 G99 := by rw [hG99]; exact pj_kpt_v kG94 rfl
            rw [← hG99]
            refine pj_X_of (fun r h => pj_R_to (G99, 179, [(5, .int (v5 + Int32.ofInt 1)), (8, .int y60), (7, .int y58), (6, .int (Int32.ofInt 1)), (0, .ref 171), (1, .int a), (2, .int b), (3, .int n), (4, .int k)], [], 0, 0) 179 2 (fun _ => rfl) h) ?_
            obtain ⟨z100, hz100⟩ : ∃ z : Int32, z = v5 + Int32.ofInt 1 := ⟨_, rfl⟩
            rw [← hz100]
            have fz100_0 : z100.toInt = v5.toInt + (Int32.ofInt 1).toInt := by rw [hz100]; exact pj_addI (by have := pj_i32 v5; have := pj_i32 (Int32.ofInt 1); omega) (by have := pj_i32 v5; have := pj_i32 (Int32.ofInt 1); omega)
            refine pj_X_of (fun r h => pj_R_to (G99, 23, [(5, .int z100), (8, .int y60), (7, .int y58), (6, .int (Int32.ofInt 1)), (0, .ref 171), (1, .int a), (2, .int b), (3, .int n), (4, .int k)], [], 0, 0) 23 2 (fun _ => rfl) h) ?_
            exact pj_X_sub [(0, .ref 171), (1, .int a), (2, .int b), (3, .int n), (4, .int k), (5, .int z100)] (show List.Nodup [0, 1, 2, 3, 4, 5] by decide) ⟨rfl, rfl, rfl, rfl, rfl, rfl, trivial⟩ (ih G99 iG99 kG99 z100 ⟨by omega, by omega⟩ (by omega))
          | false =>
            have ub96 := pj_u0_eqF b96
            refine pj_X_of (fun r h => pj_R_ifF rfl b96 h) ?_
            refine pj_X_of (fun r h => pj_R_to (G94, 169, [(8, .int y60), (7, .int y58), (6, .int (Int32.ofInt 1)), (0, .ref 171), (1, .int a), (2, .int b), (3, .int n), (4, .int k), (5, .int v5)], [.int (Int32.ofInt 1), .int y95, .ref 171], 0, 0) 169 3 (fun _ => rfl) h) ?_
            refine pj_X_ca (vs := [.int (Int32.ofInt 1)]) rfl (fun _ => rfl) ⟨Nat.le_of_ble_eq_true rfl, Nat.le_of_ble_eq_true rfl, rfl⟩ ⟨rfl, rfl⟩ (pj_Y_up (by decide) (ct_172x G94 iG94 (Int32.ofInt 1) ⟨by omega, by omega⟩)) ?_
            rintro _ _ ⟨y101, rfl, rfl, ry101, ey101, fy101⟩
            show pj_X _ _ G94 172 [(8, .int y60), (7, .int y58), (6, .int (Int32.ofInt 1)), (0, .ref 171), (1, .int a), (2, .int b), (3, .int n), (4, .int k), (5, .int v5)] [.int y101, .int y95, .ref 171] _
            refine pj_X_of (fun r h => pj_R_to (G94, 173, [(8, .int y60), (7, .int y58), (6, .int (Int32.ofInt 1)), (0, .ref 171), (1, .int a), (2, .int b), (3, .int n), (4, .int k), (5, .int v5)], [.int (y95 + y101), .ref 171], 0, 0) 173 2 (fun _ => rfl) h) ?_
            obtain ⟨z102, hz102⟩ : ∃ z : Int32, z = y95 + y101 := ⟨_, rfl⟩
            refine pj_X_eqi hz102.symm ?_
            refine pj_X_of (fun r h => pj_T_pf iG94 rfl rfl rfl h) ?_
            show pj_X _ _ (pj_wv G94 171 55 (.int z102)) 176 [(8, .int y60), (7, .int y58), (6, .int (Int32.ofInt 1)), (0, .ref 171), (1, .int a), (2, .int b), (3, .int n), (4, .int k), (5, .int v5)] [] _
            obtain ⟨G103, hG103⟩ : ∃ H, H = pj_wv G94 171 55 (.int z102) := ⟨_, rfl⟩
            have iG103 : pj_Inv G103 := by rw [hG103]; exact pj_Inv_wi iG94 (ci := 12) rfl (fun q hq => by cases hq)
            have kG103 : pj_kpt kc_269 G0 G103 := by rw [hG103]; exact pj_kpt_v kG94 rfl
            rw [← hG103]
            refine pj_X_of (fun r h => pj_R_to (G103, 179, [(5, .int (v5 + Int32.ofInt 1)), (8, .int y60), (7, .int y58), (6, .int (Int32.ofInt 1)), (0, .ref 171), (1, .int a), (2, .int b), (3, .int n), (4, .int k)], [], 0, 0) 179 2 (fun _ => rfl) h) ?_
            obtain ⟨z104, hz104⟩ : ∃ z : Int32, z = v5 + Int32.ofInt 1 := ⟨_, rfl⟩
            rw [← hz104]
            have fz104_0 : z104.toInt = v5.toInt + (Int32.ofInt 1).toInt := by rw [hz104]; exact pj_addI (by have := pj_i32 v5; have := pj_i32 (Int32.ofInt 1); omega) (by have := pj_i32 v5; have := pj_i32 (Int32.ofInt 1); omega)
            refine pj_X_of (fun r h => pj_R_to (G103, 23, [(5, .int z104), (8, .int y60), (7, .int y58), (6, .int (Int32.ofInt 1)), (0, .ref 171), (1, .int a), (2, .int b), (3, .int n), (4, .int k)], [], 0, 0) 23 2 (fun _ => rfl) h) ?_
            exact pj_X_sub [(0, .ref 171), (1, .int a), (2, .int b), (3, .int n), (4, .int k), (5, .int z104)] (show List.Nodup [0, 1, 2, 3, 4, 5] by decide) ⟨rfl, rfl, rfl, rfl, rfl, rfl, trivial⟩ (ih G103 iG103 kG103 z104 ⟨by omega, by omega⟩ (by omega))
theorem ct_269 (G0 : pj_G) (hI : pj_Inv G0) (a : Int32) (b : Int32) (n : Int32) (k : Int32) (rn : (1 : Int) ≤ n.toInt ∧ n.toInt ≤ 48) (rk : (1 : Int) ≤ k.toInt ∧ k.toInt ≤ 48) : pj_Y 2 269 [.ref 171, .int a, .int b, .int n, .int k] G0 (fun v G' => v = none ∧ pj_Inv G' ∧ pj_kpt kc_269 G0 G') := by
  have c0_ : ((Int8.ofInt 24).toInt32).toInt = 24 := by decide
  have c1_ : (Int32.ofInt 0).toInt = 0 := by decide
  have c2_ : (Int32.ofInt 1).toInt = 1 := by decide
  have c3_ : (Int32.ofInt 2).toInt = 2 := by decide
  refine pj_Y_X (M := pj_m269) rfl rfl (Nat.le_of_ble_eq_true rfl) ?_
  have hK : pj_kpt kc_269 G0 G0 := pj_kpt_r _ _
  show pj_X _ _ G0 0 [(0, .ref 171), (1, .int a), (2, .int b), (3, .int n), (4, .int k)] [] _
  refine pj_X_of (fun r h => pj_R_to (G0, 2, [(0, .ref 171), (1, .int a), (2, .int b), (3, .int n), (4, .int k)], [.int (Int32.ofInt 0), .ref 171], 0, 0) 2 3 (fun _ => rfl) h) ?_
  refine pj_X_of (fun r h => pj_T_pf hI rfl rfl rfl h) ?_
  show pj_X _ _ (pj_wv G0 171 52 (.int (Int32.ofInt 0))) 5 [(0, .ref 171), (1, .int a), (2, .int b), (3, .int n), (4, .int k)] [] _
  obtain ⟨G105, hG105⟩ : ∃ H, H = pj_wv G0 171 52 (.int (Int32.ofInt 0)) := ⟨_, rfl⟩
  have iG105 : pj_Inv G105 := by rw [hG105]; exact pj_Inv_wi hI (ci := 12) rfl (fun q hq => by cases hq)
  have kG105 : pj_kpt kc_269 G0 G105 := by rw [hG105]; exact pj_kpt_v hK rfl
  rw [← hG105]
  refine pj_X_of (fun r h => pj_R_to (G105, 7, [(0, .ref 171), (1, .int a), (2, .int b), (3, .int n), (4, .int k)], [.int (Int32.ofInt 0), .ref 171], 0, 0) 7 3 (fun _ => rfl) h) ?_
  refine pj_X_of (fun r h => pj_T_pf iG105 rfl rfl rfl h) ?_
  show pj_X _ _ (pj_wv G105 171 53 (.int (Int32.ofInt 0))) 10 [(0, .ref 171), (1, .int a), (2, .int b), (3, .int n), (4, .int k)] [] _
  obtain ⟨G106, hG106⟩ : ∃ H, H = pj_wv G105 171 53 (.int (Int32.ofInt 0)) := ⟨_, rfl⟩
  have iG106 : pj_Inv G106 := by rw [hG106]; exact pj_Inv_wi iG105 (ci := 12) rfl (fun q hq => by cases hq)
  have kG106 : pj_kpt kc_269 G0 G106 := by rw [hG106]; exact pj_kpt_v kG105 rfl
  rw [← hG106]
  refine pj_X_of (fun r h => pj_R_to (G106, 12, [(0, .ref 171), (1, .int a), (2, .int b), (3, .int n), (4, .int k)], [.int (Int32.ofInt 0), .ref 171], 0, 0) 12 3 (fun _ => rfl) h) ?_
  refine pj_X_of (fun r h => pj_T_pf iG106 rfl rfl rfl h) ?_
  show pj_X _ _ (pj_wv G106 171 54 (.int (Int32.ofInt 0))) 15 [(0, .ref 171), (1, .int a), (2, .int b), (3, .int n), (4, .int k)] [] _
  obtain ⟨G107, hG107⟩ : ∃ H, H = pj_wv G106 171 54 (.int (Int32.ofInt 0)) := ⟨_, rfl⟩
  have iG107 : pj_Inv G107 := by rw [hG107]; exact pj_Inv_wi iG106 (ci := 12) rfl (fun q hq => by cases hq)
  have kG107 : pj_kpt kc_269 G0 G107 := by rw [hG107]; exact pj_kpt_v kG106 rfl
  rw [← hG107]
  refine pj_X_of (fun r h => pj_R_to (G107, 17, [(0, .ref 171), (1, .int a), (2, .int b), (3, .int n), (4, .int k)], [.int (Int32.ofInt 0), .ref 171], 0, 0) 17 3 (fun _ => rfl) h) ?_
  refine pj_X_of (fun r h => pj_T_pf iG107 rfl rfl rfl h) ?_
  show pj_X _ _ (pj_wv G107 171 55 (.int (Int32.ofInt 0))) 20 [(0, .ref 171), (1, .int a), (2, .int b), (3, .int n), (4, .int k)] [] _
  obtain ⟨G108, hG108⟩ : ∃ H, H = pj_wv G107 171 55 (.int (Int32.ofInt 0)) := ⟨_, rfl⟩
  have iG108 : pj_Inv G108 := by rw [hG108]; exact pj_Inv_wi iG107 (ci := 12) rfl (fun q hq => by cases hq)
  have kG108 : pj_kpt kc_269 G0 G108 := by rw [hG108]; exact pj_kpt_v kG107 rfl
  rw [← hG108]
  refine pj_X_of (fun r h => pj_R_to (G108, 23, [(5, .int (Int32.ofInt 0)), (0, .ref 171), (1, .int a), (2, .int b), (3, .int n), (4, .int k)], [], 0, 0) 23 3 (fun _ => rfl) h) ?_
  exact pj_X_sub [(0, .ref 171), (1, .int a), (2, .int b), (3, .int n), (4, .int k), (5, .int (Int32.ofInt 0))] (show List.Nodup [0, 1, 2, 3, 4, 5] by decide) ⟨rfl, rfl, rfl, rfl, rfl, rfl, trivial⟩ ((lp_ct_269 G0 hI a b n k rn rk 49) G108 iG108 kG108 (Int32.ofInt 0) ⟨by omega, by omega⟩ (by omega))
theorem ct_270 (G0 : pj_G) (hI : pj_Inv G0) (a : Int32) (b : Int32) (n : Int32) : pj_Y 2 270 [.ref 171, .int a, .int b, .int n] G0 (fun v G' => ∃ y : Int32, v = some (.int y) ∧ G0 = G' ∧ ((0 : Int) ≤ y.toInt ∧ y.toInt ≤ 1) ∧ (1 ≤ y.toInt → 1 ≤ n.toInt ∧ n.toInt ≤ 48)) := by
  have c0_ : (Int32.ofInt 0).toInt = 0 := by decide
  have c1_ : (Int32.ofInt 1).toInt = 1 := by decide
  have c2_ : (Int32.ofInt 16777215).toInt = 16777215 := by decide
  refine pj_Y_X (M := pj_m270) rfl rfl (Nat.le_of_ble_eq_true rfl) ?_
  have hK : pj_kpt ([], [], []) G0 G0 := pj_kpt_r _ _
  show pj_X _ _ G0 0 [(0, .ref 171), (1, .int a), (2, .int b), (3, .int n)] [] _
  refine pj_X_of (fun r h => pj_R_to (G0, 11, [(4, .int (Int32.ofInt 16777215)), (0, .ref 171), (1, .int a), (2, .int b), (3, .int n)], [.long ((Int32.ofInt 16777215).toInt64), .long (Int64.ofNat 0), .long a.toInt64], 0, 0) 11 8 (fun _ => rfl) h) ?_
  have lc1 : (a.toInt64).toInt = a.toInt := Int32.toInt_toInt64 _
  have lc2 : (Int64.ofNat 0).toInt = 0 := by decide
  have lc3 : ((Int32.ofInt 16777215).toInt64).toInt = (Int32.ofInt 16777215).toInt := Int32.toInt_toInt64 _
  refine pj_X_ca (vs := [.long a.toInt64, .long (Int64.ofNat 0), .long ((Int32.ofInt 16777215).toInt64)]) rfl (fun _ => rfl) ⟨Nat.le_of_ble_eq_true rfl, Nat.le_of_ble_eq_true rfl, rfl⟩ ⟨rfl, rfl⟩ (pj_Y_up (by decide) (ct_170x G0 hI a.toInt64 (Int64.ofNat 0) ((Int32.ofInt 16777215).toInt64))) ?_
  rintro _ _ ⟨y4, rfl, rfl, ry4, ey4, fy4⟩
  show pj_X _ _ G0 14 [(4, .int (Int32.ofInt 16777215)), (0, .ref 171), (1, .int a), (2, .int b), (3, .int n)] [.int y4] _
  cases b5 : pj_c1 .eq y4 0 with
  | true =>
    have ub5 := pj_u0_eqT b5
    refine pj_X_of (fun r h => pj_R_ifT 45 rfl rfl b5 h) ?_
    refine pj_X_of (fun r h => pj_R_to (G0, 46, [(4, .int (Int32.ofInt 16777215)), (0, .ref 171), (1, .int a), (2, .int b), (3, .int n)], [.int (Int32.ofInt 0)], 0, 0) 46 2 (fun _ => rfl) h) ?_
    exact pj_X_rt rfl rfl ⟨_, rfl, rfl, ⟨by omega, by omega⟩, by omega⟩
  | false =>
    have ub5 := pj_u0_eqF b5
    refine pj_X_of (fun r h => pj_R_ifF rfl b5 h) ?_
    refine pj_X_of (fun r h => pj_R_to (G0, 23, [(4, .int (Int32.ofInt 16777215)), (0, .ref 171), (1, .int a), (2, .int b), (3, .int n)], [.long ((Int32.ofInt 16777215).toInt64), .long (Int64.ofNat 0), .long b.toInt64], 0, 0) 23 6 (fun _ => rfl) h) ?_
    have lc6 : (b.toInt64).toInt = b.toInt := Int32.toInt_toInt64 _
    have lc7 : (Int64.ofNat 0).toInt = 0 := by decide
    have lc8 : ((Int32.ofInt 16777215).toInt64).toInt = (Int32.ofInt 16777215).toInt := Int32.toInt_toInt64 _
    refine pj_X_ca (vs := [.long b.toInt64, .long (Int64.ofNat 0), .long ((Int32.ofInt 16777215).toInt64)]) rfl (fun _ => rfl) ⟨Nat.le_of_ble_eq_true rfl, Nat.le_of_ble_eq_true rfl, rfl⟩ ⟨rfl, rfl⟩ (pj_Y_up (by decide) (ct_170x G0 hI b.toInt64 (Int64.ofNat 0) ((Int32.ofInt 16777215).toInt64))) ?_
    rintro _ _ ⟨y9, rfl, rfl, ry9, ey9, fy9⟩
    show pj_X _ _ G0 26 [(4, .int (Int32.ofInt 16777215)), (0, .ref 171), (1, .int a), (2, .int b), (3, .int n)] [.int y9] _
    cases b10 : pj_c1 .eq y9 0 with
    | true =>
      have ub10 := pj_u0_eqT b10
      refine pj_X_of (fun r h => pj_R_ifT 45 rfl rfl b10 h) ?_
      refine pj_X_of (fun r h => pj_R_to (G0, 46, [(4, .int (Int32.ofInt 16777215)), (0, .ref 171), (1, .int a), (2, .int b), (3, .int n)], [.int (Int32.ofInt 0)], 0, 0) 46 2 (fun _ => rfl) h) ?_
      exact pj_X_rt rfl rfl ⟨_, rfl, rfl, ⟨by omega, by omega⟩, by omega⟩
    | false =>
      have ub10 := pj_u0_eqF b10
      refine pj_X_of (fun r h => pj_R_ifF rfl b10 h) ?_
      refine pj_X_of (fun r h => pj_R_to (G0, 35, [(4, .int (Int32.ofInt 16777215)), (0, .ref 171), (1, .int a), (2, .int b), (3, .int n)], [.long (Int64.ofInt 48), .long (Int64.ofNat 1), .long n.toInt64], 0, 0) 35 5 (fun _ => rfl) h) ?_
      have lc11 : (n.toInt64).toInt = n.toInt := Int32.toInt_toInt64 _
      have lc12 : (Int64.ofNat 1).toInt = 1 := by decide
      have lc13 : (Int64.ofInt 48).toInt = 48 := by decide
      refine pj_X_ca (vs := [.long n.toInt64, .long (Int64.ofNat 1), .long (Int64.ofInt 48)]) rfl (fun _ => rfl) ⟨Nat.le_of_ble_eq_true rfl, Nat.le_of_ble_eq_true rfl, rfl⟩ ⟨rfl, rfl⟩ (pj_Y_up (by decide) (ct_170x G0 hI n.toInt64 (Int64.ofNat 1) (Int64.ofInt 48))) ?_
      rintro _ _ ⟨y14, rfl, rfl, ry14, ey14, fy14⟩
      show pj_X _ _ G0 38 [(4, .int (Int32.ofInt 16777215)), (0, .ref 171), (1, .int a), (2, .int b), (3, .int n)] [.int y14] _
      cases b15 : pj_c1 .eq y14 0 with
      | true =>
        have ub15 := pj_u0_eqT b15
        refine pj_X_of (fun r h => pj_R_ifT 45 rfl rfl b15 h) ?_
        refine pj_X_of (fun r h => pj_R_to (G0, 46, [(4, .int (Int32.ofInt 16777215)), (0, .ref 171), (1, .int a), (2, .int b), (3, .int n)], [.int (Int32.ofInt 0)], 0, 0) 46 2 (fun _ => rfl) h) ?_
        exact pj_X_rt rfl rfl ⟨_, rfl, rfl, ⟨by omega, by omega⟩, by omega⟩
      | false =>
        have ub15 := pj_u0_eqF b15
        refine pj_X_of (fun r h => pj_R_ifF rfl b15 h) ?_
        refine pj_X_of (fun r h => pj_R_to (G0, 46, [(4, .int (Int32.ofInt 16777215)), (0, .ref 171), (1, .int a), (2, .int b), (3, .int n)], [.int (Int32.ofInt 1)], 0, 0) 46 3 (fun _ => rfl) h) ?_
        exact pj_X_rt rfl rfl ⟨_, rfl, rfl, ⟨by omega, by omega⟩, by omega⟩
def kc_271 : pj_KT := ([(171, 0), (171, 1), (171, 52), (171, 53), (171, 54), (171, 55)], [171, 172], [])
theorem ct_271 (G0 : pj_G) (hI : pj_Inv G0) (a : Int32) (b : Int32) (n : Int32) (k : Int32) : pj_Y 3 271 [.ref 171, .int a, .int b, .int n, .int k] G0 (fun v G' => ∃ y : Int32, v = some (.int y) ∧ pj_Inv G' ∧ pj_kpt kc_271 G0 G' ∧ ((-2147483648 : Int) ≤ y.toInt ∧ y.toInt ≤ 2147483647)) := by
  have c0_ : (Int32.ofInt (-1)).toInt = -1 := by decide
  have c1_ : (Int32.ofInt 0).toInt = 0 := by decide
  refine pj_Y_X (M := pj_m271) rfl rfl (Nat.le_of_ble_eq_true rfl) ?_
  have hK : pj_kpt kc_271 G0 G0 := pj_kpt_r _ _
  show pj_X _ _ G0 0 [(0, .ref 171), (1, .int a), (2, .int b), (3, .int n), (4, .int k)] [] _
  obtain ⟨y1, hy1⟩ : ∃ z : Int32, z = pj_fi G0 171 1 := ⟨_, rfl⟩
  have ey1 : (pj_fi G0 171 1).toInt = y1.toInt := by rw [hy1]
  have ry1 : (0 : Int) ≤ y1.toInt ∧ y1.toInt ≤ 24 := by rw [hy1]; exact hI.2.1 171 1 (0, 24) rfl
  refine pj_X_of (fun r h => pj_R_to (G0, 2, [(0, .ref 171), (1, .int a), (2, .int b), (3, .int n), (4, .int k)], [.int (Int32.ofInt 0), .ref 171], 0, 0) 2 3 (fun _ => rfl) h) ?_
  refine pj_X_of (fun r h => pj_T_pf hI rfl rfl rfl h) ?_
  show pj_X _ _ (pj_wv G0 171 0 (.int (Int32.ofInt 0))) 5 [(0, .ref 171), (1, .int a), (2, .int b), (3, .int n), (4, .int k)] [] _
  obtain ⟨G2, hG2⟩ : ∃ H, H = pj_wv G0 171 0 (.int (Int32.ofInt 0)) := ⟨_, rfl⟩
  have iG2 : pj_Inv G2 := by rw [hG2]; exact pj_Inv_wi hI (ci := 12) rfl (fun q hq => by cases hq)
  have kG2 : pj_kpt kc_271 G0 G2 := by rw [hG2]; exact pj_kpt_v hK rfl
  rw [← hG2]
  refine pj_X_of (fun r h => pj_R_to (G2, 9, [(0, .ref 171), (1, .int a), (2, .int b), (3, .int n), (4, .int k)], [.int n, .int b, .int a, .ref 171], 0, 0) 9 5 (fun _ => rfl) h) ?_
  have q3 : (pj_fi G2 171 1).toInt = y1.toInt := by rw [show pj_fi G2 171 1 = y1 from by rw [hG2, pj_fi_wv_ne _ _ _ _ _ _ (by decide)]; exact hy1.symm]
  refine pj_X_ca (vs := [.ref 171, .int a, .int b, .int n]) rfl (fun _ => rfl) ⟨Nat.le_of_ble_eq_true rfl, Nat.le_of_ble_eq_true rfl, pj_T_rcv iG2 rfl⟩ ⟨rfl, rfl⟩ (pj_Y_up (by decide) (ct_270 G2 iG2 a b n)) ?_
  rintro _ _ ⟨y4, rfl, rfl, ry4, ey4⟩
  show pj_X _ _ G2 12 [(0, .ref 171), (1, .int a), (2, .int b), (3, .int n), (4, .int k)] [.int y4] _
  cases b5 : pj_c1 .eq y4 0 with
  | true =>
    have ub5 := pj_u0_eqT b5
    refine pj_X_of (fun r h => pj_R_ifT 28 rfl rfl b5 h) ?_
    refine pj_X_of (fun r h => pj_R_to (G2, 29, [(0, .ref 171), (1, .int a), (2, .int b), (3, .int n), (4, .int k)], [.int (Int32.ofInt (-1))], 0, 0) 29 2 (fun _ => rfl) h) ?_
    have q6 : (pj_fi G2 171 1).toInt = y1.toInt := by rw [show pj_fi G2 171 1 = y1 from by rw [hG2, pj_fi_wv_ne _ _ _ _ _ _ (by decide)]; exact hy1.symm]
    exact pj_X_rt rfl rfl ⟨_, rfl, iG2, kG2, pj_i32 _⟩
  | false =>
    have ub5 := pj_u0_eqF b5
    refine pj_X_of (fun r h => pj_R_ifF rfl b5 h) ?_
    refine pj_X_of (fun r h => pj_R_to (G2, 22, [(0, .ref 171), (1, .int a), (2, .int b), (3, .int n), (4, .int k)], [.long (Int64.ofInt 48), .long (Int64.ofNat 1), .long k.toInt64], 0, 0) 22 5 (fun _ => rfl) h) ?_
    have q7 : (pj_fi G2 171 1).toInt = y1.toInt := by rw [show pj_fi G2 171 1 = y1 from by rw [hG2, pj_fi_wv_ne _ _ _ _ _ _ (by decide)]; exact hy1.symm]
    have lc8 : (k.toInt64).toInt = k.toInt := Int32.toInt_toInt64 _
    have lc9 : (Int64.ofNat 1).toInt = 1 := by decide
    have lc10 : (Int64.ofInt 48).toInt = 48 := by decide
    refine pj_X_ca (vs := [.long k.toInt64, .long (Int64.ofNat 1), .long (Int64.ofInt 48)]) rfl (fun _ => rfl) ⟨Nat.le_of_ble_eq_true rfl, Nat.le_of_ble_eq_true rfl, rfl⟩ ⟨rfl, rfl⟩ (pj_Y_up (by decide) (ct_170x G2 iG2 k.toInt64 (Int64.ofNat 1) (Int64.ofInt 48))) ?_
    rintro _ _ ⟨y11, rfl, rfl, ry11, ey11, fy11⟩
    show pj_X _ _ G2 25 [(0, .ref 171), (1, .int a), (2, .int b), (3, .int n), (4, .int k)] [.int y11] _
    cases b12 : pj_c1 .ne y11 0 with
    | true =>
      have ub12 := pj_u0_neT b12
      refine pj_X_of (fun r h => pj_R_ifT 30 rfl rfl b12 h) ?_
      refine pj_X_of (fun r h => pj_R_to (G2, 36, [(0, .ref 171), (1, .int a), (2, .int b), (3, .int n), (4, .int k)], [.int k, .int n, .int b, .int a, .ref 171], 0, 0) 36 6 (fun _ => rfl) h) ?_
      have q13 : (pj_fi G2 171 1).toInt = y1.toInt := by rw [show pj_fi G2 171 1 = y1 from by rw [hG2, pj_fi_wv_ne _ _ _ _ _ _ (by decide)]; exact hy1.symm]
      refine pj_X_ca (vs := [.ref 171, .int a, .int b, .int n, .int k]) rfl (fun _ => rfl) ⟨Nat.le_of_ble_eq_true rfl, Nat.le_of_ble_eq_true rfl, pj_T_rcv iG2 rfl⟩ ⟨rfl, rfl⟩ (pj_Y_up (by decide) (ct_269 G2 iG2 a b n k ⟨by omega, by omega⟩ ⟨by omega, by omega⟩)) ?_
      rintro _ G15 ⟨rfl, iG15, jG15⟩
      have kG15 : pj_kpt kc_271 G0 G15 := pj_kpt_t kG2 (pj_kpt_s jG15 rfl)
      have q16 : (pj_fi G15 171 1).toInt = (pj_fi G2 171 1).toInt := by rw [jG15.1 (171, 1) (by decide)]
      obtain ⟨y17, hy17⟩ : ∃ z : Int32, z = pj_fi G15 171 1 := ⟨_, rfl⟩
      have ey17 : (pj_fi G15 171 1).toInt = y17.toInt := by rw [hy17]
      have ry17 : (0 : Int) ≤ y17.toInt ∧ y17.toInt ≤ 24 := by rw [hy17]; exact iG15.2.1 171 1 (0, 24) rfl
      show pj_X _ _ G15 39 [(0, .ref 171), (1, .int a), (2, .int b), (3, .int n), (4, .int k)] [] _
      refine pj_X_of (fun r h => pj_R_to (G15, 41, [(0, .ref 171), (1, .int a), (2, .int b), (3, .int n), (4, .int k)], [.int (Int32.ofInt 0), .ref 171], 0, 0) 41 3 (fun _ => rfl) h) ?_
      refine pj_X_of (fun r h => pj_T_pf iG15 rfl rfl rfl h) ?_
      show pj_X _ _ (pj_wv G15 171 1 (.int (Int32.ofInt 0))) 44 [(0, .ref 171), (1, .int a), (2, .int b), (3, .int n), (4, .int k)] [] _
      obtain ⟨G18, hG18⟩ : ∃ H, H = pj_wv G15 171 1 (.int (Int32.ofInt 0)) := ⟨_, rfl⟩
      have iG18 : pj_Inv G18 := by rw [hG18]; exact pj_Inv_wi iG15 (ci := 12) rfl (fun q hq => by cases hq; exact ⟨by show (0 : Int) ≤ _; omega, by show _ ≤ (24 : Int); omega⟩)
      have kG18 : pj_kpt kc_271 G0 G18 := by rw [hG18]; exact pj_kpt_v kG15 rfl
      rw [← hG18]
      refine pj_X_of (fun r h => pj_R_to (G18, 46, [(0, .ref 171), (1, .int a), (2, .int b), (3, .int n), (4, .int k)], [.ref 171, .ref 171], 0, 0) 46 3 (fun _ => rfl) h) ?_
      refine pj_X_of (fun r h => pj_T_gi iG18 rfl rfl h) ?_
      show pj_X _ _ G18 49 [(0, .ref 171), (1, .int a), (2, .int b), (3, .int n), (4, .int k)] [.int (pj_fi G18 171 54), .ref 171] _
      obtain ⟨y19, hy19⟩ : ∃ z : Int32, z = pj_fi G18 171 54 := ⟨_, rfl⟩
      refine pj_X_eqi hy19.symm ?_
      have ey19 : (pj_fi G18 171 54).toInt = y19.toInt := by rw [hy19]
      refine pj_X_of (fun r h => pj_R_to (G18, 50, [(0, .ref 171), (1, .int a), (2, .int b), (3, .int n), (4, .int k)], [.long y19.toInt64, .ref 171], 0, 0) 50 2 (fun _ => rfl) h) ?_
      have q20 : (pj_fi G18 171 1).toInt = (Int32.ofInt 0).toInt := by rw [show pj_fi G18 171 1 = Int32.ofInt 0 from by rw [hG18]; exact pj_fi_wi iG15.1 (ci := 12) rfl _]
      have lc21 : (y19.toInt64).toInt = y19.toInt := Int32.toInt_toInt64 _
      refine pj_X_ca (vs := [.ref 171, .long y19.toInt64]) rfl (fun _ => rfl) ⟨Nat.le_of_ble_eq_true rfl, Nat.le_of_ble_eq_true rfl, pj_T_rcv iG18 rfl⟩ ⟨rfl, rfl⟩ (pj_Y_up (by decide) (ct_174x G18 iG18 y19.toInt64 (by omega))) ?_
      rintro _ G23 ⟨rfl, iG23, jG23, eG23, fy22⟩
      replace eG23 := eG23 _ rfl
      have kG23 : pj_kpt kc_271 G0 G23 := pj_kpt_t kG18 (pj_kpt_s jG23 rfl)
      obtain ⟨y24, hy24⟩ : ∃ z : Int32, z = pj_fi G23 171 1 := ⟨_, rfl⟩
      have ey24 : (pj_fi G23 171 1).toInt = y24.toInt := by rw [hy24]
      have ry24 : (0 : Int) ≤ y24.toInt ∧ y24.toInt ≤ 24 := by rw [hy24]; exact iG23.2.1 171 1 (0, 24) rfl
      show pj_X _ _ G23 53 [(0, .ref 171), (1, .int a), (2, .int b), (3, .int n), (4, .int k)] [] _
      refine pj_X_of (fun r h => pj_R_to (G23, 55, [(0, .ref 171), (1, .int a), (2, .int b), (3, .int n), (4, .int k)], [.ref 171, .ref 171], 0, 0) 55 3 (fun _ => rfl) h) ?_
      refine pj_X_of (fun r h => pj_T_gi iG23 rfl rfl h) ?_
      show pj_X _ _ G23 58 [(0, .ref 171), (1, .int a), (2, .int b), (3, .int n), (4, .int k)] [.int (pj_fi G23 171 55), .ref 171] _
      obtain ⟨y25, hy25⟩ : ∃ z : Int32, z = pj_fi G23 171 55 := ⟨_, rfl⟩
      refine pj_X_eqi hy25.symm ?_
      have ey25 : (pj_fi G23 171 55).toInt = y25.toInt := by rw [hy25]
      refine pj_X_of (fun r h => pj_R_to (G23, 59, [(0, .ref 171), (1, .int a), (2, .int b), (3, .int n), (4, .int k)], [.long y25.toInt64, .ref 171], 0, 0) 59 2 (fun _ => rfl) h) ?_
      have q26 : (pj_fi G23 171 1).toInt = y24.toInt := by rw [show pj_fi G23 171 1 = y24 from hy24.symm]
      have lc27 : (y25.toInt64).toInt = y25.toInt := Int32.toInt_toInt64 _
      refine pj_X_ca (vs := [.ref 171, .long y25.toInt64]) rfl (fun _ => rfl) ⟨Nat.le_of_ble_eq_true rfl, Nat.le_of_ble_eq_true rfl, pj_T_rcv iG23 rfl⟩ ⟨rfl, rfl⟩ (pj_Y_up (by decide) (ct_174x G23 iG23 y25.toInt64 (by omega))) ?_
      rintro _ G29 ⟨rfl, iG29, jG29, eG29, fy28⟩
      replace eG29 := eG29 _ rfl
      have kG29 : pj_kpt kc_271 G0 G29 := pj_kpt_t kG23 (pj_kpt_s jG29 rfl)
      obtain ⟨y30, hy30⟩ : ∃ z : Int32, z = pj_fi G29 171 1 := ⟨_, rfl⟩
      have ey30 : (pj_fi G29 171 1).toInt = y30.toInt := by rw [hy30]
      have ry30 : (0 : Int) ≤ y30.toInt ∧ y30.toInt ≤ 24 := by rw [hy30]; exact iG29.2.1 171 1 (0, 24) rfl
      show pj_X _ _ G29 62 [(0, .ref 171), (1, .int a), (2, .int b), (3, .int n), (4, .int k)] [] _
      refine pj_X_of (fun r h => pj_R_to (G29, 63, [(0, .ref 171), (1, .int a), (2, .int b), (3, .int n), (4, .int k)], [.ref 171], 0, 0) 63 2 (fun _ => rfl) h) ?_
      refine pj_X_of (fun r h => pj_T_gi iG29 rfl rfl h) ?_
      show pj_X _ _ G29 66 [(0, .ref 171), (1, .int a), (2, .int b), (3, .int n), (4, .int k)] [.int (pj_fi G29 171 52)] _
      obtain ⟨y31, hy31⟩ : ∃ z : Int32, z = pj_fi G29 171 52 := ⟨_, rfl⟩
      refine pj_X_eqi hy31.symm ?_
      have ey31 : (pj_fi G29 171 52).toInt = y31.toInt := by rw [hy31]
      refine pj_X_of (fun r h => pj_R_to (G29, 67, [(0, .ref 171), (1, .int a), (2, .int b), (3, .int n), (4, .int k)], [.ref 171, .int y31], 0, 0) 67 2 (fun _ => rfl) h) ?_
      refine pj_X_of (fun r h => pj_T_gi iG29 rfl rfl h) ?_
      show pj_X _ _ G29 70 [(0, .ref 171), (1, .int a), (2, .int b), (3, .int n), (4, .int k)] [.int (pj_fi G29 171 53), .int y31] _
      obtain ⟨y32, hy32⟩ : ∃ z : Int32, z = pj_fi G29 171 53 := ⟨_, rfl⟩
      refine pj_X_eqi hy32.symm ?_
      have ey32 : (pj_fi G29 171 53).toInt = y32.toInt := by rw [hy32]
      refine pj_X_of (fun r h => pj_R_to (G29, 71, [(0, .ref 171), (1, .int a), (2, .int b), (3, .int n), (4, .int k)], [.int (y31 + y32)], 0, 0) 71 2 (fun _ => rfl) h) ?_
      obtain ⟨z33, hz33⟩ : ∃ z : Int32, z = y31 + y32 := ⟨_, rfl⟩
      refine pj_X_eqi hz33.symm ?_
      have q34 : (pj_fi G29 171 1).toInt = y30.toInt := by rw [show pj_fi G29 171 1 = y30 from hy30.symm]
      exact pj_X_rt rfl rfl ⟨_, rfl, iG29, kG29, pj_i32 _⟩
    | false =>
      have ub12 := pj_u0_neF b12
      refine pj_X_of (fun r h => pj_R_ifF rfl b12 h) ?_
      refine pj_X_of (fun r h => pj_R_to (G2, 29, [(0, .ref 171), (1, .int a), (2, .int b), (3, .int n), (4, .int k)], [.int (Int32.ofInt (-1))], 0, 0) 29 2 (fun _ => rfl) h) ?_
      have q35 : (pj_fi G2 171 1).toInt = y1.toInt := by rw [show pj_fi G2 171 1 = y1 from by rw [hG2, pj_fi_wv_ne _ _ _ _ _ _ (by decide)]; exact hy1.symm]
      exact pj_X_rt rfl rfl ⟨_, rfl, iG2, kG2, pj_i32 _⟩
def kc_272 : pj_KT := ([(171, 0), (171, 1), (171, 52), (171, 53), (171, 54), (171, 55)], [171, 172], [])
theorem lp_ct_272 (G0 : pj_G) (hI0 : pj_Inv G0) (a : Int32) (b : Int32) (n : Int32) : ∀ mn : Nat, (∀ (G : pj_G) (hI : pj_Inv G) (hK : pj_kpt kc_272 G0 G) (v4 : Int32) (v5 : Int32) (v6 : Int32), ((-2147483648 : Int) ≤ v4.toInt ∧ v4.toInt ≤ 2147483647) → ((-2147483648 : Int) ≤ v5.toInt ∧ v5.toInt ≤ 2147483647) → ((1 : Int) ≤ v6.toInt ∧ v6.toInt ≤ 25) → (1 ≤ n.toInt ∧ n.toInt ≤ 48) → 25 - v6.toInt < (mn : Int) → pj_X 2 pj_m272 G 26 [(0, .ref 171), (1, .int a), (2, .int b), (3, .int n), (4, .int v4), (5, .int v5), (6, .int v6)] [] (fun v G' => ∃ y : Int32, v = some (.int y) ∧ pj_Inv G' ∧ pj_kpt kc_272 G0 G' ∧ ((-2147483648 : Int) ≤ y.toInt ∧ y.toInt ≤ 2147483647))) := by
  have c0_ : ((Int8.ofInt 24).toInt32).toInt = 24 := by decide
  have c1_ : (Int32.ofInt (-1)).toInt = -1 := by decide
  have c2_ : (Int32.ofInt 0).toInt = 0 := by decide
  have c3_ : (Int32.ofInt 1).toInt = 1 := by decide
  intro mn
  induction mn with
  | zero =>
    intro G hI hK v4 v5 v6 rv4 rv5 rv6 x0_ hm
    exfalso
    omega
  | succ mn ih =>
    intro G hI hK v4 v5 v6 rv4 rv5 rv6 x0_ hm
    obtain ⟨y1, hy1⟩ : ∃ z : Int32, z = pj_fi G 171 1 := ⟨_, rfl⟩
    have ey1 : (pj_fi G 171 1).toInt = y1.toInt := by rw [hy1]
    have ry1 : (0 : Int) ≤ y1.toInt ∧ y1.toInt ≤ 24 := by rw [hy1]; exact hI.2.1 171 1 (0, 24) rfl
    refine pj_X_of (fun r h => pj_R_to (G, 30, [(0, .ref 171), (1, .int a), (2, .int b), (3, .int n), (4, .int v4), (5, .int v5), (6, .int v6)], [.int ((Int8.ofInt 24).toInt32), .int v6], 0, 0) 30 3 (fun _ => rfl) h) ?_
    cases b2 : pj_c1 .gt v6 ((Int8.ofInt 24).toInt32) with
    | true =>
      have ub2 := pj_u_gtT b2
      refine pj_X_of (fun r h => pj_R_icT 87 rfl rfl b2 h) ?_
      refine pj_X_of (fun r h => pj_R_to (G, 89, [(0, .ref 171), (1, .int a), (2, .int b), (3, .int n), (4, .int v4), (5, .int v5), (6, .int v6)], [.int (Int32.ofInt 0), .ref 171], 0, 0) 89 3 (fun _ => rfl) h) ?_
      refine pj_X_of (fun r h => pj_T_pf hI rfl rfl rfl h) ?_
      show pj_X _ _ (pj_wv G 171 1 (.int (Int32.ofInt 0))) 92 [(0, .ref 171), (1, .int a), (2, .int b), (3, .int n), (4, .int v4), (5, .int v5), (6, .int v6)] [] _
      obtain ⟨G3, hG3⟩ : ∃ H, H = pj_wv G 171 1 (.int (Int32.ofInt 0)) := ⟨_, rfl⟩
      have iG3 : pj_Inv G3 := by rw [hG3]; exact pj_Inv_wi hI (ci := 12) rfl (fun q hq => by cases hq; exact ⟨by show (0 : Int) ≤ _; omega, by show _ ≤ (24 : Int); omega⟩)
      have kG3 : pj_kpt kc_272 G0 G3 := by rw [hG3]; exact pj_kpt_v hK rfl
      rw [← hG3]
      refine pj_X_of (fun r h => pj_R_to (G3, 96, [(0, .ref 171), (1, .int a), (2, .int b), (3, .int n), (4, .int v4), (5, .int v5), (6, .int v6)], [.long v5.toInt64, .ref 171], 0, 0) 96 4 (fun _ => rfl) h) ?_
      have q4 : (pj_fi G3 171 1).toInt = (Int32.ofInt 0).toInt := by rw [show pj_fi G3 171 1 = Int32.ofInt 0 from by rw [hG3]; exact pj_fi_wi hI.1 (ci := 12) rfl _]
      have lc5 : (v5.toInt64).toInt = v5.toInt := Int32.toInt_toInt64 _
      refine pj_X_ca (vs := [.ref 171, .long v5.toInt64]) rfl (fun _ => rfl) ⟨Nat.le_of_ble_eq_true rfl, Nat.le_of_ble_eq_true rfl, pj_T_rcv iG3 rfl⟩ ⟨rfl, rfl⟩ (pj_Y_up (by decide) (ct_174x G3 iG3 v5.toInt64 (by omega))) ?_
      rintro _ G7 ⟨rfl, iG7, jG7, eG7, fy6⟩
      replace eG7 := eG7 _ rfl
      have kG7 : pj_kpt kc_272 G0 G7 := pj_kpt_t kG3 (pj_kpt_s jG7 rfl)
      obtain ⟨y8, hy8⟩ : ∃ z : Int32, z = pj_fi G7 171 1 := ⟨_, rfl⟩
      have ey8 : (pj_fi G7 171 1).toInt = y8.toInt := by rw [hy8]
      have ry8 : (0 : Int) ≤ y8.toInt ∧ y8.toInt ≤ 24 := by rw [hy8]; exact iG7.2.1 171 1 (0, 24) rfl
      show pj_X _ _ G7 99 [(0, .ref 171), (1, .int a), (2, .int b), (3, .int n), (4, .int v4), (5, .int v5), (6, .int v6)] [] _
      refine pj_X_of (fun r h => pj_R_to (G7, 101, [(0, .ref 171), (1, .int a), (2, .int b), (3, .int n), (4, .int v4), (5, .int v5), (6, .int v6)], [.int v4], 0, 0) 101 2 (fun _ => rfl) h) ?_
      have q9 : (pj_fi G7 171 1).toInt = y8.toInt := by rw [show pj_fi G7 171 1 = y8 from hy8.symm]
      exact pj_X_rt rfl rfl ⟨_, rfl, iG7, kG7, pj_i32 _⟩
    | false =>
      have ub2 := pj_u_gtF b2
      refine pj_X_of (fun r h => pj_R_icF rfl b2 h) ?_
      refine pj_X_of (fun r h => pj_R_to (G, 39, [(0, .ref 171), (1, .int a), (2, .int b), (3, .int n), (4, .int v4), (5, .int v5), (6, .int v6)], [.int v6, .int n, .int b, .int a, .ref 171], 0, 0) 39 6 (fun _ => rfl) h) ?_
      have q10 : (pj_fi G 171 1).toInt = y1.toInt := by rw [show pj_fi G 171 1 = y1 from hy1.symm]
      refine pj_X_ca (vs := [.ref 171, .int a, .int b, .int n, .int v6]) rfl (fun _ => rfl) ⟨Nat.le_of_ble_eq_true rfl, Nat.le_of_ble_eq_true rfl, pj_T_rcv hI rfl⟩ ⟨rfl, rfl⟩ (pj_Y_up (by decide) (ct_269 G hI a b n v6 ⟨by omega, by omega⟩ ⟨by omega, by omega⟩)) ?_
      rintro _ G12 ⟨rfl, iG12, jG12⟩
      have kG12 : pj_kpt kc_272 G0 G12 := pj_kpt_t hK (pj_kpt_s jG12 rfl)
      have q13 : (pj_fi G12 171 1).toInt = (pj_fi G 171 1).toInt := by rw [jG12.1 (171, 1) (by decide)]
      obtain ⟨y14, hy14⟩ : ∃ z : Int32, z = pj_fi G12 171 1 := ⟨_, rfl⟩
      have ey14 : (pj_fi G12 171 1).toInt = y14.toInt := by rw [hy14]
      have ry14 : (0 : Int) ≤ y14.toInt ∧ y14.toInt ≤ 24 := by rw [hy14]; exact iG12.2.1 171 1 (0, 24) rfl
      show pj_X _ _ G12 42 [(0, .ref 171), (1, .int a), (2, .int b), (3, .int n), (4, .int v4), (5, .int v5), (6, .int v6)] [] _
      refine pj_X_of (fun r h => pj_R_to (G12, 43, [(0, .ref 171), (1, .int a), (2, .int b), (3, .int n), (4, .int v4), (5, .int v5), (6, .int v6)], [.ref 171], 0, 0) 43 2 (fun _ => rfl) h) ?_
      refine pj_X_of (fun r h => pj_T_gi iG12 rfl rfl h) ?_
      show pj_X _ _ G12 46 [(0, .ref 171), (1, .int a), (2, .int b), (3, .int n), (4, .int v4), (5, .int v5), (6, .int v6)] [.int (pj_fi G12 171 52)] _
      obtain ⟨y15, hy15⟩ : ∃ z : Int32, z = pj_fi G12 171 52 := ⟨_, rfl⟩
      refine pj_X_eqi hy15.symm ?_
      have ey15 : (pj_fi G12 171 52).toInt = y15.toInt := by rw [hy15]
      refine pj_X_of (fun r h => pj_R_to (G12, 47, [(0, .ref 171), (1, .int a), (2, .int b), (3, .int n), (4, .int v4), (5, .int v5), (6, .int v6)], [.ref 171, .int y15], 0, 0) 47 2 (fun _ => rfl) h) ?_
      refine pj_X_of (fun r h => pj_T_gi iG12 rfl rfl h) ?_
      show pj_X _ _ G12 50 [(0, .ref 171), (1, .int a), (2, .int b), (3, .int n), (4, .int v4), (5, .int v5), (6, .int v6)] [.int (pj_fi G12 171 53), .int y15] _
      obtain ⟨y16, hy16⟩ : ∃ z : Int32, z = pj_fi G12 171 53 := ⟨_, rfl⟩
      refine pj_X_eqi hy16.symm ?_
      have ey16 : (pj_fi G12 171 53).toInt = y16.toInt := by rw [hy16]
      refine pj_X_of (fun r h => pj_R_to (G12, 51, [(0, .ref 171), (1, .int a), (2, .int b), (3, .int n), (4, .int v4), (5, .int v5), (6, .int v6)], [.int (y15 + y16)], 0, 0) 51 2 (fun _ => rfl) h) ?_
      obtain ⟨z17, hz17⟩ : ∃ z : Int32, z = y15 + y16 := ⟨_, rfl⟩
      refine pj_X_eqi hz17.symm ?_
      refine pj_X_of (fun r h => pj_R_to (G12, 53, [(0, .ref 171), (1, .int a), (2, .int b), (3, .int n), (4, .int v4), (5, .int v5), (6, .int v6)], [.int v5, .int z17], 0, 0) 53 2 (fun _ => rfl) h) ?_
      cases b18 : pj_c1 .le z17 v5 with
      | true =>
        have ub18 := pj_u_leT b18
        refine pj_X_of (fun r h => pj_R_icT 61 rfl rfl b18 h) ?_
        refine pj_X_of (fun r h => pj_R_to (G12, 68, [(4, .int v4), (0, .ref 171), (1, .int a), (2, .int b), (3, .int n), (5, .int v5), (6, .int v6)], [.ref 171, .int v5], 0, 0) 68 5 (fun _ => rfl) h) ?_
        refine pj_X_of (fun r h => pj_T_gi iG12 rfl rfl h) ?_
        show pj_X _ _ G12 71 [(4, .int v4), (0, .ref 171), (1, .int a), (2, .int b), (3, .int n), (5, .int v5), (6, .int v6)] [.int (pj_fi G12 171 52), .int v5] _
        refine pj_X_eqi (show pj_fi G12 171 52 = y15 from hy15.symm) ?_
        refine pj_X_of (fun r h => pj_R_to (G12, 72, [(4, .int v4), (0, .ref 171), (1, .int a), (2, .int b), (3, .int n), (5, .int v5), (6, .int v6)], [.ref 171, .int y15, .int v5], 0, 0) 72 2 (fun _ => rfl) h) ?_
        refine pj_X_of (fun r h => pj_T_gi iG12 rfl rfl h) ?_
        show pj_X _ _ G12 75 [(4, .int v4), (0, .ref 171), (1, .int a), (2, .int b), (3, .int n), (5, .int v5), (6, .int v6)] [.int (pj_fi G12 171 53), .int y15, .int v5] _
        refine pj_X_eqi (show pj_fi G12 171 53 = y16 from hy16.symm) ?_
        refine pj_X_of (fun r h => pj_R_to (G12, 76, [(4, .int v4), (0, .ref 171), (1, .int a), (2, .int b), (3, .int n), (5, .int v5), (6, .int v6)], [.int (y15 + y16), .int v5], 0, 0) 76 2 (fun _ => rfl) h) ?_
        obtain ⟨z19, hz19⟩ : ∃ z : Int32, z = y15 + y16 := ⟨_, rfl⟩
        refine pj_X_eqi hz19.symm ?_
        refine pj_X_of (fun r h => pj_R_mx (v := (if v5 < z19 then z19 else v5)) rfl rfl rfl (Nat.le_of_ble_eq_true rfl) h) ?_
        show pj_X _ _ G12 79 [(4, .int v4), (0, .ref 171), (1, .int a), (2, .int b), (3, .int n), (5, .int v5), (6, .int v6)] [.int (if v5 < z19 then z19 else v5)] _
        obtain ⟨z20, hz20⟩ : ∃ z : Int32, z = (if v5 < z19 then z19 else v5) := ⟨_, rfl⟩
        refine pj_X_eqi hz20.symm ?_
        have fz20_0 : v5.toInt ≤ z20.toInt ∧ z19.toInt ≤ z20.toInt ∧ (z20.toInt = v5.toInt ∨ z20.toInt = z19.toInt) := by rw [hz20]; exact pj_maxI
        refine pj_X_of (fun r h => pj_R_to (G12, 84, [(6, .int (v6 + Int32.ofInt 1)), (5, .int z20), (4, .int v4), (0, .ref 171), (1, .int a), (2, .int b), (3, .int n)], [], 0, 0) 84 3 (fun _ => rfl) h) ?_
        obtain ⟨z21, hz21⟩ : ∃ z : Int32, z = v6 + Int32.ofInt 1 := ⟨_, rfl⟩
        rw [← hz21]
        have fz21_0 : z21.toInt = v6.toInt + (Int32.ofInt 1).toInt := by rw [hz21]; exact pj_addI (by have := pj_i32 v6; have := pj_i32 (Int32.ofInt 1); omega) (by have := pj_i32 v6; have := pj_i32 (Int32.ofInt 1); omega)
        refine pj_X_of (fun r h => pj_R_to (G12, 26, [(6, .int z21), (5, .int z20), (4, .int v4), (0, .ref 171), (1, .int a), (2, .int b), (3, .int n)], [], 0, 0) 26 2 (fun _ => rfl) h) ?_
        have q22 : (pj_fi G12 171 1).toInt = y14.toInt := by rw [show pj_fi G12 171 1 = y14 from hy14.symm]
        exact pj_X_sub [(0, .ref 171), (1, .int a), (2, .int b), (3, .int n), (4, .int v4), (5, .int z20), (6, .int z21)] (show List.Nodup [0, 1, 2, 3, 4, 5, 6] by decide) ⟨rfl, rfl, rfl, rfl, rfl, rfl, rfl, trivial⟩ (ih G12 iG12 kG12 v4 z20 z21 (pj_i32 _) (pj_i32 _) ⟨by omega, by omega⟩ (by omega) (by omega))
      | false =>
        have ub18 := pj_u_leF b18
        refine pj_X_of (fun r h => pj_R_icF rfl b18 h) ?_
        refine pj_X_of (fun r h => pj_R_to (G12, 68, [(4, .int v6), (0, .ref 171), (1, .int a), (2, .int b), (3, .int n), (5, .int v5), (6, .int v6)], [.ref 171, .int v5], 0, 0) 68 6 (fun _ => rfl) h) ?_
        refine pj_X_of (fun r h => pj_T_gi iG12 rfl rfl h) ?_
        show pj_X _ _ G12 71 [(4, .int v6), (0, .ref 171), (1, .int a), (2, .int b), (3, .int n), (5, .int v5), (6, .int v6)] [.int (pj_fi G12 171 52), .int v5] _
        refine pj_X_eqi (show pj_fi G12 171 52 = y15 from hy15.symm) ?_
        refine pj_X_of (fun r h => pj_R_to (G12, 72, [(4, .int v6), (0, .ref 171), (1, .int a), (2, .int b), (3, .int n), (5, .int v5), (6, .int v6)], [.ref 171, .int y15, .int v5], 0, 0) 72 2 (fun _ => rfl) h) ?_
        refine pj_X_of (fun r h => pj_T_gi iG12 rfl rfl h) ?_
        show pj_X _ _ G12 75 [(4, .int v6), (0, .ref 171), (1, .int a), (2, .int b), (3, .int n), (5, .int v5), (6, .int v6)] [.int (pj_fi G12 171 53), .int y15, .int v5] _
        refine pj_X_eqi (show pj_fi G12 171 53 = y16 from hy16.symm) ?_
        refine pj_X_of (fun r h => pj_R_to (G12, 76, [(4, .int v6), (0, .ref 171), (1, .int a), (2, .int b), (3, .int n), (5, .int v5), (6, .int v6)], [.int (y15 + y16), .int v5], 0, 0) 76 2 (fun _ => rfl) h) ?_
        obtain ⟨z23, hz23⟩ : ∃ z : Int32, z = y15 + y16 := ⟨_, rfl⟩
        refine pj_X_eqi hz23.symm ?_
        refine pj_X_of (fun r h => pj_R_mx (v := (if v5 < z23 then z23 else v5)) rfl rfl rfl (Nat.le_of_ble_eq_true rfl) h) ?_
        show pj_X _ _ G12 79 [(4, .int v6), (0, .ref 171), (1, .int a), (2, .int b), (3, .int n), (5, .int v5), (6, .int v6)] [.int (if v5 < z23 then z23 else v5)] _
        obtain ⟨z24, hz24⟩ : ∃ z : Int32, z = (if v5 < z23 then z23 else v5) := ⟨_, rfl⟩
        refine pj_X_eqi hz24.symm ?_
        have fz24_0 : v5.toInt ≤ z24.toInt ∧ z23.toInt ≤ z24.toInt ∧ (z24.toInt = v5.toInt ∨ z24.toInt = z23.toInt) := by rw [hz24]; exact pj_maxI
        refine pj_X_of (fun r h => pj_R_to (G12, 84, [(6, .int (v6 + Int32.ofInt 1)), (5, .int z24), (4, .int v6), (0, .ref 171), (1, .int a), (2, .int b), (3, .int n)], [], 0, 0) 84 3 (fun _ => rfl) h) ?_
        obtain ⟨z25, hz25⟩ : ∃ z : Int32, z = v6 + Int32.ofInt 1 := ⟨_, rfl⟩
        rw [← hz25]
        have fz25_0 : z25.toInt = v6.toInt + (Int32.ofInt 1).toInt := by rw [hz25]; exact pj_addI (by have := pj_i32 v6; have := pj_i32 (Int32.ofInt 1); omega) (by have := pj_i32 v6; have := pj_i32 (Int32.ofInt 1); omega)
        refine pj_X_of (fun r h => pj_R_to (G12, 26, [(6, .int z25), (5, .int z24), (4, .int v6), (0, .ref 171), (1, .int a), (2, .int b), (3, .int n)], [], 0, 0) 26 2 (fun _ => rfl) h) ?_
        have q26 : (pj_fi G12 171 1).toInt = y14.toInt := by rw [show pj_fi G12 171 1 = y14 from hy14.symm]
        exact pj_X_sub [(0, .ref 171), (1, .int a), (2, .int b), (3, .int n), (4, .int v6), (5, .int z24), (6, .int z25)] (show List.Nodup [0, 1, 2, 3, 4, 5, 6] by decide) ⟨rfl, rfl, rfl, rfl, rfl, rfl, rfl, trivial⟩ (ih G12 iG12 kG12 v6 z24 z25 (pj_i32 _) (pj_i32 _) ⟨by omega, by omega⟩ (by omega) (by omega))
theorem ct_272 (G0 : pj_G) (hI : pj_Inv G0) (a : Int32) (b : Int32) (n : Int32) : pj_Y 3 272 [.ref 171, .int a, .int b, .int n] G0 (fun v G' => ∃ y : Int32, v = some (.int y) ∧ pj_Inv G' ∧ pj_kpt kc_272 G0 G' ∧ ((-2147483648 : Int) ≤ y.toInt ∧ y.toInt ≤ 2147483647)) := by
  have c0_ : ((Int8.ofInt 24).toInt32).toInt = 24 := by decide
  have c1_ : (Int32.ofInt (-1)).toInt = -1 := by decide
  have c2_ : (Int32.ofInt 0).toInt = 0 := by decide
  have c3_ : (Int32.ofInt 1).toInt = 1 := by decide
  refine pj_Y_X (M := pj_m272) rfl rfl (Nat.le_of_ble_eq_true rfl) ?_
  have hK : pj_kpt kc_272 G0 G0 := pj_kpt_r _ _
  show pj_X _ _ G0 0 [(0, .ref 171), (1, .int a), (2, .int b), (3, .int n)] [] _
  obtain ⟨y27, hy27⟩ : ∃ z : Int32, z = pj_fi G0 171 1 := ⟨_, rfl⟩
  have ey27 : (pj_fi G0 171 1).toInt = y27.toInt := by rw [hy27]
  have ry27 : (0 : Int) ≤ y27.toInt ∧ y27.toInt ≤ 24 := by rw [hy27]; exact hI.2.1 171 1 (0, 24) rfl
  refine pj_X_of (fun r h => pj_R_to (G0, 2, [(0, .ref 171), (1, .int a), (2, .int b), (3, .int n)], [.int (Int32.ofInt 0), .ref 171], 0, 0) 2 3 (fun _ => rfl) h) ?_
  refine pj_X_of (fun r h => pj_T_pf hI rfl rfl rfl h) ?_
  show pj_X _ _ (pj_wv G0 171 0 (.int (Int32.ofInt 0))) 5 [(0, .ref 171), (1, .int a), (2, .int b), (3, .int n)] [] _
  obtain ⟨G28, hG28⟩ : ∃ H, H = pj_wv G0 171 0 (.int (Int32.ofInt 0)) := ⟨_, rfl⟩
  have iG28 : pj_Inv G28 := by rw [hG28]; exact pj_Inv_wi hI (ci := 12) rfl (fun q hq => by cases hq)
  have kG28 : pj_kpt kc_272 G0 G28 := by rw [hG28]; exact pj_kpt_v hK rfl
  rw [← hG28]
  refine pj_X_of (fun r h => pj_R_to (G28, 9, [(0, .ref 171), (1, .int a), (2, .int b), (3, .int n)], [.int n, .int b, .int a, .ref 171], 0, 0) 9 5 (fun _ => rfl) h) ?_
  have q29 : (pj_fi G28 171 1).toInt = y27.toInt := by rw [show pj_fi G28 171 1 = y27 from by rw [hG28, pj_fi_wv_ne _ _ _ _ _ _ (by decide)]; exact hy27.symm]
  refine pj_X_ca (vs := [.ref 171, .int a, .int b, .int n]) rfl (fun _ => rfl) ⟨Nat.le_of_ble_eq_true rfl, Nat.le_of_ble_eq_true rfl, pj_T_rcv iG28 rfl⟩ ⟨rfl, rfl⟩ (pj_Y_up (by decide) (ct_270 G28 iG28 a b n)) ?_
  rintro _ _ ⟨y30, rfl, rfl, ry30, ey30⟩
  show pj_X _ _ G28 12 [(0, .ref 171), (1, .int a), (2, .int b), (3, .int n)] [.int y30] _
  cases b31 : pj_c1 .ne y30 0 with
  | true =>
    have ub31 := pj_u0_neT b31
    refine pj_X_of (fun r h => pj_R_ifT 17 rfl rfl b31 h) ?_
    refine pj_X_of (fun r h => pj_R_to (G28, 26, [(6, .int (Int32.ofInt 1)), (5, .int (Int32.ofInt (-1))), (4, .int (Int32.ofInt (-1))), (0, .ref 171), (1, .int a), (2, .int b), (3, .int n)], [], 0, 0) 26 7 (fun _ => rfl) h) ?_
    have q32 : (pj_fi G28 171 1).toInt = y27.toInt := by rw [show pj_fi G28 171 1 = y27 from by rw [hG28, pj_fi_wv_ne _ _ _ _ _ _ (by decide)]; exact hy27.symm]
    exact pj_X_sub [(0, .ref 171), (1, .int a), (2, .int b), (3, .int n), (4, .int (Int32.ofInt (-1))), (5, .int (Int32.ofInt (-1))), (6, .int (Int32.ofInt 1))] (show List.Nodup [0, 1, 2, 3, 4, 5, 6] by decide) ⟨rfl, rfl, rfl, rfl, rfl, rfl, rfl, trivial⟩ ((lp_ct_272 G0 hI a b n  25) G28 iG28 kG28 (Int32.ofInt (-1)) (Int32.ofInt (-1)) (Int32.ofInt 1) (pj_i32 _) (pj_i32 _) ⟨by omega, by omega⟩ (by omega) (by omega))
  | false =>
    have ub31 := pj_u0_neF b31
    refine pj_X_of (fun r h => pj_R_ifF rfl b31 h) ?_
    refine pj_X_of (fun r h => pj_R_to (G28, 16, [(0, .ref 171), (1, .int a), (2, .int b), (3, .int n)], [.int (Int32.ofInt (-1))], 0, 0) 16 2 (fun _ => rfl) h) ?_
    have q33 : (pj_fi G28 171 1).toInt = y27.toInt := by rw [show pj_fi G28 171 1 = y27 from by rw [hG28, pj_fi_wv_ne _ _ _ _ _ _ (by decide)]; exact hy27.symm]
    exact pj_X_rt rfl rfl ⟨_, rfl, iG28, kG28, pj_i32 _⟩
theorem ct_273 (G0 : pj_G) (hI : pj_Inv G0) (p : Int32) (o : Int32) (c : Int32) : pj_Y 1 273 [.int p, .int o, .int c] G0 (fun v G' => ∃ y : Int32, v = some (.int y) ∧ G0 = G' ∧ ((-2147483648 : Int) ≤ y.toInt ∧ y.toInt ≤ 2147483647)) := by
  have c0_ : (Int32.ofInt 0).toInt = 0 := by decide
  have c1_ : (Int32.ofInt 2).toInt = 2 := by decide
  refine pj_Y_X (M := pj_m273) rfl rfl (Nat.le_of_ble_eq_true rfl) ?_
  have hK : pj_kpt ([], [], []) G0 G0 := pj_kpt_r _ _
  show pj_X _ _ G0 0 [(0, .int p), (1, .int o), (2, .int c)] [] _
  refine pj_X_of (fun r h => pj_R_to (G0, 2, [(0, .int p), (1, .int o), (2, .int c)], [.int o, .int p], 0, 0) 2 3 (fun _ => rfl) h) ?_
  cases b1 : pj_c1 .ge p o with
  | true =>
    have ub1 := pj_u_geT b1
    refine pj_X_of (fun r h => pj_R_icT 11 rfl rfl b1 h) ?_
    refine pj_X_of (fun r h => pj_R_to (G0, 13, [(0, .int p), (1, .int o), (2, .int c)], [.int o, .int p], 0, 0) 13 3 (fun _ => rfl) h) ?_
    cases b2 : pj_c1 .ne p o with
    | true =>
      have ub2 := pj_u_neT b2
      refine pj_X_of (fun r h => pj_R_icT 24 rfl rfl b2 h) ?_
      refine pj_X_of (fun r h => pj_R_to (G0, 25, [(0, .int p), (1, .int o), (2, .int c)], [.int (Int32.ofInt 0)], 0, 0) 25 2 (fun _ => rfl) h) ?_
      exact pj_X_rt rfl rfl ⟨_, rfl, rfl, pj_i32 _⟩
    | false =>
      have ub2 := pj_u_neF b2
      refine pj_X_of (fun r h => pj_R_icF rfl b2 h) ?_
      refine pj_X_of (fun r h => pj_R_to (G0, 19, [(0, .int p), (1, .int o), (2, .int c)], [.int (p - c)], 0, 0) 19 4 (fun _ => rfl) h) ?_
      obtain ⟨z3, hz3⟩ : ∃ z : Int32, z = p - c := ⟨_, rfl⟩
      refine pj_X_eqi hz3.symm ?_
      refine pj_X_of (fun r h => pj_R_to (G0, 20, [(0, .int p), (1, .int o), (2, .int c)], [.int (Int32.ofInt 2), .int z3], 0, 0) 20 2 (fun _ => rfl) h) ?_
      refine pj_X_of (fun r h => pj_R_dv rfl (pj_nz (by omega)) h) ?_
      show pj_X _ _ G0 21 [(0, .int p), (1, .int o), (2, .int c)] [.int (z3 / (Int32.ofInt 2))] _
      obtain ⟨z4, hz4⟩ : ∃ z : Int32, z = z3 / (Int32.ofInt 2) := ⟨_, rfl⟩
      refine pj_X_eqi hz4.symm ?_
      refine pj_X_of (fun r h => pj_R_to (G0, 25, [(0, .int p), (1, .int o), (2, .int c)], [.int z4], 0, 0) 25 2 (fun _ => rfl) h) ?_
      exact pj_X_rt rfl rfl ⟨_, rfl, rfl, pj_i32 _⟩
  | false =>
    have ub1 := pj_u_geF b1
    refine pj_X_of (fun r h => pj_R_icF rfl b1 h) ?_
    refine pj_X_of (fun r h => pj_R_to (G0, 8, [(0, .int p), (1, .int o), (2, .int c)], [.int (p - c)], 0, 0) 8 4 (fun _ => rfl) h) ?_
    obtain ⟨z5, hz5⟩ : ∃ z : Int32, z = p - c := ⟨_, rfl⟩
    refine pj_X_eqi hz5.symm ?_
    refine pj_X_of (fun r h => pj_R_to (G0, 25, [(0, .int p), (1, .int o), (2, .int c)], [.int z5], 0, 0) 25 2 (fun _ => rfl) h) ?_
    exact pj_X_rt rfl rfl ⟨_, rfl, rfl, pj_i32 _⟩
theorem lp_ct_274 (G0 : pj_G) (hI : pj_Inv G0) (p : Int32) (o : Int32) (c : Int32) : ∀ mn : Nat, (∀ (v3 : Int32) (v4 : Int32), ((0 : Int) ≤ v3.toInt ∧ v3.toInt ≤ 1) → ((1 : Int) ≤ v4.toInt ∧ v4.toInt ≤ 10) → 10 - v4.toInt < (mn : Int) → pj_X 1 pj_m274 G0 5 [(0, .int p), (1, .int o), (2, .int c), (3, .int v3), (4, .int v4)] [] (fun v G' => ∃ y : Int32, v = some (.int y) ∧ G0 = G' ∧ ((0 : Int) ≤ y.toInt ∧ y.toInt ≤ 1))) := by
  have c0_ : ((Int8.ofInt 9).toInt32).toInt = 9 := by decide
  have c1_ : (Int32.ofInt 0).toInt = 0 := by decide
  have c2_ : (Int32.ofInt 1).toInt = 1 := by decide
  have hK : pj_kpt ([], [], []) G0 G0 := pj_kpt_r _ _
  intro mn
  induction mn with
  | zero =>
    intro v3 v4 rv3 rv4 hm
    exfalso
    omega
  | succ mn ih =>
    intro v3 v4 rv3 rv4 hm
    refine pj_X_of (fun r h => pj_R_to (G0, 9, [(0, .int p), (1, .int o), (2, .int c), (3, .int v3), (4, .int v4)], [.int ((Int8.ofInt 9).toInt32), .int v4], 0, 0) 9 3 (fun _ => rfl) h) ?_
    cases b1 : pj_c1 .gt v4 ((Int8.ofInt 9).toInt32) with
    | true =>
      have ub1 := pj_u_gtT b1
      refine pj_X_of (fun r h => pj_R_icT 44 rfl rfl b1 h) ?_
      refine pj_X_of (fun r h => pj_R_to (G0, 45, [(0, .int p), (1, .int o), (2, .int c), (3, .int v3), (4, .int v4)], [.int v3], 0, 0) 45 2 (fun _ => rfl) h) ?_
      exact pj_X_rt (v := some (.int v3)) rfl (pj_rtb ⟨by omega, by omega⟩) ⟨_, rfl, rfl, ⟨by omega, by omega⟩⟩
    | false =>
      have ub1 := pj_u_gtF b1
      refine pj_X_of (fun r h => pj_R_icF rfl b1 h) ?_
      refine pj_X_of (fun r h => pj_R_to (G0, 13, [(0, .int p), (1, .int o), (2, .int c), (3, .int v3), (4, .int v4)], [.int v3], 0, 0) 13 2 (fun _ => rfl) h) ?_
      cases b2 : pj_c1 .eq v3 0 with
      | true =>
        have ub2 := pj_u0_eqT b2
        refine pj_X_of (fun r h => pj_R_ifT 36 rfl rfl b2 h) ?_
        refine pj_X_of (fun r h => pj_R_to (G0, 41, [(4, .int (v4 + Int32.ofInt 1)), (3, .int (Int32.ofInt 0)), (0, .int p), (1, .int o), (2, .int c)], [], 0, 0) 41 4 (fun _ => rfl) h) ?_
        obtain ⟨z3, hz3⟩ : ∃ z : Int32, z = v4 + Int32.ofInt 1 := ⟨_, rfl⟩
        rw [← hz3]
        have fz3_0 : z3.toInt = v4.toInt + (Int32.ofInt 1).toInt := by rw [hz3]; exact pj_addI (by have := pj_i32 v4; have := pj_i32 (Int32.ofInt 1); omega) (by have := pj_i32 v4; have := pj_i32 (Int32.ofInt 1); omega)
        refine pj_X_of (fun r h => pj_R_to (G0, 5, [(4, .int z3), (3, .int (Int32.ofInt 0)), (0, .int p), (1, .int o), (2, .int c)], [], 0, 0) 5 2 (fun _ => rfl) h) ?_
        exact pj_X_sub [(0, .int p), (1, .int o), (2, .int c), (3, .int (Int32.ofInt 0)), (4, .int z3)] (show List.Nodup [0, 1, 2, 3, 4] by decide) ⟨rfl, rfl, rfl, rfl, rfl, trivial⟩ (ih (Int32.ofInt 0) z3 ⟨by omega, by omega⟩ ⟨by omega, by omega⟩ (by omega))
      | false =>
        have ub2 := pj_u0_eqF b2
        refine pj_X_of (fun r h => pj_R_ifF rfl b2 h) ?_
        refine pj_X_of (fun r h => pj_R_to (G0, 20, [(0, .int p), (1, .int o), (2, .int c), (3, .int v3), (4, .int v4)], [.int c, .int o, .int v4], 0, 0) 20 4 (fun _ => rfl) h) ?_
        refine pj_X_ca (vs := [.int v4, .int o, .int c]) rfl (fun _ => rfl) ⟨Nat.le_of_ble_eq_true rfl, Nat.le_of_ble_eq_true rfl, rfl⟩ ⟨rfl, rfl⟩ (pj_Y_up (by decide) (ct_273 G0 hI v4 o c)) ?_
        rintro _ _ ⟨y4, rfl, rfl, ry4⟩
        show pj_X _ _ G0 23 [(0, .int p), (1, .int o), (2, .int c), (3, .int v3), (4, .int v4)] [.int y4] _
        refine pj_X_of (fun r h => pj_R_to (G0, 26, [(0, .int p), (1, .int o), (2, .int c), (3, .int v3), (4, .int v4)], [.int c, .int o, .int p, .int y4], 0, 0) 26 4 (fun _ => rfl) h) ?_
        refine pj_X_ca (vs := [.int p, .int o, .int c]) rfl (fun _ => rfl) ⟨Nat.le_of_ble_eq_true rfl, Nat.le_of_ble_eq_true rfl, rfl⟩ ⟨rfl, rfl⟩ (pj_Y_up (by decide) (ct_273 G0 hI p o c)) ?_
        rintro _ _ ⟨y5, rfl, rfl, ry5⟩
        show pj_X _ _ G0 29 [(0, .int p), (1, .int o), (2, .int c), (3, .int v3), (4, .int v4)] [.int y5, .int y4] _
        cases b6 : pj_c1 .gt y4 y5 with
        | true =>
          have ub6 := pj_u_gtT b6
          refine pj_X_of (fun r h => pj_R_icT 36 rfl rfl b6 h) ?_
          refine pj_X_of (fun r h => pj_R_to (G0, 41, [(4, .int (v4 + Int32.ofInt 1)), (3, .int (Int32.ofInt 0)), (0, .int p), (1, .int o), (2, .int c)], [], 0, 0) 41 4 (fun _ => rfl) h) ?_
          obtain ⟨z7, hz7⟩ : ∃ z : Int32, z = v4 + Int32.ofInt 1 := ⟨_, rfl⟩
          rw [← hz7]
          have fz7_0 : z7.toInt = v4.toInt + (Int32.ofInt 1).toInt := by rw [hz7]; exact pj_addI (by have := pj_i32 v4; have := pj_i32 (Int32.ofInt 1); omega) (by have := pj_i32 v4; have := pj_i32 (Int32.ofInt 1); omega)
          refine pj_X_of (fun r h => pj_R_to (G0, 5, [(4, .int z7), (3, .int (Int32.ofInt 0)), (0, .int p), (1, .int o), (2, .int c)], [], 0, 0) 5 2 (fun _ => rfl) h) ?_
          exact pj_X_sub [(0, .int p), (1, .int o), (2, .int c), (3, .int (Int32.ofInt 0)), (4, .int z7)] (show List.Nodup [0, 1, 2, 3, 4] by decide) ⟨rfl, rfl, rfl, rfl, rfl, trivial⟩ (ih (Int32.ofInt 0) z7 ⟨by omega, by omega⟩ ⟨by omega, by omega⟩ (by omega))
        | false =>
          have ub6 := pj_u_gtF b6
          refine pj_X_of (fun r h => pj_R_icF rfl b6 h) ?_
          refine pj_X_of (fun r h => pj_R_to (G0, 41, [(4, .int (v4 + Int32.ofInt 1)), (3, .int (Int32.ofInt 1)), (0, .int p), (1, .int o), (2, .int c)], [], 0, 0) 41 5 (fun _ => rfl) h) ?_
          obtain ⟨z8, hz8⟩ : ∃ z : Int32, z = v4 + Int32.ofInt 1 := ⟨_, rfl⟩
          rw [← hz8]
          have fz8_0 : z8.toInt = v4.toInt + (Int32.ofInt 1).toInt := by rw [hz8]; exact pj_addI (by have := pj_i32 v4; have := pj_i32 (Int32.ofInt 1); omega) (by have := pj_i32 v4; have := pj_i32 (Int32.ofInt 1); omega)
          refine pj_X_of (fun r h => pj_R_to (G0, 5, [(4, .int z8), (3, .int (Int32.ofInt 1)), (0, .int p), (1, .int o), (2, .int c)], [], 0, 0) 5 2 (fun _ => rfl) h) ?_
          exact pj_X_sub [(0, .int p), (1, .int o), (2, .int c), (3, .int (Int32.ofInt 1)), (4, .int z8)] (show List.Nodup [0, 1, 2, 3, 4] by decide) ⟨rfl, rfl, rfl, rfl, rfl, trivial⟩ (ih (Int32.ofInt 1) z8 ⟨by omega, by omega⟩ ⟨by omega, by omega⟩ (by omega))
theorem ct_274 (G0 : pj_G) (hI : pj_Inv G0) (p : Int32) (o : Int32) (c : Int32) : pj_Y 2 274 [.int p, .int o, .int c] G0 (fun v G' => ∃ y : Int32, v = some (.int y) ∧ G0 = G' ∧ ((0 : Int) ≤ y.toInt ∧ y.toInt ≤ 1)) := by
  have c0_ : ((Int8.ofInt 9).toInt32).toInt = 9 := by decide
  have c1_ : (Int32.ofInt 0).toInt = 0 := by decide
  have c2_ : (Int32.ofInt 1).toInt = 1 := by decide
  refine pj_Y_X (M := pj_m274) rfl rfl (Nat.le_of_ble_eq_true rfl) ?_
  have hK : pj_kpt ([], [], []) G0 G0 := pj_kpt_r _ _
  show pj_X _ _ G0 0 [(0, .int p), (1, .int o), (2, .int c)] [] _
  refine pj_X_of (fun r h => pj_R_to (G0, 5, [(4, .int (Int32.ofInt 1)), (3, .int (Int32.ofInt 1)), (0, .int p), (1, .int o), (2, .int c)], [], 0, 0) 5 5 (fun _ => rfl) h) ?_
  exact pj_X_sub [(0, .int p), (1, .int o), (2, .int c), (3, .int (Int32.ofInt 1)), (4, .int (Int32.ofInt 1))] (show List.Nodup [0, 1, 2, 3, 4] by decide) ⟨rfl, rfl, rfl, rfl, rfl, trivial⟩ ((lp_ct_274 G0 hI p o c  10) (Int32.ofInt 1) (Int32.ofInt 1) ⟨by omega, by omega⟩ ⟨by omega, by omega⟩ (by omega))
def kc_275 : pj_KT := ([(171, 0), (171, 1)], [171, 172], [])
theorem lp_ct_275 (G0 : pj_G) (hI0 : pj_Inv G0) (c : Int32) : ∀ mn : Nat, (∀ (G : pj_G) (hI : pj_Inv G) (hK : pj_kpt kc_275 G0 G) (v2 : Int32) (v3 : Int32), ((0 : Int) ≤ v2.toInt ∧ v2.toInt ≤ 90) → ((1 : Int) ≤ v3.toInt ∧ v3.toInt ≤ 10) → (v2.toInt = 0 → (pj_fi G 171 1).toInt = 0) → ((pj_fi G 171 1).toInt ≤ 2) → (v2.toInt ≤ 9 * v3.toInt - 9) → 30 * (10 - v3.toInt) < (mn : Int) → pj_X 2 pj_m275 G 28 [(0, .ref 171), (1, .int c), (2, .int v2), (3, .int v3)] [] (fun v G' => ∃ y : Int32, v = some (.int y) ∧ pj_Inv G' ∧ pj_kpt kc_275 G0 G' ∧ ((-2147483648 : Int) ≤ y.toInt ∧ y.toInt ≤ 2147483647))) ∧ (∀ (G : pj_G) (hI : pj_Inv G) (hK : pj_kpt kc_275 G0 G) (v2 : Int32) (v3 : Int32) (v4 : Int32), ((0 : Int) ≤ v2.toInt ∧ v2.toInt ≤ 90) → ((1 : Int) ≤ v3.toInt ∧ v3.toInt ≤ 9) → ((1 : Int) ≤ v4.toInt ∧ v4.toInt ≤ 10) → (v2.toInt = 0 → (pj_fi G 171 1).toInt = 0) → ((pj_fi G 171 1).toInt ≤ 2) → (v2.toInt ≤ 9 * v3.toInt - 10 + v4.toInt) → 30 * (10 - v3.toInt) - 1 - v4.toInt < (mn : Int) → pj_X 2 pj_m275 G 37 [(0, .ref 171), (1, .int c), (2, .int v2), (3, .int v3), (4, .int v4)] [] (fun v G' => ∃ y : Int32, v = some (.int y) ∧ pj_Inv G' ∧ pj_kpt kc_275 G0 G' ∧ ((-2147483648 : Int) ≤ y.toInt ∧ y.toInt ≤ 2147483647))) := by
  have c0_ : ((Int8.ofInt 9).toInt32).toInt = 9 := by decide
  have c1_ : (Int32.ofInt (-1)).toInt = -1 := by decide
  have c2_ : (Int32.ofInt 0).toInt = 0 := by decide
  have c3_ : (Int32.ofInt 1).toInt = 1 := by decide
  intro mn
  induction mn with
  | zero =>
    refine ⟨?_, ?_⟩
    · intro G hI hK v2 v3 rv2 rv3 x0_ x1_ x2_ hm
      exfalso
      omega
    · intro G hI hK v2 v3 v4 rv2 rv3 rv4 x0_ x1_ x2_ hm
      exfalso
      omega
  | succ mn ih =>
    refine ⟨?_, ?_⟩
    · intro G hI hK v2 v3 rv2 rv3 x0_ x1_ x2_ hm
      obtain ⟨y1, hy1⟩ : ∃ z : Int32, z = pj_fi G 171 1 := ⟨_, rfl⟩
      have ey1 : (pj_fi G 171 1).toInt = y1.toInt := by rw [hy1]
      have ry1 : (0 : Int) ≤ y1.toInt ∧ y1.toInt ≤ 24 := by rw [hy1]; exact hI.2.1 171 1 (0, 24) rfl
      refine pj_X_of (fun r h => pj_R_to (G, 31, [(0, .ref 171), (1, .int c), (2, .int v2), (3, .int v3)], [.int ((Int8.ofInt 9).toInt32), .int v3], 0, 0) 31 3 (fun _ => rfl) h) ?_
      cases b2 : pj_c1 .gt v3 ((Int8.ofInt 9).toInt32) with
      | true =>
        have ub2 := pj_u_gtT b2
        refine pj_X_of (fun r h => pj_R_icT 96 rfl rfl b2 h) ?_
        refine pj_X_of (fun r h => pj_R_to (G, 97, [(0, .ref 171), (1, .int c), (2, .int v2), (3, .int v3)], [.int v2], 0, 0) 97 2 (fun _ => rfl) h) ?_
        have q3 : (pj_fi G 171 1).toInt = y1.toInt := by rw [show pj_fi G 171 1 = y1 from hy1.symm]
        exact pj_X_rt rfl rfl ⟨_, rfl, hI, hK, pj_i32 _⟩
      | false =>
        have ub2 := pj_u_gtF b2
        refine pj_X_of (fun r h => pj_R_icF rfl b2 h) ?_
        refine pj_X_of (fun r h => pj_R_to (G, 37, [(4, .int (Int32.ofInt 1)), (0, .ref 171), (1, .int c), (2, .int v2), (3, .int v3)], [], 0, 0) 37 3 (fun _ => rfl) h) ?_
        have q4 : (pj_fi G 171 1).toInt = y1.toInt := by rw [show pj_fi G 171 1 = y1 from hy1.symm]
        exact pj_X_sub [(0, .ref 171), (1, .int c), (2, .int v2), (3, .int v3), (4, .int (Int32.ofInt 1))] (show List.Nodup [0, 1, 2, 3, 4] by decide) ⟨rfl, rfl, rfl, rfl, rfl, trivial⟩ (ih.2 G hI hK v2 v3 (Int32.ofInt 1) ⟨by omega, by omega⟩ ⟨by omega, by omega⟩ ⟨by omega, by omega⟩ (by omega) (by omega) (by omega) (by omega))
    · intro G hI hK v2 v3 v4 rv2 rv3 rv4 x0_ x1_ x2_ hm
      obtain ⟨y5, hy5⟩ : ∃ z : Int32, z = pj_fi G 171 1 := ⟨_, rfl⟩
      have ey5 : (pj_fi G 171 1).toInt = y5.toInt := by rw [hy5]
      have ry5 : (0 : Int) ≤ y5.toInt ∧ y5.toInt ≤ 24 := by rw [hy5]; exact hI.2.1 171 1 (0, 24) rfl
      refine pj_X_of (fun r h => pj_R_to (G, 41, [(0, .ref 171), (1, .int c), (2, .int v2), (3, .int v3), (4, .int v4)], [.int ((Int8.ofInt 9).toInt32), .int v4], 0, 0) 41 3 (fun _ => rfl) h) ?_
      cases b6 : pj_c1 .gt v4 ((Int8.ofInt 9).toInt32) with
      | true =>
        have ub6 := pj_u_gtT b6
        refine pj_X_of (fun r h => pj_R_icT 90 rfl rfl b6 h) ?_
        refine pj_X_of (fun r h => pj_R_to (G, 93, [(3, .int (v3 + Int32.ofInt 1)), (0, .ref 171), (1, .int c), (2, .int v2), (4, .int v4)], [], 0, 0) 93 2 (fun _ => rfl) h) ?_
        obtain ⟨z7, hz7⟩ : ∃ z : Int32, z = v3 + Int32.ofInt 1 := ⟨_, rfl⟩
        rw [← hz7]
        have fz7_0 : z7.toInt = v3.toInt + (Int32.ofInt 1).toInt := by rw [hz7]; exact pj_addI (by have := pj_i32 v3; have := pj_i32 (Int32.ofInt 1); omega) (by have := pj_i32 v3; have := pj_i32 (Int32.ofInt 1); omega)
        refine pj_X_of (fun r h => pj_R_to (G, 28, [(3, .int z7), (0, .ref 171), (1, .int c), (2, .int v2), (4, .int v4)], [], 0, 0) 28 2 (fun _ => rfl) h) ?_
        have q8 : (pj_fi G 171 1).toInt = y5.toInt := by rw [show pj_fi G 171 1 = y5 from hy5.symm]
        exact pj_X_sub [(0, .ref 171), (1, .int c), (2, .int v2), (3, .int z7)] (show List.Nodup [0, 1, 2, 3] by decide) ⟨rfl, rfl, rfl, rfl, trivial⟩ (ih.1 G hI hK v2 z7 ⟨by omega, by omega⟩ ⟨by omega, by omega⟩ (by omega) (by omega) (by omega) (by omega))
      | false =>
        have ub6 := pj_u_gtF b6
        refine pj_X_of (fun r h => pj_R_icF rfl b6 h) ?_
        refine pj_X_of (fun r h => pj_R_to (G, 48, [(0, .ref 171), (1, .int c), (2, .int v2), (3, .int v3), (4, .int v4)], [.int c, .int v4, .int v3], 0, 0) 48 4 (fun _ => rfl) h) ?_
        have q9 : (pj_fi G 171 1).toInt = y5.toInt := by rw [show pj_fi G 171 1 = y5 from hy5.symm]
        refine pj_X_ca (vs := [.int v3, .int v4, .int c]) rfl (fun _ => rfl) ⟨Nat.le_of_ble_eq_true rfl, Nat.le_of_ble_eq_true rfl, rfl⟩ ⟨rfl, rfl⟩ (pj_Y_up (by decide) (ct_274 G hI v3 v4 c)) ?_
        rintro _ _ ⟨y10, rfl, rfl, ry10⟩
        show pj_X _ _ G 51 [(0, .ref 171), (1, .int c), (2, .int v2), (3, .int v3), (4, .int v4)] [.int y10] _
        cases b11 : pj_c1 .eq y10 0 with
        | true =>
          have ub11 := pj_u0_eqT b11
          refine pj_X_of (fun r h => pj_R_ifT 84 rfl rfl b11 h) ?_
          refine pj_X_of (fun r h => pj_R_to (G, 87, [(4, .int (v4 + Int32.ofInt 1)), (0, .ref 171), (1, .int c), (2, .int v2), (3, .int v3)], [], 0, 0) 87 2 (fun _ => rfl) h) ?_
          obtain ⟨z12, hz12⟩ : ∃ z : Int32, z = v4 + Int32.ofInt 1 := ⟨_, rfl⟩
          rw [← hz12]
          have fz12_0 : z12.toInt = v4.toInt + (Int32.ofInt 1).toInt := by rw [hz12]; exact pj_addI (by have := pj_i32 v4; have := pj_i32 (Int32.ofInt 1); omega) (by have := pj_i32 v4; have := pj_i32 (Int32.ofInt 1); omega)
          refine pj_X_of (fun r h => pj_R_to (G, 37, [(4, .int z12), (0, .ref 171), (1, .int c), (2, .int v2), (3, .int v3)], [], 0, 0) 37 2 (fun _ => rfl) h) ?_
          have q13 : (pj_fi G 171 1).toInt = y5.toInt := by rw [show pj_fi G 171 1 = y5 from hy5.symm]
          exact pj_X_sub [(0, .ref 171), (1, .int c), (2, .int v2), (3, .int v3), (4, .int z12)] (show List.Nodup [0, 1, 2, 3, 4] by decide) ⟨rfl, rfl, rfl, rfl, rfl, trivial⟩ (ih.2 G hI hK v2 v3 z12 ⟨by omega, by omega⟩ ⟨by omega, by omega⟩ ⟨by omega, by omega⟩ (by omega) (by omega) (by omega) (by omega))
        | false =>
          have ub11 := pj_u0_eqF b11
          refine pj_X_of (fun r h => pj_R_ifF rfl b11 h) ?_
          refine pj_X_of (fun r h => pj_R_to (G, 58, [(0, .ref 171), (1, .int c), (2, .int v2), (3, .int v3), (4, .int v4)], [.int c, .int v3, .int v4], 0, 0) 58 4 (fun _ => rfl) h) ?_
          have q14 : (pj_fi G 171 1).toInt = y5.toInt := by rw [show pj_fi G 171 1 = y5 from hy5.symm]
          refine pj_X_ca (vs := [.int v4, .int v3, .int c]) rfl (fun _ => rfl) ⟨Nat.le_of_ble_eq_true rfl, Nat.le_of_ble_eq_true rfl, rfl⟩ ⟨rfl, rfl⟩ (pj_Y_up (by decide) (ct_274 G hI v4 v3 c)) ?_
          rintro _ _ ⟨y15, rfl, rfl, ry15⟩
          show pj_X _ _ G 61 [(0, .ref 171), (1, .int c), (2, .int v2), (3, .int v3), (4, .int v4)] [.int y15] _
          cases b16 : pj_c1 .eq y15 0 with
          | true =>
            have ub16 := pj_u0_eqT b16
            refine pj_X_of (fun r h => pj_R_ifT 84 rfl rfl b16 h) ?_
            refine pj_X_of (fun r h => pj_R_to (G, 87, [(4, .int (v4 + Int32.ofInt 1)), (0, .ref 171), (1, .int c), (2, .int v2), (3, .int v3)], [], 0, 0) 87 2 (fun _ => rfl) h) ?_
            obtain ⟨z17, hz17⟩ : ∃ z : Int32, z = v4 + Int32.ofInt 1 := ⟨_, rfl⟩
            rw [← hz17]
            have fz17_0 : z17.toInt = v4.toInt + (Int32.ofInt 1).toInt := by rw [hz17]; exact pj_addI (by have := pj_i32 v4; have := pj_i32 (Int32.ofInt 1); omega) (by have := pj_i32 v4; have := pj_i32 (Int32.ofInt 1); omega)
            refine pj_X_of (fun r h => pj_R_to (G, 37, [(4, .int z17), (0, .ref 171), (1, .int c), (2, .int v2), (3, .int v3)], [], 0, 0) 37 2 (fun _ => rfl) h) ?_
            have q18 : (pj_fi G 171 1).toInt = y5.toInt := by rw [show pj_fi G 171 1 = y5 from hy5.symm]
            exact pj_X_sub [(0, .ref 171), (1, .int c), (2, .int v2), (3, .int v3), (4, .int z17)] (show List.Nodup [0, 1, 2, 3, 4] by decide) ⟨rfl, rfl, rfl, rfl, rfl, trivial⟩ (ih.2 G hI hK v2 v3 z17 ⟨by omega, by omega⟩ ⟨by omega, by omega⟩ ⟨by omega, by omega⟩ (by omega) (by omega) (by omega) (by omega))
          | false =>
            have ub16 := pj_u0_eqF b16
            refine pj_X_of (fun r h => pj_R_ifF rfl b16 h) ?_
            refine pj_X_of (fun r h => pj_R_to (G, 65, [(0, .ref 171), (1, .int c), (2, .int v2), (3, .int v3), (4, .int v4)], [.int v2], 0, 0) 65 2 (fun _ => rfl) h) ?_
            cases b19 : pj_c1 .ne v2 0 with
            | true =>
              have ub19 := pj_u0_neT b19
              refine pj_X_of (fun r h => pj_R_ifT 81 rfl rfl b19 h) ?_
              refine pj_X_of (fun r h => pj_R_to (G, 84, [(2, .int (v2 + Int32.ofInt 1)), (0, .ref 171), (1, .int c), (3, .int v3), (4, .int v4)], [], 0, 0) 84 2 (fun _ => rfl) h) ?_
              obtain ⟨z20, hz20⟩ : ∃ z : Int32, z = v2 + Int32.ofInt 1 := ⟨_, rfl⟩
              rw [← hz20]
              have fz20_0 : z20.toInt = v2.toInt + (Int32.ofInt 1).toInt := by rw [hz20]; exact pj_addI (by have := pj_i32 v2; have := pj_i32 (Int32.ofInt 1); omega) (by have := pj_i32 v2; have := pj_i32 (Int32.ofInt 1); omega)
              refine pj_X_of (fun r h => pj_R_to (G, 87, [(4, .int (v4 + Int32.ofInt 1)), (2, .int z20), (0, .ref 171), (1, .int c), (3, .int v3)], [], 0, 0) 87 2 (fun _ => rfl) h) ?_
              obtain ⟨z21, hz21⟩ : ∃ z : Int32, z = v4 + Int32.ofInt 1 := ⟨_, rfl⟩
              rw [← hz21]
              have fz21_0 : z21.toInt = v4.toInt + (Int32.ofInt 1).toInt := by rw [hz21]; exact pj_addI (by have := pj_i32 v4; have := pj_i32 (Int32.ofInt 1); omega) (by have := pj_i32 v4; have := pj_i32 (Int32.ofInt 1); omega)
              refine pj_X_of (fun r h => pj_R_to (G, 37, [(4, .int z21), (2, .int z20), (0, .ref 171), (1, .int c), (3, .int v3)], [], 0, 0) 37 2 (fun _ => rfl) h) ?_
              have q22 : (pj_fi G 171 1).toInt = y5.toInt := by rw [show pj_fi G 171 1 = y5 from hy5.symm]
              exact pj_X_sub [(0, .ref 171), (1, .int c), (2, .int z20), (3, .int v3), (4, .int z21)] (show List.Nodup [0, 1, 2, 3, 4] by decide) ⟨rfl, rfl, rfl, rfl, rfl, trivial⟩ (ih.2 G hI hK z20 v3 z21 ⟨by omega, by omega⟩ ⟨by omega, by omega⟩ ⟨by omega, by omega⟩ (by omega) (by omega) (by omega) (by omega))
            | false =>
              have ub19 := pj_u0_neF b19
              refine pj_X_of (fun r h => pj_R_ifF rfl b19 h) ?_
              refine pj_X_of (fun r h => pj_R_to (G, 71, [(0, .ref 171), (1, .int c), (2, .int v2), (3, .int v3), (4, .int v4)], [.long v3.toInt64, .ref 171], 0, 0) 71 4 (fun _ => rfl) h) ?_
              have q23 : (pj_fi G 171 1).toInt = y5.toInt := by rw [show pj_fi G 171 1 = y5 from hy5.symm]
              have lc24 : (v3.toInt64).toInt = v3.toInt := Int32.toInt_toInt64 _
              refine pj_X_ca (vs := [.ref 171, .long v3.toInt64]) rfl (fun _ => rfl) ⟨Nat.le_of_ble_eq_true rfl, Nat.le_of_ble_eq_true rfl, pj_T_rcv hI rfl⟩ ⟨rfl, rfl⟩ (pj_Y_up (by decide) (ct_174x G hI v3.toInt64 (by omega))) ?_
              rintro _ G26 ⟨rfl, iG26, jG26, eG26, fy25⟩
              replace eG26 := eG26 _ rfl
              have kG26 : pj_kpt kc_275 G0 G26 := pj_kpt_t hK (pj_kpt_s jG26 rfl)
              obtain ⟨y27, hy27⟩ : ∃ z : Int32, z = pj_fi G26 171 1 := ⟨_, rfl⟩
              have ey27 : (pj_fi G26 171 1).toInt = y27.toInt := by rw [hy27]
              have ry27 : (0 : Int) ≤ y27.toInt ∧ y27.toInt ≤ 24 := by rw [hy27]; exact iG26.2.1 171 1 (0, 24) rfl
              show pj_X _ _ G26 74 [(0, .ref 171), (1, .int c), (2, .int v2), (3, .int v3), (4, .int v4)] [] _
              refine pj_X_of (fun r h => pj_R_to (G26, 78, [(0, .ref 171), (1, .int c), (2, .int v2), (3, .int v3), (4, .int v4)], [.long v4.toInt64, .ref 171], 0, 0) 78 4 (fun _ => rfl) h) ?_
              have q28 : (pj_fi G26 171 1).toInt = y27.toInt := by rw [show pj_fi G26 171 1 = y27 from hy27.symm]
              have lc29 : (v4.toInt64).toInt = v4.toInt := Int32.toInt_toInt64 _
              refine pj_X_ca (vs := [.ref 171, .long v4.toInt64]) rfl (fun _ => rfl) ⟨Nat.le_of_ble_eq_true rfl, Nat.le_of_ble_eq_true rfl, pj_T_rcv iG26 rfl⟩ ⟨rfl, rfl⟩ (pj_Y_up (by decide) (ct_174x G26 iG26 v4.toInt64 (by omega))) ?_
              rintro _ G31 ⟨rfl, iG31, jG31, eG31, fy30⟩
              replace eG31 := eG31 _ rfl
              have kG31 : pj_kpt kc_275 G0 G31 := pj_kpt_t kG26 (pj_kpt_s jG31 rfl)
              obtain ⟨y32, hy32⟩ : ∃ z : Int32, z = pj_fi G31 171 1 := ⟨_, rfl⟩
              have ey32 : (pj_fi G31 171 1).toInt = y32.toInt := by rw [hy32]
              have ry32 : (0 : Int) ≤ y32.toInt ∧ y32.toInt ≤ 24 := by rw [hy32]; exact iG31.2.1 171 1 (0, 24) rfl
              show pj_X _ _ G31 81 [(0, .ref 171), (1, .int c), (2, .int v2), (3, .int v3), (4, .int v4)] [] _
              refine pj_X_of (fun r h => pj_R_to (G31, 84, [(2, .int (v2 + Int32.ofInt 1)), (0, .ref 171), (1, .int c), (3, .int v3), (4, .int v4)], [], 0, 0) 84 2 (fun _ => rfl) h) ?_
              obtain ⟨z33, hz33⟩ : ∃ z : Int32, z = v2 + Int32.ofInt 1 := ⟨_, rfl⟩
              rw [← hz33]
              have fz33_0 : z33.toInt = v2.toInt + (Int32.ofInt 1).toInt := by rw [hz33]; exact pj_addI (by have := pj_i32 v2; have := pj_i32 (Int32.ofInt 1); omega) (by have := pj_i32 v2; have := pj_i32 (Int32.ofInt 1); omega)
              refine pj_X_of (fun r h => pj_R_to (G31, 87, [(4, .int (v4 + Int32.ofInt 1)), (2, .int z33), (0, .ref 171), (1, .int c), (3, .int v3)], [], 0, 0) 87 2 (fun _ => rfl) h) ?_
              obtain ⟨z34, hz34⟩ : ∃ z : Int32, z = v4 + Int32.ofInt 1 := ⟨_, rfl⟩
              rw [← hz34]
              have fz34_0 : z34.toInt = v4.toInt + (Int32.ofInt 1).toInt := by rw [hz34]; exact pj_addI (by have := pj_i32 v4; have := pj_i32 (Int32.ofInt 1); omega) (by have := pj_i32 v4; have := pj_i32 (Int32.ofInt 1); omega)
              refine pj_X_of (fun r h => pj_R_to (G31, 37, [(4, .int z34), (2, .int z33), (0, .ref 171), (1, .int c), (3, .int v3)], [], 0, 0) 37 2 (fun _ => rfl) h) ?_
              have q35 : (pj_fi G31 171 1).toInt = y32.toInt := by rw [show pj_fi G31 171 1 = y32 from hy32.symm]
              exact pj_X_sub [(0, .ref 171), (1, .int c), (2, .int z33), (3, .int v3), (4, .int z34)] (show List.Nodup [0, 1, 2, 3, 4] by decide) ⟨rfl, rfl, rfl, rfl, rfl, trivial⟩ (ih.2 G31 iG31 kG31 z33 v3 z34 ⟨by omega, by omega⟩ ⟨by omega, by omega⟩ ⟨by omega, by omega⟩ (by omega) (by omega) (by omega) (by omega))
theorem ct_275 (G0 : pj_G) (hI : pj_Inv G0) (c : Int32) : pj_Y 3 275 [.ref 171, .int c] G0 (fun v G' => ∃ y : Int32, v = some (.int y) ∧ pj_Inv G' ∧ pj_kpt kc_275 G0 G' ∧ ((-2147483648 : Int) ≤ y.toInt ∧ y.toInt ≤ 2147483647)) := by
  have c0_ : ((Int8.ofInt 9).toInt32).toInt = 9 := by decide
  have c1_ : (Int32.ofInt (-1)).toInt = -1 := by decide
  have c2_ : (Int32.ofInt 0).toInt = 0 := by decide
  have c3_ : (Int32.ofInt 1).toInt = 1 := by decide
  refine pj_Y_X (M := pj_m275) rfl rfl (Nat.le_of_ble_eq_true rfl) ?_
  have hK : pj_kpt kc_275 G0 G0 := pj_kpt_r _ _
  show pj_X _ _ G0 0 [(0, .ref 171), (1, .int c)] [] _
  obtain ⟨y36, hy36⟩ : ∃ z : Int32, z = pj_fi G0 171 1 := ⟨_, rfl⟩
  have ey36 : (pj_fi G0 171 1).toInt = y36.toInt := by rw [hy36]
  have ry36 : (0 : Int) ≤ y36.toInt ∧ y36.toInt ≤ 24 := by rw [hy36]; exact hI.2.1 171 1 (0, 24) rfl
  refine pj_X_of (fun r h => pj_R_to (G0, 2, [(0, .ref 171), (1, .int c)], [.int (Int32.ofInt 0), .ref 171], 0, 0) 2 3 (fun _ => rfl) h) ?_
  refine pj_X_of (fun r h => pj_T_pf hI rfl rfl rfl h) ?_
  show pj_X _ _ (pj_wv G0 171 0 (.int (Int32.ofInt 0))) 5 [(0, .ref 171), (1, .int c)] [] _
  obtain ⟨G37, hG37⟩ : ∃ H, H = pj_wv G0 171 0 (.int (Int32.ofInt 0)) := ⟨_, rfl⟩
  have iG37 : pj_Inv G37 := by rw [hG37]; exact pj_Inv_wi hI (ci := 12) rfl (fun q hq => by cases hq)
  have kG37 : pj_kpt kc_275 G0 G37 := by rw [hG37]; exact pj_kpt_v hK rfl
  rw [← hG37]
  refine pj_X_of (fun r h => pj_R_to (G37, 11, [(0, .ref 171), (1, .int c)], [.long (Int64.ofInt 9), .long (Int64.ofNat 0), .long c.toInt64], 0, 0) 11 5 (fun _ => rfl) h) ?_
  have q38 : (pj_fi G37 171 1).toInt = y36.toInt := by rw [show pj_fi G37 171 1 = y36 from by rw [hG37, pj_fi_wv_ne _ _ _ _ _ _ (by decide)]; exact hy36.symm]
  have lc39 : (c.toInt64).toInt = c.toInt := Int32.toInt_toInt64 _
  have lc40 : (Int64.ofNat 0).toInt = 0 := by decide
  have lc41 : (Int64.ofInt 9).toInt = 9 := by decide
  refine pj_X_ca (vs := [.long c.toInt64, .long (Int64.ofNat 0), .long (Int64.ofInt 9)]) rfl (fun _ => rfl) ⟨Nat.le_of_ble_eq_true rfl, Nat.le_of_ble_eq_true rfl, rfl⟩ ⟨rfl, rfl⟩ (pj_Y_up (by decide) (ct_170x G37 iG37 c.toInt64 (Int64.ofNat 0) (Int64.ofInt 9))) ?_
  rintro _ _ ⟨y42, rfl, rfl, ry42, ey42, fy42⟩
  show pj_X _ _ G37 14 [(0, .ref 171), (1, .int c)] [.int y42] _
  cases b43 : pj_c1 .ne y42 0 with
  | true =>
    have ub43 := pj_u0_neT b43
    refine pj_X_of (fun r h => pj_R_ifT 19 rfl rfl b43 h) ?_
    refine pj_X_of (fun r h => pj_R_to (G37, 23, [(2, .int (Int32.ofInt 0)), (0, .ref 171), (1, .int c)], [.int (Int32.ofInt 0), .ref 171], 0, 0) 23 5 (fun _ => rfl) h) ?_
    refine pj_X_of (fun r h => pj_T_pf iG37 rfl rfl rfl h) ?_
    show pj_X _ _ (pj_wv G37 171 1 (.int (Int32.ofInt 0))) 26 [(2, .int (Int32.ofInt 0)), (0, .ref 171), (1, .int c)] [] _
    obtain ⟨G44, hG44⟩ : ∃ H, H = pj_wv G37 171 1 (.int (Int32.ofInt 0)) := ⟨_, rfl⟩
    have iG44 : pj_Inv G44 := by rw [hG44]; exact pj_Inv_wi iG37 (ci := 12) rfl (fun q hq => by cases hq; exact ⟨by show (0 : Int) ≤ _; omega, by show _ ≤ (24 : Int); omega⟩)
    have kG44 : pj_kpt kc_275 G0 G44 := by rw [hG44]; exact pj_kpt_v kG37 rfl
    rw [← hG44]
    refine pj_X_of (fun r h => pj_R_to (G44, 28, [(3, .int (Int32.ofInt 1)), (2, .int (Int32.ofInt 0)), (0, .ref 171), (1, .int c)], [], 0, 0) 28 3 (fun _ => rfl) h) ?_
    have q45 : (pj_fi G44 171 1).toInt = (Int32.ofInt 0).toInt := by rw [show pj_fi G44 171 1 = Int32.ofInt 0 from by rw [hG44]; exact pj_fi_wi iG37.1 (ci := 12) rfl _]
    exact pj_X_sub [(0, .ref 171), (1, .int c), (2, .int (Int32.ofInt 0)), (3, .int (Int32.ofInt 1))] (show List.Nodup [0, 1, 2, 3] by decide) ⟨rfl, rfl, rfl, rfl, trivial⟩ ((lp_ct_275 G0 hI c  401).1 G44 iG44 kG44 (Int32.ofInt 0) (Int32.ofInt 1) ⟨by omega, by omega⟩ ⟨by omega, by omega⟩ (by omega) (by omega) (by omega) (by omega))
  | false =>
    have ub43 := pj_u0_neF b43
    refine pj_X_of (fun r h => pj_R_ifF rfl b43 h) ?_
    refine pj_X_of (fun r h => pj_R_to (G37, 18, [(0, .ref 171), (1, .int c)], [.int (Int32.ofInt (-1))], 0, 0) 18 2 (fun _ => rfl) h) ?_
    have q46 : (pj_fi G37 171 1).toInt = y36.toInt := by rw [show pj_fi G37 171 1 = y36 from by rw [hG37, pj_fi_wv_ne _ _ _ _ _ _ (by decide)]; exact hy36.symm]
    exact pj_X_rt rfl rfl ⟨_, rfl, iG37, kG37, pj_i32 _⟩
def kc_276 : pj_KT := ([], [184, 185], [184, 185])
theorem ct_276 (G0 : pj_G) (hI : pj_Inv G0) (b : Int32) (rb : (0 : Int) ≤ b.toInt ∧ b.toInt ≤ 5) (p0_ : pj_RI G0) : pj_Y 6 276 [.ref 171, .int b] G0 (fun v G' => ∃ y : Int32, v = some (.int y) ∧ pj_Inv G' ∧ pj_kpt kc_276 G0 G' ∧ ((-2147483648 : Int) ≤ y.toInt ∧ y.toInt ≤ 2147483647)) := by
  have c0_ : ((Int8.ofInt 30).toInt32).toInt = 30 := by decide
  have c1_ : (Int32.ofInt (-1)).toInt = -1 := by decide
  have c2_ : (Int32.ofInt 0).toInt = 0 := by decide
  have c3_ : (Int32.ofInt 1).toInt = 1 := by decide
  have c4_ : (Int32.ofInt 1000000).toInt = 1000000 := by decide
  have c5_ : (Int32.ofInt 4).toInt = 4 := by decide
  refine pj_Y_X (M := pj_m276) rfl rfl (Nat.le_of_ble_eq_true rfl) ?_
  have hK : pj_kpt kc_276 G0 G0 := pj_kpt_r _ _
  show pj_X _ _ G0 0 [(0, .ref 171), (1, .int b)] [] _
  refine pj_X_of (fun r h => pj_R_to (G0, 1, [(0, .ref 171), (1, .int b)], [.ref 171], 0, 0) 1 2 (fun _ => rfl) h) ?_
  refine pj_X_of (fun r h => pj_T_gr hI rfl rfl rfl h) ?_
  refine pj_X_of (fun r h => pj_R_to (G0, 7, [(0, .ref 171), (1, .int b)], [.int ((Int32.ofInt 4) * b), .ref 179], 0, 0) 7 4 (fun _ => rfl) h) ?_
  obtain ⟨z1, hz1⟩ : ∃ z : Int32, z = (Int32.ofInt 4) * b := ⟨_, rfl⟩
  refine pj_X_eqi hz1.symm ?_
  have fz1_0 : z1.toInt = 4 * b.toInt := by rw [hz1]; exact pj_mulL (by decide) (by omega) (by omega)
  refine pj_X_of (fun r h => pj_R_to (G0, 9, [(0, .ref 171), (1, .int b)], [.int (z1 + (Int32.ofInt 0)), .ref 179], 0, 0) 9 3 (fun _ => rfl) h) ?_
  obtain ⟨z2, hz2⟩ : ∃ z : Int32, z = z1 + (Int32.ofInt 0) := ⟨_, rfl⟩
  refine pj_X_eqi hz2.symm ?_
  have fz2_0 : z2.toInt = z1.toInt + (Int32.ofInt 0).toInt := by rw [hz2]; exact pj_addI (by have := pj_i32 z1; have := pj_i32 (Int32.ofInt 0); omega) (by have := pj_i32 z1; have := pj_i32 (Int32.ofInt 0); omega)
  refine pj_X_of (fun r h => pj_T_il hI rfl rfl (by omega) (by omega) h) ?_
  show pj_X _ _ G0 10 [(0, .ref 171), (1, .int b)] [.int (pj_ai G0 179 z2.toInt.toNat)] _
  obtain ⟨z3, hz3⟩ : ∃ z : Int32, z = pj_ai G0 179 z2.toInt.toNat := ⟨_, rfl⟩
  refine pj_X_eqi hz3.symm ?_
  have ez3 : (pj_ai G0 179 z2.toInt.toNat).toInt = z3.toInt := by rw [hz3]
  have fz3_0 : -1 ≤ z3.toInt ∧ z3.toInt ≤ 9 := by rw [hz3]; exact ((hI.2.2.2 179 32 rfl _ (by show _ < 32; omega)).1 (by omega)).1 (by omega)
  refine pj_X_of (fun r h => pj_R_to (G0, 12, [(2, .int z3), (0, .ref 171), (1, .int b)], [.ref 171], 0, 0) 12 3 (fun _ => rfl) h) ?_
  refine pj_X_of (fun r h => pj_T_gr hI rfl rfl rfl h) ?_
  refine pj_X_of (fun r h => pj_R_to (G0, 18, [(2, .int z3), (0, .ref 171), (1, .int b)], [.int ((Int32.ofInt 4) * b), .ref 179], 0, 0) 18 4 (fun _ => rfl) h) ?_
  obtain ⟨z4, hz4⟩ : ∃ z : Int32, z = (Int32.ofInt 4) * b := ⟨_, rfl⟩
  refine pj_X_eqi hz4.symm ?_
  have fz4_0 : z4.toInt = 4 * b.toInt := by rw [hz4]; exact pj_mulL (by decide) (by omega) (by omega)
  refine pj_X_of (fun r h => pj_R_to (G0, 20, [(2, .int z3), (0, .ref 171), (1, .int b)], [.int (z4 + (Int32.ofInt 1)), .ref 179], 0, 0) 20 3 (fun _ => rfl) h) ?_
  obtain ⟨z5, hz5⟩ : ∃ z : Int32, z = z4 + (Int32.ofInt 1) := ⟨_, rfl⟩
  refine pj_X_eqi hz5.symm ?_
  have fz5_0 : z5.toInt = z4.toInt + (Int32.ofInt 1).toInt := by rw [hz5]; exact pj_addI (by have := pj_i32 z4; have := pj_i32 (Int32.ofInt 1); omega) (by have := pj_i32 z4; have := pj_i32 (Int32.ofInt 1); omega)
  refine pj_X_of (fun r h => pj_T_il hI rfl rfl (by omega) (by omega) h) ?_
  show pj_X _ _ G0 21 [(2, .int z3), (0, .ref 171), (1, .int b)] [.int (pj_ai G0 179 z5.toInt.toNat)] _
  obtain ⟨z6, hz6⟩ : ∃ z : Int32, z = pj_ai G0 179 z5.toInt.toNat := ⟨_, rfl⟩
  refine pj_X_eqi hz6.symm ?_
  have ez6 : (pj_ai G0 179 z5.toInt.toNat).toInt = z6.toInt := by rw [hz6]
  have fz6_0 : 0 ≤ z6.toInt := by rw [hz6]; exact ((hI.2.2.2 179 32 rfl _ (by show _ < 32; omega)).1 (by omega)).2 (by omega)
  refine pj_X_of (fun r h => pj_R_to (G0, 23, [(3, .int z6), (2, .int z3), (0, .ref 171), (1, .int b)], [.int z3], 0, 0) 23 3 (fun _ => rfl) h) ?_
  cases b7 : pj_c1 .ge z3 0 with
  | true =>
    have ub7 := pj_u0_geT b7
    refine pj_X_of (fun r h => pj_R_ifT 38 rfl rfl b7 h) ?_
    refine pj_X_of (fun r h => pj_R_to (G0, 39, [(3, .int z6), (2, .int z3), (0, .ref 171), (1, .int b)], [.int z6], 0, 0) 39 2 (fun _ => rfl) h) ?_
    cases b8 : pj_c1 .le z6 0 with
    | true =>
      have ub8 := pj_u0_leT b8
      refine pj_X_of (fun r h => pj_R_ifT 48 rfl rfl b8 h) ?_
      refine pj_X_of (fun r h => pj_R_to (G0, 49, [(3, .int z6), (2, .int z3), (0, .ref 171), (1, .int b)], [.ref 171], 0, 0) 49 2 (fun _ => rfl) h) ?_
      refine pj_X_of (fun r h => pj_T_gr hI rfl rfl rfl h) ?_
      refine pj_X_of (fun r h => pj_R_to (G0, 54, [(3, .int z6), (2, .int z3), (0, .ref 171), (1, .int b)], [.int ((Int8.ofInt 30).toInt32), .ref 179], 0, 0) 54 2 (fun _ => rfl) h) ?_
      refine pj_X_of (fun r h => pj_T_il hI rfl rfl (by omega) (by omega) h) ?_
      show pj_X _ _ G0 55 [(3, .int z6), (2, .int z3), (0, .ref 171), (1, .int b)] [.int (pj_ai G0 179 ((Int8.ofInt 30).toInt32).toInt.toNat)] _
      obtain ⟨z9, hz9⟩ : ∃ z : Int32, z = pj_ai G0 179 ((Int8.ofInt 30).toInt32).toInt.toNat := ⟨_, rfl⟩
      refine pj_X_eqi hz9.symm ?_
      have ez9 : (pj_ai G0 179 ((Int8.ofInt 30).toInt32).toInt.toNat).toInt = z9.toInt := by rw [hz9]
      refine pj_X_of (fun r h => pj_R_to (G0, 58, [(3, .int z6), (2, .int z3), (0, .ref 171), (1, .int b)], [.int (Int32.ofInt (-1)), .int b, .ref 171, .int z9], 0, 0) 58 4 (fun _ => rfl) h) ?_
      refine pj_X_ca (vs := [.ref 171, .int b, .int (Int32.ofInt (-1))]) rfl (fun _ => rfl) ⟨Nat.le_of_ble_eq_true rfl, Nat.le_of_ble_eq_true rfl, pj_T_rcv hI rfl⟩ ⟨rfl, rfl⟩ (pj_Y_up (by decide) (ct_204x G0 hI b (Int32.ofInt (-1)) ⟨by omega, by omega⟩ ⟨by omega, by omega⟩ (pj_RI_k p0_ hK rfl))) ?_
      rintro _ G11 ⟨y10, rfl, iG11, jG11, ry10, fy10⟩
      have kG11 : pj_kpt kc_276 G0 G11 := pj_kpt_t hK (pj_kpt_s jG11 rfl)
      show pj_X _ _ G11 61 [(3, .int z6), (2, .int z3), (0, .ref 171), (1, .int b)] [.int y10, .int z9] _
      refine pj_X_of (fun r h => pj_R_to (G11, 62, [(3, .int z6), (2, .int z3), (0, .ref 171), (1, .int b)], [.int (z9 + y10)], 0, 0) 62 2 (fun _ => rfl) h) ?_
      obtain ⟨z12, hz12⟩ : ∃ z : Int32, z = z9 + y10 := ⟨_, rfl⟩
      refine pj_X_eqi hz12.symm ?_
      exact pj_X_rt rfl rfl ⟨_, rfl, iG11, kG11, pj_i32 _⟩
    | false =>
      have ub8 := pj_u0_leF b8
      refine pj_X_of (fun r h => pj_R_ifF rfl b8 h) ?_
      refine pj_X_of (fun r h => pj_R_to (G0, 62, [(3, .int z6), (2, .int z3), (0, .ref 171), (1, .int b)], [.int (Int32.ofInt 1000000)], 0, 0) 62 3 (fun _ => rfl) h) ?_
      exact pj_X_rt rfl rfl ⟨_, rfl, hI, hK, pj_i32 _⟩
  | false =>
    have ub7 := pj_u0_geF b7
    refine pj_X_of (fun r h => pj_R_ifF rfl b7 h) ?_
    refine pj_X_of (fun r h => pj_R_to (G0, 27, [(3, .int z6), (2, .int z3), (0, .ref 171), (1, .int b)], [.ref 171], 0, 0) 27 2 (fun _ => rfl) h) ?_
    refine pj_X_of (fun r h => pj_T_gr hI rfl rfl rfl h) ?_
    refine pj_X_of (fun r h => pj_R_to (G0, 32, [(3, .int z6), (2, .int z3), (0, .ref 171), (1, .int b)], [.int ((Int8.ofInt 30).toInt32), .ref 179], 0, 0) 32 2 (fun _ => rfl) h) ?_
    refine pj_X_of (fun r h => pj_T_il hI rfl rfl (by omega) (by omega) h) ?_
    show pj_X _ _ G0 33 [(3, .int z6), (2, .int z3), (0, .ref 171), (1, .int b)] [.int (pj_ai G0 179 ((Int8.ofInt 30).toInt32).toInt.toNat)] _
    obtain ⟨z13, hz13⟩ : ∃ z : Int32, z = pj_ai G0 179 ((Int8.ofInt 30).toInt32).toInt.toNat := ⟨_, rfl⟩
    refine pj_X_eqi hz13.symm ?_
    have ez13 : (pj_ai G0 179 ((Int8.ofInt 30).toInt32).toInt.toNat).toInt = z13.toInt := by rw [hz13]
    refine pj_X_of (fun r h => pj_R_to (G0, 35, [(3, .int z6), (2, .int z3), (0, .ref 171), (1, .int b)], [.int (z13 + z6)], 0, 0) 35 3 (fun _ => rfl) h) ?_
    obtain ⟨z14, hz14⟩ : ∃ z : Int32, z = z13 + z6 := ⟨_, rfl⟩
    refine pj_X_eqi hz14.symm ?_
    refine pj_X_of (fun r h => pj_R_to (G0, 62, [(3, .int z6), (2, .int z3), (0, .ref 171), (1, .int b)], [.int z14], 0, 0) 62 2 (fun _ => rfl) h) ?_
    exact pj_X_rt rfl rfl ⟨_, rfl, hI, hK, pj_i32 _⟩
def kc_277 : pj_KT := ([(171, 0), (171, 1)], [171, 172, 184, 185], [184, 185])
theorem lp_ct_277 (G0 : pj_G) (hI0 : pj_Inv G0) (p0_ : pj_RI G0) : ∀ mn : Nat, (∀ (G : pj_G) (hI : pj_Inv G) (hK : pj_kpt kc_277 G0 G) (v1 : Int32) (v2 : Int32) (v3 : Int32), ((-2147483648 : Int) ≤ v1.toInt ∧ v1.toInt ≤ 2147483647) → ((-2147483648 : Int) ≤ v2.toInt ∧ v2.toInt ≤ 2147483647) → ((0 : Int) ≤ v3.toInt ∧ v3.toInt ≤ 6) → 6 - v3.toInt < (mn : Int) → pj_X 6 pj_m277 G 17 [(0, .ref 171), (1, .int v1), (2, .int v2), (3, .int v3)] [] (fun v G' => ∃ y : Int32, v = some (.int y) ∧ pj_Inv G' ∧ pj_kpt kc_277 G0 G' ∧ ((-2147483648 : Int) ≤ y.toInt ∧ y.toInt ≤ 2147483647))) := by
  have c0_ : ((Int8.ofInt 30).toInt32).toInt = 30 := by decide
  have c1_ : (Int32.ofInt 0).toInt = 0 := by decide
  have c2_ : (Int32.ofInt 1).toInt = 1 := by decide
  have c3_ : (Int32.ofInt 2).toInt = 2 := by decide
  have c4_ : (Int32.ofInt 4).toInt = 4 := by decide
  intro mn
  induction mn with
  | zero =>
    intro G hI hK v1 v2 v3 rv1 rv2 rv3 hm
    exfalso
    omega
  | succ mn ih =>
    intro G hI hK v1 v2 v3 rv1 rv2 rv3 hm
    obtain ⟨y1, hy1⟩ : ∃ z : Int32, z = pj_fi G 171 1 := ⟨_, rfl⟩
    have ey1 : (pj_fi G 171 1).toInt = y1.toInt := by rw [hy1]
    have ry1 : (0 : Int) ≤ y1.toInt ∧ y1.toInt ≤ 24 := by rw [hy1]; exact hI.2.1 171 1 (0, 24) rfl
    refine pj_X_of (fun r h => pj_R_to (G, 19, [(0, .ref 171), (1, .int v1), (2, .int v2), (3, .int v3)], [.ref 171, .int v3], 0, 0) 19 3 (fun _ => rfl) h) ?_
    refine pj_X_of (fun r h => pj_T_gi hI rfl rfl h) ?_
    show pj_X _ _ G 22 [(0, .ref 171), (1, .int v1), (2, .int v2), (3, .int v3)] [.int (pj_fi G 171 5), .int v3] _
    obtain ⟨y2, hy2⟩ : ∃ z : Int32, z = pj_fi G 171 5 := ⟨_, rfl⟩
    refine pj_X_eqi hy2.symm ?_
    have ey2 : (pj_fi G 171 5).toInt = y2.toInt := by rw [hy2]
    have ry2 : (0 : Int) ≤ y2.toInt ∧ y2.toInt ≤ 6 := by rw [hy2]; exact hI.2.1 171 5 (0, 6) rfl
    cases b3 : pj_c1 .ge v3 y2 with
    | true =>
      have ub3 := pj_u_geT b3
      refine pj_X_of (fun r h => pj_R_icT 104 rfl rfl b3 h) ?_
      refine pj_X_of (fun r h => pj_R_to (G, 106, [(0, .ref 171), (1, .int v1), (2, .int v2), (3, .int v3)], [.int (Int32.ofInt 0), .ref 171], 0, 0) 106 3 (fun _ => rfl) h) ?_
      refine pj_X_of (fun r h => pj_T_pf hI rfl rfl rfl h) ?_
      show pj_X _ _ (pj_wv G 171 1 (.int (Int32.ofInt 0))) 109 [(0, .ref 171), (1, .int v1), (2, .int v2), (3, .int v3)] [] _
      obtain ⟨G4, hG4⟩ : ∃ H, H = pj_wv G 171 1 (.int (Int32.ofInt 0)) := ⟨_, rfl⟩
      have iG4 : pj_Inv G4 := by rw [hG4]; exact pj_Inv_wi hI (ci := 12) rfl (fun q hq => by cases hq; exact ⟨by show (0 : Int) ≤ _; omega, by show _ ≤ (24 : Int); omega⟩)
      have kG4 : pj_kpt kc_277 G0 G4 := by rw [hG4]; exact pj_kpt_v hK rfl
      rw [← hG4]
      refine pj_X_of (fun r h => pj_R_to (G4, 112, [(0, .ref 171), (1, .int v1), (2, .int v2), (3, .int v3)], [.long v2.toInt64, .ref 171], 0, 0) 112 4 (fun _ => rfl) h) ?_
      have q5 : (pj_fi G4 171 1).toInt = (Int32.ofInt 0).toInt := by rw [show pj_fi G4 171 1 = Int32.ofInt 0 from by rw [hG4]; exact pj_fi_wi hI.1 (ci := 12) rfl _]
      have lc6 : (v2.toInt64).toInt = v2.toInt := Int32.toInt_toInt64 _
      refine pj_X_ca (vs := [.ref 171, .long v2.toInt64]) rfl (fun _ => rfl) ⟨Nat.le_of_ble_eq_true rfl, Nat.le_of_ble_eq_true rfl, pj_T_rcv iG4 rfl⟩ ⟨rfl, rfl⟩ (pj_Y_up (by decide) (ct_174x G4 iG4 v2.toInt64 (by omega))) ?_
      rintro _ G8 ⟨rfl, iG8, jG8, eG8, fy7⟩
      replace eG8 := eG8 _ rfl
      have kG8 : pj_kpt kc_277 G0 G8 := pj_kpt_t kG4 (pj_kpt_s jG8 rfl)
      obtain ⟨y9, hy9⟩ : ∃ z : Int32, z = pj_fi G8 171 1 := ⟨_, rfl⟩
      have ey9 : (pj_fi G8 171 1).toInt = y9.toInt := by rw [hy9]
      have ry9 : (0 : Int) ≤ y9.toInt ∧ y9.toInt ≤ 24 := by rw [hy9]; exact iG8.2.1 171 1 (0, 24) rfl
      show pj_X _ _ G8 115 [(0, .ref 171), (1, .int v1), (2, .int v2), (3, .int v3)] [] _
      refine pj_X_of (fun r h => pj_R_to (G8, 116, [(0, .ref 171), (1, .int v1), (2, .int v2), (3, .int v3)], [.int v1], 0, 0) 116 2 (fun _ => rfl) h) ?_
      have q10 : (pj_fi G8 171 1).toInt = y9.toInt := by rw [show pj_fi G8 171 1 = y9 from hy9.symm]
      exact pj_X_rt rfl rfl ⟨_, rfl, iG8, kG8, pj_i32 _⟩
    | false =>
      have ub3 := pj_u_geF b3
      refine pj_X_of (fun r h => pj_R_icF rfl b3 h) ?_
      refine pj_X_of (fun r h => pj_R_to (G, 26, [(0, .ref 171), (1, .int v1), (2, .int v2), (3, .int v3)], [.ref 171], 0, 0) 26 2 (fun _ => rfl) h) ?_
      refine pj_X_of (fun r h => pj_T_gr hI rfl rfl rfl h) ?_
      refine pj_X_of (fun r h => pj_R_to (G, 32, [(0, .ref 171), (1, .int v1), (2, .int v2), (3, .int v3)], [.int ((Int32.ofInt 4) * v3), .ref 179], 0, 0) 32 4 (fun _ => rfl) h) ?_
      obtain ⟨z11, hz11⟩ : ∃ z : Int32, z = (Int32.ofInt 4) * v3 := ⟨_, rfl⟩
      refine pj_X_eqi hz11.symm ?_
      have fz11_0 : z11.toInt = 4 * v3.toInt := by rw [hz11]; exact pj_mulL (by decide) (by omega) (by omega)
      refine pj_X_of (fun r h => pj_R_to (G, 34, [(0, .ref 171), (1, .int v1), (2, .int v2), (3, .int v3)], [.int (z11 + (Int32.ofInt 2)), .ref 179], 0, 0) 34 3 (fun _ => rfl) h) ?_
      obtain ⟨z12, hz12⟩ : ∃ z : Int32, z = z11 + (Int32.ofInt 2) := ⟨_, rfl⟩
      refine pj_X_eqi hz12.symm ?_
      have fz12_0 : z12.toInt = z11.toInt + (Int32.ofInt 2).toInt := by rw [hz12]; exact pj_addI (by have := pj_i32 z11; have := pj_i32 (Int32.ofInt 2); omega) (by have := pj_i32 z11; have := pj_i32 (Int32.ofInt 2); omega)
      refine pj_X_of (fun r h => pj_T_il hI rfl rfl (by omega) (by omega) h) ?_
      show pj_X _ _ G 35 [(0, .ref 171), (1, .int v1), (2, .int v2), (3, .int v3)] [.int (pj_ai G 179 z12.toInt.toNat)] _
      obtain ⟨z13, hz13⟩ : ∃ z : Int32, z = pj_ai G 179 z12.toInt.toNat := ⟨_, rfl⟩
      refine pj_X_eqi hz13.symm ?_
      have ez13 : (pj_ai G 179 z12.toInt.toNat).toInt = z13.toInt := by rw [hz13]
      cases b14 : pj_c1 .lt z13 0 with
      | true =>
        have ub14 := pj_u0_ltT b14
        refine pj_X_of (fun r h => pj_R_ifT 98 rfl rfl b14 h) ?_
        refine pj_X_of (fun r h => pj_R_to (G, 101, [(3, .int (v3 + Int32.ofInt 1)), (0, .ref 171), (1, .int v1), (2, .int v2)], [], 0, 0) 101 2 (fun _ => rfl) h) ?_
        obtain ⟨z15, hz15⟩ : ∃ z : Int32, z = v3 + Int32.ofInt 1 := ⟨_, rfl⟩
        rw [← hz15]
        have fz15_0 : z15.toInt = v3.toInt + (Int32.ofInt 1).toInt := by rw [hz15]; exact pj_addI (by have := pj_i32 v3; have := pj_i32 (Int32.ofInt 1); omega) (by have := pj_i32 v3; have := pj_i32 (Int32.ofInt 1); omega)
        refine pj_X_of (fun r h => pj_R_to (G, 17, [(3, .int z15), (0, .ref 171), (1, .int v1), (2, .int v2)], [], 0, 0) 17 2 (fun _ => rfl) h) ?_
        have q16 : (pj_fi G 171 1).toInt = y1.toInt := by rw [show pj_fi G 171 1 = y1 from hy1.symm]
        exact pj_X_sub [(0, .ref 171), (1, .int v1), (2, .int v2), (3, .int z15)] (show List.Nodup [0, 1, 2, 3] by decide) ⟨rfl, rfl, rfl, rfl, trivial⟩ (ih G hI hK v1 v2 z15 (pj_i32 _) (pj_i32 _) ⟨by omega, by omega⟩ (by omega))
      | false =>
        have ub14 := pj_u0_ltF b14
        refine pj_X_of (fun r h => pj_R_ifF rfl b14 h) ?_
        refine pj_X_of (fun r h => pj_R_to (G, 40, [(0, .ref 171), (1, .int v1), (2, .int v2), (3, .int v3)], [.int v3, .ref 171], 0, 0) 40 3 (fun _ => rfl) h) ?_
        have q17 : (pj_fi G 171 1).toInt = y1.toInt := by rw [show pj_fi G 171 1 = y1 from hy1.symm]
        refine pj_X_ca (vs := [.ref 171, .int v3]) rfl (fun _ => rfl) ⟨Nat.le_of_ble_eq_true rfl, Nat.le_of_ble_eq_true rfl, pj_T_rcv hI rfl⟩ ⟨rfl, rfl⟩ (pj_Y_up (by decide) (ct_276 G hI v3 ⟨by omega, by omega⟩ (pj_RI_k p0_ hK rfl))) ?_
        rintro _ G19 ⟨y18, rfl, iG19, jG19, ry18⟩
        have kG19 : pj_kpt kc_277 G0 G19 := pj_kpt_t hK (pj_kpt_s jG19 rfl)
        have q20 : (pj_fi G19 171 1).toInt = (pj_fi G 171 1).toInt := by rw [jG19.1 (171, 1) (by decide)]
        obtain ⟨y21, hy21⟩ : ∃ z : Int32, z = pj_fi G19 171 1 := ⟨_, rfl⟩
        have ey21 : (pj_fi G19 171 1).toInt = y21.toInt := by rw [hy21]
        have ry21 : (0 : Int) ≤ y21.toInt ∧ y21.toInt ≤ 24 := by rw [hy21]; exact iG19.2.1 171 1 (0, 24) rfl
        show pj_X _ _ G19 43 [(0, .ref 171), (1, .int v1), (2, .int v2), (3, .int v3)] [.int y18] _
        refine pj_X_of (fun r h => pj_R_to (G19, 48, [(4, .int y18), (0, .ref 171), (1, .int v1), (2, .int v2), (3, .int v3)], [.ref 171, .int y18], 0, 0) 48 4 (fun _ => rfl) h) ?_
        refine pj_X_of (fun r h => pj_T_gr iG19 rfl rfl rfl h) ?_
        refine pj_X_of (fun r h => pj_R_to (G19, 54, [(4, .int y18), (0, .ref 171), (1, .int v1), (2, .int v2), (3, .int v3)], [.int ((Int32.ofInt 4) * v3), .ref 179, .int y18], 0, 0) 54 4 (fun _ => rfl) h) ?_
        obtain ⟨z22, hz22⟩ : ∃ z : Int32, z = (Int32.ofInt 4) * v3 := ⟨_, rfl⟩
        refine pj_X_eqi hz22.symm ?_
        have fz22_0 : z22.toInt = 4 * v3.toInt := by rw [hz22]; exact pj_mulL (by decide) (by omega) (by omega)
        refine pj_X_of (fun r h => pj_R_to (G19, 56, [(4, .int y18), (0, .ref 171), (1, .int v1), (2, .int v2), (3, .int v3)], [.int (z22 + (Int32.ofInt 2)), .ref 179, .int y18], 0, 0) 56 3 (fun _ => rfl) h) ?_
        obtain ⟨z23, hz23⟩ : ∃ z : Int32, z = z22 + (Int32.ofInt 2) := ⟨_, rfl⟩
        refine pj_X_eqi hz23.symm ?_
        have fz23_0 : z23.toInt = z22.toInt + (Int32.ofInt 2).toInt := by rw [hz23]; exact pj_addI (by have := pj_i32 z22; have := pj_i32 (Int32.ofInt 2); omega) (by have := pj_i32 z22; have := pj_i32 (Int32.ofInt 2); omega)
        refine pj_X_of (fun r h => pj_T_il iG19 rfl rfl (by omega) (by omega) h) ?_
        show pj_X _ _ G19 57 [(4, .int y18), (0, .ref 171), (1, .int v1), (2, .int v2), (3, .int v3)] [.int (pj_ai G19 179 z23.toInt.toNat), .int y18] _
        obtain ⟨z24, hz24⟩ : ∃ z : Int32, z = pj_ai G19 179 z23.toInt.toNat := ⟨_, rfl⟩
        refine pj_X_eqi hz24.symm ?_
        have ez24 : (pj_ai G19 179 z23.toInt.toNat).toInt = z24.toInt := by rw [hz24]
        cases b25 : pj_c1 .le y18 z24 with
        | true =>
          have ub25 := pj_u_leT b25
          refine pj_X_of (fun r h => pj_R_icT 64 rfl rfl b25 h) ?_
          refine pj_X_of (fun r h => pj_R_to (G19, 70, [(5, .int (Int32.ofInt 0)), (4, .int y18), (0, .ref 171), (1, .int v1), (2, .int v2), (3, .int v3)], [.int (Int32.ofInt 0), .int v1], 0, 0) 70 5 (fun _ => rfl) h) ?_
          refine pj_X_of (fun r h => pj_R_ifT 79 rfl rfl (pj_b0_eqT (by omega)) h) ?_
          refine pj_X_of (fun r h => pj_R_to (G19, 81, [(5, .int (Int32.ofInt 0)), (4, .int y18), (0, .ref 171), (1, .int v1), (2, .int v2), (3, .int v3)], [.int (v1 ||| (Int32.ofInt 0))], 0, 0) 81 3 (fun _ => rfl) h) ?_
          obtain ⟨z26, hz26⟩ : ∃ z : Int32, z = v1 ||| (Int32.ofInt 0) := ⟨_, rfl⟩
          refine pj_X_eqi hz26.symm ?_
          refine pj_X_of (fun r h => pj_R_to (G19, 84, [(1, .int z26), (5, .int (Int32.ofInt 0)), (4, .int y18), (0, .ref 171), (2, .int v2), (3, .int v3)], [.int (Int32.ofInt 0)], 0, 0) 84 3 (fun _ => rfl) h) ?_
          refine pj_X_of (fun r h => pj_R_ifT 91 rfl rfl (pj_b0_eqT (by omega)) h) ?_
          refine pj_X_of (fun r h => pj_R_to (G19, 94, [(1, .int z26), (5, .int (Int32.ofInt 0)), (4, .int y18), (0, .ref 171), (2, .int v2), (3, .int v3)], [.int y18, .int v2], 0, 0) 94 3 (fun _ => rfl) h) ?_
          refine pj_X_of (fun r h => pj_R_mx (v := (if v2 < y18 then y18 else v2)) rfl rfl rfl (Nat.le_of_ble_eq_true rfl) h) ?_
          show pj_X _ _ G19 97 [(1, .int z26), (5, .int (Int32.ofInt 0)), (4, .int y18), (0, .ref 171), (2, .int v2), (3, .int v3)] [.int (if v2 < y18 then y18 else v2)] _
          obtain ⟨z27, hz27⟩ : ∃ z : Int32, z = (if v2 < y18 then y18 else v2) := ⟨_, rfl⟩
          refine pj_X_eqi hz27.symm ?_
          have fz27_0 : v2.toInt ≤ z27.toInt ∧ y18.toInt ≤ z27.toInt ∧ (z27.toInt = v2.toInt ∨ z27.toInt = y18.toInt) := by rw [hz27]; exact pj_maxI
          refine pj_X_of (fun r h => pj_R_to (G19, 101, [(3, .int (v3 + Int32.ofInt 1)), (2, .int z27), (1, .int z26), (5, .int (Int32.ofInt 0)), (4, .int y18), (0, .ref 171)], [], 0, 0) 101 3 (fun _ => rfl) h) ?_
          obtain ⟨z28, hz28⟩ : ∃ z : Int32, z = v3 + Int32.ofInt 1 := ⟨_, rfl⟩
          rw [← hz28]
          have fz28_0 : z28.toInt = v3.toInt + (Int32.ofInt 1).toInt := by rw [hz28]; exact pj_addI (by have := pj_i32 v3; have := pj_i32 (Int32.ofInt 1); omega) (by have := pj_i32 v3; have := pj_i32 (Int32.ofInt 1); omega)
          refine pj_X_of (fun r h => pj_R_to (G19, 17, [(3, .int z28), (2, .int z27), (1, .int z26), (5, .int (Int32.ofInt 0)), (4, .int y18), (0, .ref 171)], [], 0, 0) 17 2 (fun _ => rfl) h) ?_
          have q29 : (pj_fi G19 171 1).toInt = y21.toInt := by rw [show pj_fi G19 171 1 = y21 from hy21.symm]
          exact pj_X_sub [(0, .ref 171), (1, .int z26), (2, .int z27), (3, .int z28)] (show List.Nodup [0, 1, 2, 3] by decide) ⟨rfl, rfl, rfl, rfl, trivial⟩ (ih G19 iG19 kG19 z26 z27 z28 (pj_i32 _) (pj_i32 _) ⟨by omega, by omega⟩ (by omega))
        | false =>
          have ub25 := pj_u_leF b25
          refine pj_X_of (fun r h => pj_R_icF rfl b25 h) ?_
          refine pj_X_of (fun r h => pj_R_to (G19, 70, [(5, .int (Int32.ofInt 1)), (4, .int y18), (0, .ref 171), (1, .int v1), (2, .int v2), (3, .int v3)], [.int (Int32.ofInt 1), .int v1], 0, 0) 70 6 (fun _ => rfl) h) ?_
          refine pj_X_of (fun r h => pj_R_ifF rfl (pj_b0_eqF (by omega)) h) ?_
          refine pj_X_of (fun r h => pj_R_to (G19, 76, [(5, .int (Int32.ofInt 1)), (4, .int y18), (0, .ref 171), (1, .int v1), (2, .int v2), (3, .int v3)], [.int ((Int32.ofInt 1) <<< (v3 &&& 31)), .int v1], 0, 0) 76 4 (fun _ => rfl) h) ?_
          obtain ⟨z30, hz30⟩ : ∃ z : Int32, z = (Int32.ofInt 1) <<< (v3 &&& 31) := ⟨_, rfl⟩
          refine pj_X_eqi hz30.symm ?_
          have fz30_0 : 1 ≤ z30.toInt ∧ z30.toInt ≤ 32 := by rw [hz30]; exact pj_shlI5 (by omega) (by omega)
          refine pj_X_of (fun r h => pj_R_to (G19, 81, [(5, .int (Int32.ofInt 1)), (4, .int y18), (0, .ref 171), (1, .int v1), (2, .int v2), (3, .int v3)], [.int (v1 ||| z30)], 0, 0) 81 3 (fun _ => rfl) h) ?_
          obtain ⟨z31, hz31⟩ : ∃ z : Int32, z = v1 ||| z30 := ⟨_, rfl⟩
          refine pj_X_eqi hz31.symm ?_
          refine pj_X_of (fun r h => pj_R_to (G19, 84, [(1, .int z31), (5, .int (Int32.ofInt 1)), (4, .int y18), (0, .ref 171), (2, .int v2), (3, .int v3)], [.int (Int32.ofInt 1)], 0, 0) 84 3 (fun _ => rfl) h) ?_
          refine pj_X_of (fun r h => pj_R_ifF rfl (pj_b0_eqF (by omega)) h) ?_
          refine pj_X_of (fun r h => pj_R_to (G19, 101, [(3, .int (v3 + Int32.ofInt 1)), (2, .int v2), (1, .int z31), (5, .int (Int32.ofInt 1)), (4, .int y18), (0, .ref 171)], [], 0, 0) 101 5 (fun _ => rfl) h) ?_
          obtain ⟨z32, hz32⟩ : ∃ z : Int32, z = v3 + Int32.ofInt 1 := ⟨_, rfl⟩
          rw [← hz32]
          have fz32_0 : z32.toInt = v3.toInt + (Int32.ofInt 1).toInt := by rw [hz32]; exact pj_addI (by have := pj_i32 v3; have := pj_i32 (Int32.ofInt 1); omega) (by have := pj_i32 v3; have := pj_i32 (Int32.ofInt 1); omega)
          refine pj_X_of (fun r h => pj_R_to (G19, 17, [(3, .int z32), (2, .int v2), (1, .int z31), (5, .int (Int32.ofInt 1)), (4, .int y18), (0, .ref 171)], [], 0, 0) 17 2 (fun _ => rfl) h) ?_
          have q33 : (pj_fi G19 171 1).toInt = y21.toInt := by rw [show pj_fi G19 171 1 = y21 from hy21.symm]
          exact pj_X_sub [(0, .ref 171), (1, .int z31), (2, .int v2), (3, .int z32)] (show List.Nodup [0, 1, 2, 3] by decide) ⟨rfl, rfl, rfl, rfl, trivial⟩ (ih G19 iG19 kG19 z31 v2 z32 (pj_i32 _) (pj_i32 _) ⟨by omega, by omega⟩ (by omega))
theorem ct_277 (G0 : pj_G) (hI : pj_Inv G0) (p0_ : pj_RI G0) : pj_Y 7 277 [.ref 171] G0 (fun v G' => ∃ y : Int32, v = some (.int y) ∧ pj_Inv G' ∧ pj_kpt kc_277 G0 G' ∧ ((-2147483648 : Int) ≤ y.toInt ∧ y.toInt ≤ 2147483647)) := by
  have c0_ : ((Int8.ofInt 30).toInt32).toInt = 30 := by decide
  have c1_ : (Int32.ofInt 0).toInt = 0 := by decide
  have c2_ : (Int32.ofInt 1).toInt = 1 := by decide
  have c3_ : (Int32.ofInt 2).toInt = 2 := by decide
  have c4_ : (Int32.ofInt 4).toInt = 4 := by decide
  refine pj_Y_X (M := pj_m277) rfl rfl (Nat.le_of_ble_eq_true rfl) ?_
  have hK : pj_kpt kc_277 G0 G0 := pj_kpt_r _ _
  show pj_X _ _ G0 0 [(0, .ref 171)] [] _
  obtain ⟨y34, hy34⟩ : ∃ z : Int32, z = pj_fi G0 171 1 := ⟨_, rfl⟩
  have ey34 : (pj_fi G0 171 1).toInt = y34.toInt := by rw [hy34]
  have ry34 : (0 : Int) ≤ y34.toInt ∧ y34.toInt ≤ 24 := by rw [hy34]; exact hI.2.1 171 1 (0, 24) rfl
  refine pj_X_of (fun r h => pj_R_to (G0, 2, [(0, .ref 171)], [.int (Int32.ofInt 0), .ref 171], 0, 0) 2 3 (fun _ => rfl) h) ?_
  refine pj_X_of (fun r h => pj_T_pf hI rfl rfl rfl h) ?_
  show pj_X _ _ (pj_wv G0 171 0 (.int (Int32.ofInt 0))) 5 [(0, .ref 171)] [] _
  obtain ⟨G35, hG35⟩ : ∃ H, H = pj_wv G0 171 0 (.int (Int32.ofInt 0)) := ⟨_, rfl⟩
  have iG35 : pj_Inv G35 := by rw [hG35]; exact pj_Inv_wi hI (ci := 12) rfl (fun q hq => by cases hq)
  have kG35 : pj_kpt kc_277 G0 G35 := by rw [hG35]; exact pj_kpt_v hK rfl
  rw [← hG35]
  refine pj_X_of (fun r h => pj_R_to (G35, 8, [(1, .int (Int32.ofInt 0)), (0, .ref 171)], [.ref 171], 0, 0) 8 4 (fun _ => rfl) h) ?_
  refine pj_X_of (fun r h => pj_T_gr iG35 rfl rfl rfl h) ?_
  refine pj_X_of (fun r h => pj_R_to (G35, 13, [(1, .int (Int32.ofInt 0)), (0, .ref 171)], [.int ((Int8.ofInt 30).toInt32), .ref 179], 0, 0) 13 2 (fun _ => rfl) h) ?_
  refine pj_X_of (fun r h => pj_T_il iG35 rfl rfl (by omega) (by omega) h) ?_
  show pj_X _ _ G35 14 [(1, .int (Int32.ofInt 0)), (0, .ref 171)] [.int (pj_ai G35 179 ((Int8.ofInt 30).toInt32).toInt.toNat)] _
  obtain ⟨z36, hz36⟩ : ∃ z : Int32, z = pj_ai G35 179 ((Int8.ofInt 30).toInt32).toInt.toNat := ⟨_, rfl⟩
  refine pj_X_eqi hz36.symm ?_
  have ez36 : (pj_ai G35 179 ((Int8.ofInt 30).toInt32).toInt.toNat).toInt = z36.toInt := by rw [hz36]
  refine pj_X_of (fun r h => pj_R_to (G35, 17, [(3, .int (Int32.ofInt 0)), (2, .int z36), (1, .int (Int32.ofInt 0)), (0, .ref 171)], [], 0, 0) 17 4 (fun _ => rfl) h) ?_
  have q37 : (pj_fi G35 171 1).toInt = y34.toInt := by rw [show pj_fi G35 171 1 = y34 from by rw [hG35, pj_fi_wv_ne _ _ _ _ _ _ (by decide)]; exact hy34.symm]
  exact pj_X_sub [(0, .ref 171), (1, .int (Int32.ofInt 0)), (2, .int z36), (3, .int (Int32.ofInt 0))] (show List.Nodup [0, 1, 2, 3] by decide) ⟨rfl, rfl, rfl, rfl, trivial⟩ ((lp_ct_277 G0 hI   p0_ 7) G35 iG35 kG35 (Int32.ofInt 0) z36 (Int32.ofInt 0) (pj_i32 _) (pj_i32 _) ⟨by omega, by omega⟩ (by omega))
theorem lp_ct_278 (G0 : pj_G) (hI : pj_Inv G0) : ∀ mn : Nat, (∀ (v1 : Int32) (v2 : Int32), ((-2147483648 : Int) ≤ v1.toInt ∧ v1.toInt ≤ 2147483647) → ((0 : Int) ≤ v2.toInt ∧ v2.toInt ≤ 6) → 6 - v2.toInt < (mn : Int) → pj_X 0 pj_m278 G0 4 [(0, .ref 171), (1, .int v1), (2, .int v2)] [] (fun v G' => ∃ y : Int32, v = some (.int y) ∧ G0 = G' ∧ ((-2147483648 : Int) ≤ y.toInt ∧ y.toInt ≤ 2147483647))) := by
  have c0_ : (Int32.ofInt 0).toInt = 0 := by decide
  have c1_ : (Int32.ofInt 1).toInt = 1 := by decide
  have c2_ : (Int32.ofInt 4).toInt = 4 := by decide
  have hK : pj_kpt ([], [], []) G0 G0 := pj_kpt_r _ _
  intro mn
  induction mn with
  | zero =>
    intro v1 v2 rv1 rv2 hm
    exfalso
    omega
  | succ mn ih =>
    intro v1 v2 rv1 rv2 hm
    refine pj_X_of (fun r h => pj_R_to (G0, 6, [(0, .ref 171), (1, .int v1), (2, .int v2)], [.ref 171, .int v2], 0, 0) 6 3 (fun _ => rfl) h) ?_
    refine pj_X_of (fun r h => pj_T_gi hI rfl rfl h) ?_
    show pj_X _ _ G0 9 [(0, .ref 171), (1, .int v1), (2, .int v2)] [.int (pj_fi G0 171 5), .int v2] _
    obtain ⟨y1, hy1⟩ : ∃ z : Int32, z = pj_fi G0 171 5 := ⟨_, rfl⟩
    refine pj_X_eqi hy1.symm ?_
    have ey1 : (pj_fi G0 171 5).toInt = y1.toInt := by rw [hy1]
    have ry1 : (0 : Int) ≤ y1.toInt ∧ y1.toInt ≤ 6 := by rw [hy1]; exact hI.2.1 171 5 (0, 6) rfl
    cases b2 : pj_c1 .ge v2 y1 with
    | true =>
      have ub2 := pj_u_geT b2
      refine pj_X_of (fun r h => pj_R_icT 55 rfl rfl b2 h) ?_
      refine pj_X_of (fun r h => pj_R_to (G0, 56, [(0, .ref 171), (1, .int v1), (2, .int v2)], [.int v1], 0, 0) 56 2 (fun _ => rfl) h) ?_
      exact pj_X_rt rfl rfl ⟨_, rfl, rfl, pj_i32 _⟩
    | false =>
      have ub2 := pj_u_geF b2
      refine pj_X_of (fun r h => pj_R_icF rfl b2 h) ?_
      refine pj_X_of (fun r h => pj_R_to (G0, 14, [(0, .ref 171), (1, .int v1), (2, .int v2)], [.ref 171, .int v1], 0, 0) 14 3 (fun _ => rfl) h) ?_
      refine pj_X_of (fun r h => pj_T_gr hI rfl rfl rfl h) ?_
      refine pj_X_of (fun r h => pj_R_to (G0, 18, [(0, .ref 171), (1, .int v1), (2, .int v2)], [.int v2, .ref 199, .int v1], 0, 0) 18 2 (fun _ => rfl) h) ?_
      refine pj_X_of (fun r h => pj_T_il hI rfl rfl (by omega) (by omega) h) ?_
      show pj_X _ _ G0 19 [(0, .ref 171), (1, .int v1), (2, .int v2)] [.int (pj_ai G0 199 v2.toInt.toNat), .int v1] _
      obtain ⟨z3, hz3⟩ : ∃ z : Int32, z = pj_ai G0 199 v2.toInt.toNat := ⟨_, rfl⟩
      refine pj_X_eqi hz3.symm ?_
      have ez3 : (pj_ai G0 199 v2.toInt.toNat).toInt = z3.toInt := by rw [hz3]
      have fz3_0 : (-1 : Int) ≤ z3.toInt ∧ z3.toInt ≤ 9 ∧ (z3.toInt ≤ -1 ∨ -1 ≤ z3.toInt) := by rw [hz3]; exact hI.2.2.1 199 (6, -1, 9, -1, -1) rfl _ (by show _ < 6; omega)
      cases b4 : pj_c1 .lt z3 0 with
      | true =>
        have ub4 := pj_u0_ltT b4
        refine pj_X_of (fun r h => pj_R_ifT 46 rfl rfl b4 h) ?_
        refine pj_X_of (fun r h => pj_R_to (G0, 48, [(0, .ref 171), (1, .int v1), (2, .int v2)], [.int (v1 ||| (Int32.ofInt 0))], 0, 0) 48 3 (fun _ => rfl) h) ?_
        obtain ⟨z5, hz5⟩ : ∃ z : Int32, z = v1 ||| (Int32.ofInt 0) := ⟨_, rfl⟩
        refine pj_X_eqi hz5.symm ?_
        refine pj_X_of (fun r h => pj_R_to (G0, 52, [(2, .int (v2 + Int32.ofInt 1)), (1, .int z5), (0, .ref 171)], [], 0, 0) 52 3 (fun _ => rfl) h) ?_
        obtain ⟨z6, hz6⟩ : ∃ z : Int32, z = v2 + Int32.ofInt 1 := ⟨_, rfl⟩
        rw [← hz6]
        have fz6_0 : z6.toInt = v2.toInt + (Int32.ofInt 1).toInt := by rw [hz6]; exact pj_addI (by have := pj_i32 v2; have := pj_i32 (Int32.ofInt 1); omega) (by have := pj_i32 v2; have := pj_i32 (Int32.ofInt 1); omega)
        refine pj_X_of (fun r h => pj_R_to (G0, 4, [(2, .int z6), (1, .int z5), (0, .ref 171)], [], 0, 0) 4 2 (fun _ => rfl) h) ?_
        exact pj_X_sub [(0, .ref 171), (1, .int z5), (2, .int z6)] (show List.Nodup [0, 1, 2] by decide) ⟨rfl, rfl, rfl, trivial⟩ (ih z5 z6 (pj_i32 _) ⟨by omega, by omega⟩ (by omega))
      | false =>
        have ub4 := pj_u0_ltF b4
        refine pj_X_of (fun r h => pj_R_ifF rfl b4 h) ?_
        refine pj_X_of (fun r h => pj_R_to (G0, 23, [(0, .ref 171), (1, .int v1), (2, .int v2)], [.ref 171, .int v1], 0, 0) 23 2 (fun _ => rfl) h) ?_
        refine pj_X_of (fun r h => pj_T_gr hI rfl rfl rfl h) ?_
        refine pj_X_of (fun r h => pj_R_to (G0, 29, [(0, .ref 171), (1, .int v1), (2, .int v2)], [.int ((Int32.ofInt 4) * v2), .ref 179, .int v1], 0, 0) 29 4 (fun _ => rfl) h) ?_
        obtain ⟨z7, hz7⟩ : ∃ z : Int32, z = (Int32.ofInt 4) * v2 := ⟨_, rfl⟩
        refine pj_X_eqi hz7.symm ?_
        have fz7_0 : z7.toInt = 4 * v2.toInt := by rw [hz7]; exact pj_mulL (by decide) (by omega) (by omega)
        refine pj_X_of (fun r h => pj_R_to (G0, 31, [(0, .ref 171), (1, .int v1), (2, .int v2)], [.int (z7 + (Int32.ofInt 1)), .ref 179, .int v1], 0, 0) 31 3 (fun _ => rfl) h) ?_
        obtain ⟨z8, hz8⟩ : ∃ z : Int32, z = z7 + (Int32.ofInt 1) := ⟨_, rfl⟩
        refine pj_X_eqi hz8.symm ?_
        have fz8_0 : z8.toInt = z7.toInt + (Int32.ofInt 1).toInt := by rw [hz8]; exact pj_addI (by have := pj_i32 z7; have := pj_i32 (Int32.ofInt 1); omega) (by have := pj_i32 z7; have := pj_i32 (Int32.ofInt 1); omega)
        refine pj_X_of (fun r h => pj_T_il hI rfl rfl (by omega) (by omega) h) ?_
        show pj_X _ _ G0 32 [(0, .ref 171), (1, .int v1), (2, .int v2)] [.int (pj_ai G0 179 z8.toInt.toNat), .int v1] _
        obtain ⟨z9, hz9⟩ : ∃ z : Int32, z = pj_ai G0 179 z8.toInt.toNat := ⟨_, rfl⟩
        refine pj_X_eqi hz9.symm ?_
        have ez9 : (pj_ai G0 179 z8.toInt.toNat).toInt = z9.toInt := by rw [hz9]
        have fz9_0 : 0 ≤ z9.toInt := by rw [hz9]; exact ((hI.2.2.2 179 32 rfl _ (by show _ < 32; omega)).1 (by omega)).2 (by omega)
        cases b10 : pj_c1 .ne z9 0 with
        | true =>
          have ub10 := pj_u0_neT b10
          refine pj_X_of (fun r h => pj_R_ifT 46 rfl rfl b10 h) ?_
          refine pj_X_of (fun r h => pj_R_to (G0, 48, [(0, .ref 171), (1, .int v1), (2, .int v2)], [.int (v1 ||| (Int32.ofInt 0))], 0, 0) 48 3 (fun _ => rfl) h) ?_
          obtain ⟨z11, hz11⟩ : ∃ z : Int32, z = v1 ||| (Int32.ofInt 0) := ⟨_, rfl⟩
          refine pj_X_eqi hz11.symm ?_
          refine pj_X_of (fun r h => pj_R_to (G0, 52, [(2, .int (v2 + Int32.ofInt 1)), (1, .int z11), (0, .ref 171)], [], 0, 0) 52 3 (fun _ => rfl) h) ?_
          obtain ⟨z12, hz12⟩ : ∃ z : Int32, z = v2 + Int32.ofInt 1 := ⟨_, rfl⟩
          rw [← hz12]
          have fz12_0 : z12.toInt = v2.toInt + (Int32.ofInt 1).toInt := by rw [hz12]; exact pj_addI (by have := pj_i32 v2; have := pj_i32 (Int32.ofInt 1); omega) (by have := pj_i32 v2; have := pj_i32 (Int32.ofInt 1); omega)
          refine pj_X_of (fun r h => pj_R_to (G0, 4, [(2, .int z12), (1, .int z11), (0, .ref 171)], [], 0, 0) 4 2 (fun _ => rfl) h) ?_
          exact pj_X_sub [(0, .ref 171), (1, .int z11), (2, .int z12)] (show List.Nodup [0, 1, 2] by decide) ⟨rfl, rfl, rfl, trivial⟩ (ih z11 z12 (pj_i32 _) ⟨by omega, by omega⟩ (by omega))
        | false =>
          have ub10 := pj_u0_neF b10
          refine pj_X_of (fun r h => pj_R_ifF rfl b10 h) ?_
          refine pj_X_of (fun r h => pj_R_to (G0, 37, [(0, .ref 171), (1, .int v1), (2, .int v2)], [.ref 171, .int (Int32.ofInt 1), .int v1], 0, 0) 37 3 (fun _ => rfl) h) ?_
          refine pj_X_of (fun r h => pj_T_gr hI rfl rfl rfl h) ?_
          refine pj_X_of (fun r h => pj_R_to (G0, 41, [(0, .ref 171), (1, .int v1), (2, .int v2)], [.int v2, .ref 199, .int (Int32.ofInt 1), .int v1], 0, 0) 41 2 (fun _ => rfl) h) ?_
          refine pj_X_of (fun r h => pj_T_il hI rfl rfl (by omega) (by omega) h) ?_
          show pj_X _ _ G0 42 [(0, .ref 171), (1, .int v1), (2, .int v2)] [.int (pj_ai G0 199 v2.toInt.toNat), .int (Int32.ofInt 1), .int v1] _
          refine pj_X_eqi hz3.symm ?_
          refine pj_X_of (fun r h => pj_R_to (G0, 43, [(0, .ref 171), (1, .int v1), (2, .int v2)], [.int ((Int32.ofInt 1) <<< (z3 &&& 31)), .int v1], 0, 0) 43 2 (fun _ => rfl) h) ?_
          obtain ⟨z13, hz13⟩ : ∃ z : Int32, z = (Int32.ofInt 1) <<< (z3 &&& 31) := ⟨_, rfl⟩
          refine pj_X_eqi hz13.symm ?_
          have fz13_0 : 1 ≤ z13.toInt ∧ z13.toInt ≤ 512 := by rw [hz13]; exact pj_shlI9 (by omega) (by omega)
          refine pj_X_of (fun r h => pj_R_to (G0, 48, [(0, .ref 171), (1, .int v1), (2, .int v2)], [.int (v1 ||| z13)], 0, 0) 48 3 (fun _ => rfl) h) ?_
          obtain ⟨z14, hz14⟩ : ∃ z : Int32, z = v1 ||| z13 := ⟨_, rfl⟩
          refine pj_X_eqi hz14.symm ?_
          refine pj_X_of (fun r h => pj_R_to (G0, 52, [(2, .int (v2 + Int32.ofInt 1)), (1, .int z14), (0, .ref 171)], [], 0, 0) 52 3 (fun _ => rfl) h) ?_
          obtain ⟨z15, hz15⟩ : ∃ z : Int32, z = v2 + Int32.ofInt 1 := ⟨_, rfl⟩
          rw [← hz15]
          have fz15_0 : z15.toInt = v2.toInt + (Int32.ofInt 1).toInt := by rw [hz15]; exact pj_addI (by have := pj_i32 v2; have := pj_i32 (Int32.ofInt 1); omega) (by have := pj_i32 v2; have := pj_i32 (Int32.ofInt 1); omega)
          refine pj_X_of (fun r h => pj_R_to (G0, 4, [(2, .int z15), (1, .int z14), (0, .ref 171)], [], 0, 0) 4 2 (fun _ => rfl) h) ?_
          exact pj_X_sub [(0, .ref 171), (1, .int z14), (2, .int z15)] (show List.Nodup [0, 1, 2] by decide) ⟨rfl, rfl, rfl, trivial⟩ (ih z14 z15 (pj_i32 _) ⟨by omega, by omega⟩ (by omega))
theorem ct_278 (G0 : pj_G) (hI : pj_Inv G0) : pj_Y 1 278 [.ref 171] G0 (fun v G' => ∃ y : Int32, v = some (.int y) ∧ G0 = G' ∧ ((-2147483648 : Int) ≤ y.toInt ∧ y.toInt ≤ 2147483647)) := by
  have c0_ : (Int32.ofInt 0).toInt = 0 := by decide
  have c1_ : (Int32.ofInt 1).toInt = 1 := by decide
  have c2_ : (Int32.ofInt 4).toInt = 4 := by decide
  refine pj_Y_X (M := pj_m278) rfl rfl (Nat.le_of_ble_eq_true rfl) ?_
  have hK : pj_kpt ([], [], []) G0 G0 := pj_kpt_r _ _
  show pj_X _ _ G0 0 [(0, .ref 171)] [] _
  refine pj_X_of (fun r h => pj_R_to (G0, 4, [(2, .int (Int32.ofInt 0)), (1, .int (Int32.ofInt 0)), (0, .ref 171)], [], 0, 0) 4 5 (fun _ => rfl) h) ?_
  exact pj_X_sub [(0, .ref 171), (1, .int (Int32.ofInt 0)), (2, .int (Int32.ofInt 0))] (show List.Nodup [0, 1, 2] by decide) ⟨rfl, rfl, rfl, trivial⟩ ((lp_ct_278 G0 hI   7) (Int32.ofInt 0) (Int32.ofInt 0) (pj_i32 _) ⟨by omega, by omega⟩ (by omega))
theorem lp_ct_279 (G0 : pj_G) (hI : pj_Inv G0) (c : Int32) : ∀ mn : Nat, (∀ (v2 : Int32) (v3 : Int32), ((0 : Int) ≤ v2.toInt ∧ v2.toInt ≤ 1) → ((0 : Int) ≤ v3.toInt ∧ v3.toInt ≤ 6) → 6 - v3.toInt < (mn : Int) → pj_X 0 pj_m279 G0 4 [(0, .ref 171), (1, .int c), (2, .int v2), (3, .int v3)] [] (fun v G' => ∃ y : Int32, v = some (.int y) ∧ G0 = G' ∧ ((0 : Int) ≤ y.toInt ∧ y.toInt ≤ 1))) := by
  have c0_ : (Int32.ofInt 0).toInt = 0 := by decide
  have c1_ : (Int32.ofInt 1).toInt = 1 := by decide
  have hK : pj_kpt ([], [], []) G0 G0 := pj_kpt_r _ _
  intro mn
  induction mn with
  | zero =>
    intro v2 v3 rv2 rv3 hm
    exfalso
    omega
  | succ mn ih =>
    intro v2 v3 rv2 rv3 hm
    refine pj_X_of (fun r h => pj_R_to (G0, 6, [(0, .ref 171), (1, .int c), (2, .int v2), (3, .int v3)], [.ref 171, .int v3], 0, 0) 6 3 (fun _ => rfl) h) ?_
    refine pj_X_of (fun r h => pj_T_gi hI rfl rfl h) ?_
    show pj_X _ _ G0 9 [(0, .ref 171), (1, .int c), (2, .int v2), (3, .int v3)] [.int (pj_fi G0 171 5), .int v3] _
    obtain ⟨y1, hy1⟩ : ∃ z : Int32, z = pj_fi G0 171 5 := ⟨_, rfl⟩
    refine pj_X_eqi hy1.symm ?_
    have ey1 : (pj_fi G0 171 5).toInt = y1.toInt := by rw [hy1]
    have ry1 : (0 : Int) ≤ y1.toInt ∧ y1.toInt ≤ 6 := by rw [hy1]; exact hI.2.1 171 5 (0, 6) rfl
    cases b2 : pj_c1 .ge v3 y1 with
    | true =>
      have ub2 := pj_u_geT b2
      refine pj_X_of (fun r h => pj_R_icT 38 rfl rfl b2 h) ?_
      refine pj_X_of (fun r h => pj_R_to (G0, 39, [(0, .ref 171), (1, .int c), (2, .int v2), (3, .int v3)], [.int v2], 0, 0) 39 2 (fun _ => rfl) h) ?_
      exact pj_X_rt (v := some (.int v2)) rfl (pj_rtb ⟨by omega, by omega⟩) ⟨_, rfl, rfl, ⟨by omega, by omega⟩⟩
    | false =>
      have ub2 := pj_u_geF b2
      refine pj_X_of (fun r h => pj_R_icF rfl b2 h) ?_
      refine pj_X_of (fun r h => pj_R_to (G0, 13, [(0, .ref 171), (1, .int c), (2, .int v2), (3, .int v3)], [.int v2], 0, 0) 13 2 (fun _ => rfl) h) ?_
      cases b3 : pj_c1 .eq v2 0 with
      | true =>
        have ub3 := pj_u0_eqT b3
        refine pj_X_of (fun r h => pj_R_ifT 30 rfl rfl b3 h) ?_
        refine pj_X_of (fun r h => pj_R_to (G0, 35, [(3, .int (v3 + Int32.ofInt 1)), (2, .int (Int32.ofInt 0)), (0, .ref 171), (1, .int c)], [], 0, 0) 35 4 (fun _ => rfl) h) ?_
        obtain ⟨z4, hz4⟩ : ∃ z : Int32, z = v3 + Int32.ofInt 1 := ⟨_, rfl⟩
        rw [← hz4]
        have fz4_0 : z4.toInt = v3.toInt + (Int32.ofInt 1).toInt := by rw [hz4]; exact pj_addI (by have := pj_i32 v3; have := pj_i32 (Int32.ofInt 1); omega) (by have := pj_i32 v3; have := pj_i32 (Int32.ofInt 1); omega)
        refine pj_X_of (fun r h => pj_R_to (G0, 4, [(3, .int z4), (2, .int (Int32.ofInt 0)), (0, .ref 171), (1, .int c)], [], 0, 0) 4 2 (fun _ => rfl) h) ?_
        exact pj_X_sub [(0, .ref 171), (1, .int c), (2, .int (Int32.ofInt 0)), (3, .int z4)] (show List.Nodup [0, 1, 2, 3] by decide) ⟨rfl, rfl, rfl, rfl, trivial⟩ (ih (Int32.ofInt 0) z4 ⟨by omega, by omega⟩ ⟨by omega, by omega⟩ (by omega))
      | false =>
        have ub3 := pj_u0_eqF b3
        refine pj_X_of (fun r h => pj_R_ifF rfl b3 h) ?_
        refine pj_X_of (fun r h => pj_R_to (G0, 17, [(0, .ref 171), (1, .int c), (2, .int v2), (3, .int v3)], [.ref 171], 0, 0) 17 2 (fun _ => rfl) h) ?_
        refine pj_X_of (fun r h => pj_T_gr hI rfl rfl rfl h) ?_
        refine pj_X_of (fun r h => pj_R_to (G0, 21, [(0, .ref 171), (1, .int c), (2, .int v2), (3, .int v3)], [.int v3, .ref 199], 0, 0) 21 2 (fun _ => rfl) h) ?_
        refine pj_X_of (fun r h => pj_T_il hI rfl rfl (by omega) (by omega) h) ?_
        show pj_X _ _ G0 22 [(0, .ref 171), (1, .int c), (2, .int v2), (3, .int v3)] [.int (pj_ai G0 199 v3.toInt.toNat)] _
        obtain ⟨z5, hz5⟩ : ∃ z : Int32, z = pj_ai G0 199 v3.toInt.toNat := ⟨_, rfl⟩
        refine pj_X_eqi hz5.symm ?_
        have ez5 : (pj_ai G0 199 v3.toInt.toNat).toInt = z5.toInt := by rw [hz5]
        have fz5_0 : (-1 : Int) ≤ z5.toInt ∧ z5.toInt ≤ 9 ∧ (z5.toInt ≤ -1 ∨ -1 ≤ z5.toInt) := by rw [hz5]; exact hI.2.2.1 199 (6, -1, 9, -1, -1) rfl _ (by show _ < 6; omega)
        refine pj_X_of (fun r h => pj_R_to (G0, 23, [(0, .ref 171), (1, .int c), (2, .int v2), (3, .int v3)], [.int c, .int z5], 0, 0) 23 2 (fun _ => rfl) h) ?_
        cases b6 : pj_c1 .eq z5 c with
        | true =>
          have ub6 := pj_u_eqT b6
          refine pj_X_of (fun r h => pj_R_icT 30 rfl rfl b6 h) ?_
          refine pj_X_of (fun r h => pj_R_to (G0, 35, [(3, .int (v3 + Int32.ofInt 1)), (2, .int (Int32.ofInt 0)), (0, .ref 171), (1, .int c)], [], 0, 0) 35 4 (fun _ => rfl) h) ?_
          obtain ⟨z7, hz7⟩ : ∃ z : Int32, z = v3 + Int32.ofInt 1 := ⟨_, rfl⟩
          rw [← hz7]
          have fz7_0 : z7.toInt = v3.toInt + (Int32.ofInt 1).toInt := by rw [hz7]; exact pj_addI (by have := pj_i32 v3; have := pj_i32 (Int32.ofInt 1); omega) (by have := pj_i32 v3; have := pj_i32 (Int32.ofInt 1); omega)
          refine pj_X_of (fun r h => pj_R_to (G0, 4, [(3, .int z7), (2, .int (Int32.ofInt 0)), (0, .ref 171), (1, .int c)], [], 0, 0) 4 2 (fun _ => rfl) h) ?_
          exact pj_X_sub [(0, .ref 171), (1, .int c), (2, .int (Int32.ofInt 0)), (3, .int z7)] (show List.Nodup [0, 1, 2, 3] by decide) ⟨rfl, rfl, rfl, rfl, trivial⟩ (ih (Int32.ofInt 0) z7 ⟨by omega, by omega⟩ ⟨by omega, by omega⟩ (by omega))
        | false =>
          have ub6 := pj_u_eqF b6
          refine pj_X_of (fun r h => pj_R_icF rfl b6 h) ?_
          refine pj_X_of (fun r h => pj_R_to (G0, 35, [(3, .int (v3 + Int32.ofInt 1)), (2, .int (Int32.ofInt 1)), (0, .ref 171), (1, .int c)], [], 0, 0) 35 5 (fun _ => rfl) h) ?_
          obtain ⟨z8, hz8⟩ : ∃ z : Int32, z = v3 + Int32.ofInt 1 := ⟨_, rfl⟩
          rw [← hz8]
          have fz8_0 : z8.toInt = v3.toInt + (Int32.ofInt 1).toInt := by rw [hz8]; exact pj_addI (by have := pj_i32 v3; have := pj_i32 (Int32.ofInt 1); omega) (by have := pj_i32 v3; have := pj_i32 (Int32.ofInt 1); omega)
          refine pj_X_of (fun r h => pj_R_to (G0, 4, [(3, .int z8), (2, .int (Int32.ofInt 1)), (0, .ref 171), (1, .int c)], [], 0, 0) 4 2 (fun _ => rfl) h) ?_
          exact pj_X_sub [(0, .ref 171), (1, .int c), (2, .int (Int32.ofInt 1)), (3, .int z8)] (show List.Nodup [0, 1, 2, 3] by decide) ⟨rfl, rfl, rfl, rfl, trivial⟩ (ih (Int32.ofInt 1) z8 ⟨by omega, by omega⟩ ⟨by omega, by omega⟩ (by omega))
theorem ct_279 (G0 : pj_G) (hI : pj_Inv G0) (c : Int32) : pj_Y 1 279 [.ref 171, .int c] G0 (fun v G' => ∃ y : Int32, v = some (.int y) ∧ G0 = G' ∧ ((0 : Int) ≤ y.toInt ∧ y.toInt ≤ 1)) := by
  have c0_ : (Int32.ofInt 0).toInt = 0 := by decide
  have c1_ : (Int32.ofInt 1).toInt = 1 := by decide
  refine pj_Y_X (M := pj_m279) rfl rfl (Nat.le_of_ble_eq_true rfl) ?_
  have hK : pj_kpt ([], [], []) G0 G0 := pj_kpt_r _ _
  show pj_X _ _ G0 0 [(0, .ref 171), (1, .int c)] [] _
  refine pj_X_of (fun r h => pj_R_to (G0, 4, [(3, .int (Int32.ofInt 0)), (2, .int (Int32.ofInt 1)), (0, .ref 171), (1, .int c)], [], 0, 0) 4 5 (fun _ => rfl) h) ?_
  exact pj_X_sub [(0, .ref 171), (1, .int c), (2, .int (Int32.ofInt 1)), (3, .int (Int32.ofInt 0))] (show List.Nodup [0, 1, 2, 3] by decide) ⟨rfl, rfl, rfl, rfl, trivial⟩ ((lp_ct_279 G0 hI c  7) (Int32.ofInt 1) (Int32.ofInt 0) ⟨by omega, by omega⟩ ⟨by omega, by omega⟩ (by omega))
def kc_280 : pj_KT := ([(171, 0), (171, 1)], [171, 172, 199], [199])
theorem lp_ct_280 (G0 : pj_G) (hI0 : pj_Inv G0) (sd : Int32) (n : Int32) : ∀ mn : Nat, (∀ (G : pj_G) (hI : pj_Inv G) (hK : pj_kpt kc_280 G0 G) (v3 : Int32) (v4 : Int32), ((-2147483648 : Int) ≤ v3.toInt ∧ v3.toInt ≤ 2147483647) → ((0 : Int) ≤ v4.toInt ∧ v4.toInt ≤ 6) → (1 ≤ n.toInt ∧ n.toInt ≤ 60) → (1 ≤ (pj_fi G 171 5).toInt) → 1000 + 6 - v4.toInt < (mn : Int) → pj_X 4 pj_m280 G 31 [(0, .ref 171), (1, .int sd), (2, .int n), (3, .int v3), (4, .int v4)] [] (fun v G' => ∃ y : Int32, v = some (.int y) ∧ pj_Inv G' ∧ pj_kpt kc_280 G0 G' ∧ ((-2147483648 : Int) ≤ y.toInt ∧ y.toInt ≤ 2147483647))) ∧ (∀ (G : pj_G) (hI : pj_Inv G) (hK : pj_kpt kc_280 G0 G) (v3 : Int32) (v4 : Int32) (v5 : Int32) (v6 : Int32) (v7 : Int32), ((-2147483648 : Int) ≤ v3.toInt ∧ v3.toInt ≤ 2147483647) → ((-2147483648 : Int) ≤ v4.toInt ∧ v4.toInt ≤ 2147483647) → ((-2147483648 : Int) ≤ v5.toInt ∧ v5.toInt ≤ 2147483647) → ((-2147483648 : Int) ≤ v6.toInt ∧ v6.toInt ≤ 2147483647) → ((0 : Int) ≤ v7.toInt ∧ v7.toInt ≤ 60) → (1 ≤ n.toInt ∧ n.toInt ≤ 60) → (1 ≤ (pj_fi G 171 5).toInt) → 60 - v7.toInt < (mn : Int) → pj_X 4 pj_m280 G 78 [(0, .ref 171), (1, .int sd), (2, .int n), (3, .int v3), (4, .int v4), (5, .int v5), (6, .int v6), (7, .int v7)] [] (fun v G' => ∃ y : Int32, v = some (.int y) ∧ pj_Inv G' ∧ pj_kpt kc_280 G0 G' ∧ ((-2147483648 : Int) ≤ y.toInt ∧ y.toInt ≤ 2147483647))) := by
  have c0_ : ((Int16.ofInt 1000).toInt32).toInt = 1000 := by decide
  have c1_ : ((Int16.ofInt 12345).toInt32).toInt = 12345 := by decide
  have c2_ : ((Int8.ofInt 16).toInt32).toInt = 16 := by decide
  have c3_ : (Int32.ofInt (-1)).toInt = -1 := by decide
  have c4_ : (Int32.ofInt 0).toInt = 0 := by decide
  have c5_ : (Int32.ofInt 1).toInt = 1 := by decide
  have c6_ : (Int32.ofInt 1103515245).toInt = 1103515245 := by decide
  have c7_ : (Int32.ofInt 4).toInt = 4 := by decide
  intro mn
  induction mn with
  | zero =>
    refine ⟨?_, ?_⟩
    · intro G hI hK v3 v4 rv3 rv4 x0_ x1_ hm
      exfalso
      omega
    · intro G hI hK v3 v4 v5 v6 v7 rv3 rv4 rv5 rv6 rv7 x0_ x1_ hm
      exfalso
      omega
  | succ mn ih =>
    refine ⟨?_, ?_⟩
    · intro G hI hK v3 v4 rv3 rv4 x0_ x1_ hm
      obtain ⟨y1, hy1⟩ : ∃ z : Int32, z = pj_fi G 171 1 := ⟨_, rfl⟩
      have ey1 : (pj_fi G 171 1).toInt = y1.toInt := by rw [hy1]
      have ry1 : (0 : Int) ≤ y1.toInt ∧ y1.toInt ≤ 24 := by rw [hy1]; exact hI.2.1 171 1 (0, 24) rfl
      obtain ⟨y2, hy2⟩ : ∃ z : Int32, z = pj_fi G 171 5 := ⟨_, rfl⟩
      have ey2 : (pj_fi G 171 5).toInt = y2.toInt := by rw [hy2]
      have ry2 : (0 : Int) ≤ y2.toInt ∧ y2.toInt ≤ 6 := by rw [hy2]; exact hI.2.1 171 5 (0, 6) rfl
      refine pj_X_of (fun r h => pj_R_to (G, 34, [(0, .ref 171), (1, .int sd), (2, .int n), (3, .int v3), (4, .int v4)], [.ref 171, .int v4], 0, 0) 34 3 (fun _ => rfl) h) ?_
      refine pj_X_of (fun r h => pj_T_gi hI rfl rfl h) ?_
      show pj_X _ _ G 37 [(0, .ref 171), (1, .int sd), (2, .int n), (3, .int v3), (4, .int v4)] [.int (pj_fi G 171 5), .int v4] _
      refine pj_X_eqi (show pj_fi G 171 5 = y2 from hy2.symm) ?_
      cases b3 : pj_c1 .ge v4 y2 with
      | true =>
        have ub3 := pj_u_geT b3
        refine pj_X_of (fun r h => pj_R_icT 64 rfl rfl b3 h) ?_
        refine pj_X_of (fun r h => pj_R_to (G, 78, [(7, .int (Int32.ofInt 0)), (6, .int (Int32.ofInt 0)), (5, .int ((Int16.ofInt 1000).toInt32)), (4, .int (Int32.ofInt 0)), (0, .ref 171), (1, .int sd), (2, .int n), (3, .int v3)], [], 0, 0) 78 9 (fun _ => rfl) h) ?_
        have q4 : (pj_fi G 171 1).toInt = y1.toInt := by rw [show pj_fi G 171 1 = y1 from hy1.symm]
        have q5 : (pj_fi G 171 5).toInt = y2.toInt := by rw [show pj_fi G 171 5 = y2 from hy2.symm]
        exact pj_X_sub [(0, .ref 171), (1, .int sd), (2, .int n), (3, .int v3), (4, .int (Int32.ofInt 0)), (5, .int ((Int16.ofInt 1000).toInt32)), (6, .int (Int32.ofInt 0)), (7, .int (Int32.ofInt 0))] (show List.Nodup [0, 1, 2, 3, 4, 5, 6, 7] by decide) ⟨rfl, rfl, rfl, rfl, rfl, rfl, rfl, rfl, trivial⟩ (ih.2 G hI hK v3 (Int32.ofInt 0) ((Int16.ofInt 1000).toInt32) (Int32.ofInt 0) (Int32.ofInt 0) (pj_i32 _) (pj_i32 _) (pj_i32 _) (pj_i32 _) ⟨by omega, by omega⟩ (by omega) (by omega) (by omega))
      | false =>
        have ub3 := pj_u_geF b3
        refine pj_X_of (fun r h => pj_R_icF rfl b3 h) ?_
        refine pj_X_of (fun r h => pj_R_to (G, 41, [(0, .ref 171), (1, .int sd), (2, .int n), (3, .int v3), (4, .int v4)], [.ref 171], 0, 0) 41 2 (fun _ => rfl) h) ?_
        refine pj_X_of (fun r h => pj_T_gr hI rfl rfl rfl h) ?_
        refine pj_X_of (fun r h => pj_R_to (G, 47, [(0, .ref 171), (1, .int sd), (2, .int n), (3, .int v3), (4, .int v4)], [.ref 171, .int v4, .ref 199], 0, 0) 47 3 (fun _ => rfl) h) ?_
        refine pj_X_of (fun r h => pj_T_gr hI rfl rfl rfl h) ?_
        refine pj_X_of (fun r h => pj_R_to (G, 54, [(0, .ref 171), (1, .int sd), (2, .int n), (3, .int v3), (4, .int v4)], [.int ((Int32.ofInt 4) * v4), .ref 179, .int v4, .ref 199], 0, 0) 54 4 (fun _ => rfl) h) ?_
        obtain ⟨z6, hz6⟩ : ∃ z : Int32, z = (Int32.ofInt 4) * v4 := ⟨_, rfl⟩
        refine pj_X_eqi hz6.symm ?_
        have fz6_0 : z6.toInt = 4 * v4.toInt := by rw [hz6]; exact pj_mulL (by decide) (by omega) (by omega)
        refine pj_X_of (fun r h => pj_R_to (G, 56, [(0, .ref 171), (1, .int sd), (2, .int n), (3, .int v3), (4, .int v4)], [.int (z6 + (Int32.ofInt 0)), .ref 179, .int v4, .ref 199], 0, 0) 56 3 (fun _ => rfl) h) ?_
        obtain ⟨z7, hz7⟩ : ∃ z : Int32, z = z6 + (Int32.ofInt 0) := ⟨_, rfl⟩
        refine pj_X_eqi hz7.symm ?_
        have fz7_0 : z7.toInt = z6.toInt + (Int32.ofInt 0).toInt := by rw [hz7]; exact pj_addI (by have := pj_i32 z6; have := pj_i32 (Int32.ofInt 0); omega) (by have := pj_i32 z6; have := pj_i32 (Int32.ofInt 0); omega)
        refine pj_X_of (fun r h => pj_T_il hI rfl rfl (by omega) (by omega) h) ?_
        show pj_X _ _ G 57 [(0, .ref 171), (1, .int sd), (2, .int n), (3, .int v3), (4, .int v4)] [.int (pj_ai G 179 z7.toInt.toNat), .int v4, .ref 199] _
        obtain ⟨z8, hz8⟩ : ∃ z : Int32, z = pj_ai G 179 z7.toInt.toNat := ⟨_, rfl⟩
        refine pj_X_eqi hz8.symm ?_
        have ez8 : (pj_ai G 179 z7.toInt.toNat).toInt = z8.toInt := by rw [hz8]
        have fz8_0 : -1 ≤ z8.toInt ∧ z8.toInt ≤ 9 := by rw [hz8]; exact ((hI.2.2.2 179 32 rfl _ (by show _ < 32; omega)).1 (by omega)).1 (by omega)
        refine pj_X_of (fun r h => pj_T_is hI rfl rfl (by omega) (by omega) h) ?_
        show pj_X _ _ (pj_wa G 199 v4.toInt.toNat z8) 58 [(0, .ref 171), (1, .int sd), (2, .int n), (3, .int v3), (4, .int v4)] [] _
        obtain ⟨G9, hG9⟩ : ∃ H, H = pj_wa G 199 v4.toInt.toNat z8 := ⟨_, rfl⟩
        have iG9 : pj_Inv G9 := by rw [hG9]; exact pj_Inv_wa hI rfl (fun q hq => by cases hq; exact ⟨by show (-1 : Int) ≤ _; omega, by show _ ≤ (9 : Int); omega, by show _ ≤ (-1 : Int) ∨ (-1 : Int) ≤ _; omega⟩) (fun n hn => by cases hn)
        have kG9 : pj_kpt kc_280 G0 G9 := by rw [hG9]; exact pj_kpt_a hK rfl
        rw [← hG9]
        refine pj_X_of (fun r h => pj_R_to (G9, 61, [(4, .int (v4 + Int32.ofInt 1)), (0, .ref 171), (1, .int sd), (2, .int n), (3, .int v3)], [], 0, 0) 61 2 (fun _ => rfl) h) ?_
        obtain ⟨z10, hz10⟩ : ∃ z : Int32, z = v4 + Int32.ofInt 1 := ⟨_, rfl⟩
        rw [← hz10]
        have fz10_0 : z10.toInt = v4.toInt + (Int32.ofInt 1).toInt := by rw [hz10]; exact pj_addI (by have := pj_i32 v4; have := pj_i32 (Int32.ofInt 1); omega) (by have := pj_i32 v4; have := pj_i32 (Int32.ofInt 1); omega)
        refine pj_X_of (fun r h => pj_R_to (G9, 31, [(4, .int z10), (0, .ref 171), (1, .int sd), (2, .int n), (3, .int v3)], [], 0, 0) 31 2 (fun _ => rfl) h) ?_
        have q11 : (pj_fi G9 171 1).toInt = y1.toInt := by rw [show pj_fi G9 171 1 = y1 from by rw [hG9, pj_fi_wa]; exact hy1.symm]
        have q12 : (pj_fi G9 171 5).toInt = y2.toInt := by rw [show pj_fi G9 171 5 = y2 from by rw [hG9, pj_fi_wa]; exact hy2.symm]
        exact pj_X_sub [(0, .ref 171), (1, .int sd), (2, .int n), (3, .int v3), (4, .int z10)] (show List.Nodup [0, 1, 2, 3, 4] by decide) ⟨rfl, rfl, rfl, rfl, rfl, trivial⟩ (ih.1 G9 iG9 kG9 v3 z10 (pj_i32 _) ⟨by omega, by omega⟩ (by omega) (by omega) (by omega))
    · intro G hI hK v3 v4 v5 v6 v7 rv3 rv4 rv5 rv6 rv7 x0_ x1_ hm
      obtain ⟨y13, hy13⟩ : ∃ z : Int32, z = pj_fi G 171 1 := ⟨_, rfl⟩
      have ey13 : (pj_fi G 171 1).toInt = y13.toInt := by rw [hy13]
      have ry13 : (0 : Int) ≤ y13.toInt ∧ y13.toInt ≤ 24 := by rw [hy13]; exact hI.2.1 171 1 (0, 24) rfl
      obtain ⟨y14, hy14⟩ : ∃ z : Int32, z = pj_fi G 171 5 := ⟨_, rfl⟩
      have ey14 : (pj_fi G 171 5).toInt = y14.toInt := by rw [hy14]
      have ry14 : (0 : Int) ≤ y14.toInt ∧ y14.toInt ≤ 6 := by rw [hy14]; exact hI.2.1 171 5 (0, 6) rfl
      refine pj_X_of (fun r h => pj_R_to (G, 81, [(0, .ref 171), (1, .int sd), (2, .int n), (3, .int v3), (4, .int v4), (5, .int v5), (6, .int v6), (7, .int v7)], [.int n, .int v7], 0, 0) 81 3 (fun _ => rfl) h) ?_
      cases b15 : pj_c1 .ge v7 n with
      | true =>
        have ub15 := pj_u_geT b15
        refine pj_X_of (fun r h => pj_R_icT 241 rfl rfl b15 h) ?_
        refine pj_X_of (fun r h => pj_R_to (G, 243, [(0, .ref 171), (1, .int sd), (2, .int n), (3, .int v3), (4, .int v4), (5, .int v5), (6, .int v6), (7, .int v7)], [.int (Int32.ofInt 0), .ref 171], 0, 0) 243 3 (fun _ => rfl) h) ?_
        refine pj_X_of (fun r h => pj_T_pf hI rfl rfl rfl h) ?_
        show pj_X _ _ (pj_wv G 171 1 (.int (Int32.ofInt 0))) 246 [(0, .ref 171), (1, .int sd), (2, .int n), (3, .int v3), (4, .int v4), (5, .int v5), (6, .int v6), (7, .int v7)] [] _
        obtain ⟨G16, hG16⟩ : ∃ H, H = pj_wv G 171 1 (.int (Int32.ofInt 0)) := ⟨_, rfl⟩
        have iG16 : pj_Inv G16 := by rw [hG16]; exact pj_Inv_wi hI (ci := 12) rfl (fun q hq => by cases hq; exact ⟨by show (0 : Int) ≤ _; omega, by show _ ≤ (24 : Int); omega⟩)
        have kG16 : pj_kpt kc_280 G0 G16 := by rw [hG16]; exact pj_kpt_v hK rfl
        rw [← hG16]
        refine pj_X_of (fun r h => pj_R_to (G16, 250, [(0, .ref 171), (1, .int sd), (2, .int n), (3, .int v3), (4, .int v4), (5, .int v5), (6, .int v6), (7, .int v7)], [.long v4.toInt64, .ref 171], 0, 0) 250 4 (fun _ => rfl) h) ?_
        have q17 : (pj_fi G16 171 1).toInt = (Int32.ofInt 0).toInt := by rw [show pj_fi G16 171 1 = Int32.ofInt 0 from by rw [hG16]; exact pj_fi_wi hI.1 (ci := 12) rfl _]
        have q18 : (pj_fi G16 171 5).toInt = y14.toInt := by rw [show pj_fi G16 171 5 = y14 from by rw [hG16, pj_fi_wv_ne _ _ _ _ _ _ (by decide)]; exact hy14.symm]
        have lc19 : (v4.toInt64).toInt = v4.toInt := Int32.toInt_toInt64 _
        refine pj_X_ca (vs := [.ref 171, .long v4.toInt64]) rfl (fun _ => rfl) ⟨Nat.le_of_ble_eq_true rfl, Nat.le_of_ble_eq_true rfl, pj_T_rcv iG16 rfl⟩ ⟨rfl, rfl⟩ (pj_Y_up (by decide) (ct_174x G16 iG16 v4.toInt64 (by omega))) ?_
        rintro _ G21 ⟨rfl, iG21, jG21, eG21, fy20⟩
        replace eG21 := eG21 _ rfl
        have kG21 : pj_kpt kc_280 G0 G21 := pj_kpt_t kG16 (pj_kpt_s jG21 rfl)
        have q22 : (pj_fi G21 171 5).toInt = (pj_fi G16 171 5).toInt := by rw [jG21.1 (171, 5) (by decide)]
        obtain ⟨y23, hy23⟩ : ∃ z : Int32, z = pj_fi G21 171 1 := ⟨_, rfl⟩
        have ey23 : (pj_fi G21 171 1).toInt = y23.toInt := by rw [hy23]
        have ry23 : (0 : Int) ≤ y23.toInt ∧ y23.toInt ≤ 24 := by rw [hy23]; exact iG21.2.1 171 1 (0, 24) rfl
        obtain ⟨y24, hy24⟩ : ∃ z : Int32, z = pj_fi G21 171 5 := ⟨_, rfl⟩
        have ey24 : (pj_fi G21 171 5).toInt = y24.toInt := by rw [hy24]
        have ry24 : (0 : Int) ≤ y24.toInt ∧ y24.toInt ≤ 6 := by rw [hy24]; exact iG21.2.1 171 5 (0, 6) rfl
        show pj_X _ _ G21 253 [(0, .ref 171), (1, .int sd), (2, .int n), (3, .int v3), (4, .int v4), (5, .int v5), (6, .int v6), (7, .int v7)] [] _
        refine pj_X_of (fun r h => pj_R_to (G21, 257, [(0, .ref 171), (1, .int sd), (2, .int n), (3, .int v3), (4, .int v4), (5, .int v5), (6, .int v6), (7, .int v7)], [.long v5.toInt64, .ref 171], 0, 0) 257 4 (fun _ => rfl) h) ?_
        have q25 : (pj_fi G21 171 1).toInt = y23.toInt := by rw [show pj_fi G21 171 1 = y23 from hy23.symm]
        have q26 : (pj_fi G21 171 5).toInt = y24.toInt := by rw [show pj_fi G21 171 5 = y24 from hy24.symm]
        have lc27 : (v5.toInt64).toInt = v5.toInt := Int32.toInt_toInt64 _
        refine pj_X_ca (vs := [.ref 171, .long v5.toInt64]) rfl (fun _ => rfl) ⟨Nat.le_of_ble_eq_true rfl, Nat.le_of_ble_eq_true rfl, pj_T_rcv iG21 rfl⟩ ⟨rfl, rfl⟩ (pj_Y_up (by decide) (ct_174x G21 iG21 v5.toInt64 (by omega))) ?_
        rintro _ G29 ⟨rfl, iG29, jG29, eG29, fy28⟩
        replace eG29 := eG29 _ rfl
        have kG29 : pj_kpt kc_280 G0 G29 := pj_kpt_t kG21 (pj_kpt_s jG29 rfl)
        have q30 : (pj_fi G29 171 5).toInt = (pj_fi G21 171 5).toInt := by rw [jG29.1 (171, 5) (by decide)]
        obtain ⟨y31, hy31⟩ : ∃ z : Int32, z = pj_fi G29 171 1 := ⟨_, rfl⟩
        have ey31 : (pj_fi G29 171 1).toInt = y31.toInt := by rw [hy31]
        have ry31 : (0 : Int) ≤ y31.toInt ∧ y31.toInt ≤ 24 := by rw [hy31]; exact iG29.2.1 171 1 (0, 24) rfl
        obtain ⟨y32, hy32⟩ : ∃ z : Int32, z = pj_fi G29 171 5 := ⟨_, rfl⟩
        have ey32 : (pj_fi G29 171 5).toInt = y32.toInt := by rw [hy32]
        have ry32 : (0 : Int) ≤ y32.toInt ∧ y32.toInt ≤ 6 := by rw [hy32]; exact iG29.2.1 171 5 (0, 6) rfl
        show pj_X _ _ G29 260 [(0, .ref 171), (1, .int sd), (2, .int n), (3, .int v3), (4, .int v4), (5, .int v5), (6, .int v6), (7, .int v7)] [] _
        refine pj_X_of (fun r h => pj_R_to (G29, 262, [(0, .ref 171), (1, .int sd), (2, .int n), (3, .int v3), (4, .int v4), (5, .int v5), (6, .int v6), (7, .int v7)], [.int v6], 0, 0) 262 2 (fun _ => rfl) h) ?_
        have q33 : (pj_fi G29 171 1).toInt = y31.toInt := by rw [show pj_fi G29 171 1 = y31 from hy31.symm]
        have q34 : (pj_fi G29 171 5).toInt = y32.toInt := by rw [show pj_fi G29 171 5 = y32 from hy32.symm]
        exact pj_X_rt rfl rfl ⟨_, rfl, iG29, kG29, pj_i32 _⟩
      | false =>
        have ub15 := pj_u_geF b15
        refine pj_X_of (fun r h => pj_R_icF rfl b15 h) ?_
        refine pj_X_of (fun r h => pj_R_to (G, 89, [(0, .ref 171), (1, .int sd), (2, .int n), (3, .int v3), (4, .int v4), (5, .int v5), (6, .int v6), (7, .int v7)], [.int (v3 * (Int32.ofInt 1103515245))], 0, 0) 89 4 (fun _ => rfl) h) ?_
        obtain ⟨z35, hz35⟩ : ∃ z : Int32, z = v3 * (Int32.ofInt 1103515245) := ⟨_, rfl⟩
        refine pj_X_eqi hz35.symm ?_
        refine pj_X_of (fun r h => pj_R_to (G, 93, [(0, .ref 171), (1, .int sd), (2, .int n), (3, .int v3), (4, .int v4), (5, .int v5), (6, .int v6), (7, .int v7)], [.int (z35 + ((Int16.ofInt 12345).toInt32))], 0, 0) 93 3 (fun _ => rfl) h) ?_
        obtain ⟨z36, hz36⟩ : ∃ z : Int32, z = z35 + ((Int16.ofInt 12345).toInt32) := ⟨_, rfl⟩
        refine pj_X_eqi hz36.symm ?_
        refine pj_X_of (fun r h => pj_R_to (G, 98, [(3, .int z36), (0, .ref 171), (1, .int sd), (2, .int n), (4, .int v4), (5, .int v5), (6, .int v6), (7, .int v7)], [.int ((z36.toUInt32 >>> (((Int8.ofInt 16).toInt32).toUInt32 &&& Int32.toUInt32 31)).toInt32)], 0, 0) 98 5 (fun _ => rfl) h) ?_
        obtain ⟨z37, hz37⟩ : ∃ z : Int32, z = (z36.toUInt32 >>> (((Int8.ofInt 16).toInt32).toUInt32 &&& Int32.toUInt32 31)).toInt32 := ⟨_, rfl⟩
        refine pj_X_eqi hz37.symm ?_
        have fz37_0 : 0 ≤ z37.toInt ∧ z37.toInt ≤ 65535 := by rw [hz37]; exact pj_us16
        refine pj_X_of (fun r h => pj_R_to (G, 99, [(3, .int z36), (0, .ref 171), (1, .int sd), (2, .int n), (4, .int v4), (5, .int v5), (6, .int v6), (7, .int v7)], [.ref 171, .int z37], 0, 0) 99 2 (fun _ => rfl) h) ?_
        refine pj_X_of (fun r h => pj_T_gi hI rfl rfl h) ?_
        show pj_X _ _ G 102 [(3, .int z36), (0, .ref 171), (1, .int sd), (2, .int n), (4, .int v4), (5, .int v5), (6, .int v6), (7, .int v7)] [.int (pj_fi G 171 5), .int z37] _
        refine pj_X_eqi (show pj_fi G 171 5 = y14 from hy14.symm) ?_
        refine pj_X_of (fun r h => pj_R_rm rfl (pj_nz (by omega)) h) ?_
        show pj_X _ _ G 103 [(3, .int z36), (0, .ref 171), (1, .int sd), (2, .int n), (4, .int v4), (5, .int v5), (6, .int v6), (7, .int v7)] [.int (z37 - z37 / y14 * y14)] _
        obtain ⟨z38, hz38⟩ : ∃ z : Int32, z = z37 - z37 / y14 * y14 := ⟨_, rfl⟩
        refine pj_X_eqi hz38.symm ?_
        have fz38_0 : 0 ≤ z38.toInt ∧ z38.toInt < y14.toInt := by rw [hz38]; exact pj_remI (by omega) (by omega)
        refine pj_X_of (fun r h => pj_R_to (G, 106, [(8, .int z38), (3, .int z36), (0, .ref 171), (1, .int sd), (2, .int n), (4, .int v4), (5, .int v5), (6, .int v6), (7, .int v7)], [.ref 171], 0, 0) 106 3 (fun _ => rfl) h) ?_
        refine pj_X_of (fun r h => pj_T_gr hI rfl rfl rfl h) ?_
        refine pj_X_of (fun r h => pj_R_to (G, 111, [(8, .int z38), (3, .int z36), (0, .ref 171), (1, .int sd), (2, .int n), (4, .int v4), (5, .int v5), (6, .int v6), (7, .int v7)], [.int z38, .ref 199], 0, 0) 111 2 (fun _ => rfl) h) ?_
        refine pj_X_of (fun r h => pj_T_il hI rfl rfl (by omega) (by omega) h) ?_
        show pj_X _ _ G 112 [(8, .int z38), (3, .int z36), (0, .ref 171), (1, .int sd), (2, .int n), (4, .int v4), (5, .int v5), (6, .int v6), (7, .int v7)] [.int (pj_ai G 199 z38.toInt.toNat)] _
        obtain ⟨z39, hz39⟩ : ∃ z : Int32, z = pj_ai G 199 z38.toInt.toNat := ⟨_, rfl⟩
        refine pj_X_eqi hz39.symm ?_
        have ez39 : (pj_ai G 199 z38.toInt.toNat).toInt = z39.toInt := by rw [hz39]
        have fz39_0 : (-1 : Int) ≤ z39.toInt ∧ z39.toInt ≤ 9 ∧ (z39.toInt ≤ -1 ∨ -1 ≤ z39.toInt) := by rw [hz39]; exact hI.2.2.1 199 (6, -1, 9, -1, -1) rfl _ (by show _ < 6; omega)
        cases b40 : pj_c1 .lt z39 0 with
        | true =>
          have ub40 := pj_u0_ltT b40
          refine pj_X_of (fun r h => pj_R_ifT 216 rfl rfl b40 h) ?_
          refine pj_X_of (fun r h => pj_R_to (G, 218, [(8, .int z38), (3, .int z36), (0, .ref 171), (1, .int sd), (2, .int n), (4, .int v4), (5, .int v5), (6, .int v6), (7, .int v7)], [.ref 171, .ref 171], 0, 0) 218 3 (fun _ => rfl) h) ?_
          have q41 : (pj_fi G 171 1).toInt = y13.toInt := by rw [show pj_fi G 171 1 = y13 from hy13.symm]
          have q42 : (pj_fi G 171 5).toInt = y14.toInt := by rw [show pj_fi G 171 5 = y14 from hy14.symm]
          refine pj_X_ca (vs := [.ref 171]) rfl (fun _ => rfl) ⟨Nat.le_of_ble_eq_true rfl, Nat.le_of_ble_eq_true rfl, pj_T_rcv hI rfl⟩ ⟨rfl, rfl⟩ (pj_Y_up (by decide) (ct_278 G hI)) ?_
          rintro _ _ ⟨y43, rfl, rfl, ry43⟩
          show pj_X _ _ G 221 [(8, .int z38), (3, .int z36), (0, .ref 171), (1, .int sd), (2, .int n), (4, .int v4), (5, .int v5), (6, .int v6), (7, .int v7)] [.int y43, .ref 171] _
          have q44 : (pj_fi G 171 1).toInt = y13.toInt := by rw [show pj_fi G 171 1 = y13 from hy13.symm]
          have q45 : (pj_fi G 171 5).toInt = y14.toInt := by rw [show pj_fi G 171 5 = y14 from hy14.symm]
          refine pj_X_ca (vs := [.ref 171, .int y43]) rfl (fun _ => rfl) ⟨Nat.le_of_ble_eq_true rfl, Nat.le_of_ble_eq_true rfl, pj_T_rcv hI rfl⟩ ⟨rfl, rfl⟩ (pj_Y_up (by decide) (ct_209 G hI y43)) ?_
          rintro _ _ ⟨y46, rfl, rfl, ry46⟩
          show pj_X _ _ G 224 [(8, .int z38), (3, .int z36), (0, .ref 171), (1, .int sd), (2, .int n), (4, .int v4), (5, .int v5), (6, .int v6), (7, .int v7)] [.int y46] _
          refine pj_X_of (fun r h => pj_R_to (G, 230, [(6, .int y46), (8, .int z38), (3, .int z36), (0, .ref 171), (1, .int sd), (2, .int n), (4, .int v4), (5, .int v5), (7, .int v7)], [.int y46, .int v5], 0, 0) 230 4 (fun _ => rfl) h) ?_
          refine pj_X_of (fun r h => pj_R_mn (v := (if y46 < v5 then y46 else v5)) rfl rfl rfl (Nat.le_of_ble_eq_true rfl) h) ?_
          show pj_X _ _ G 233 [(6, .int y46), (8, .int z38), (3, .int z36), (0, .ref 171), (1, .int sd), (2, .int n), (4, .int v4), (5, .int v5), (7, .int v7)] [.int (if y46 < v5 then y46 else v5)] _
          obtain ⟨z47, hz47⟩ : ∃ z : Int32, z = (if y46 < v5 then y46 else v5) := ⟨_, rfl⟩
          refine pj_X_eqi hz47.symm ?_
          have fz47_0 : z47.toInt ≤ v5.toInt ∧ z47.toInt ≤ y46.toInt ∧ (z47.toInt = v5.toInt ∨ z47.toInt = y46.toInt) := by rw [hz47]; exact pj_minI
          refine pj_X_of (fun r h => pj_R_to (G, 238, [(7, .int (v7 + Int32.ofInt 1)), (5, .int z47), (6, .int y46), (8, .int z38), (3, .int z36), (0, .ref 171), (1, .int sd), (2, .int n), (4, .int v4)], [], 0, 0) 238 3 (fun _ => rfl) h) ?_
          obtain ⟨z48, hz48⟩ : ∃ z : Int32, z = v7 + Int32.ofInt 1 := ⟨_, rfl⟩
          rw [← hz48]
          have fz48_0 : z48.toInt = v7.toInt + (Int32.ofInt 1).toInt := by rw [hz48]; exact pj_addI (by have := pj_i32 v7; have := pj_i32 (Int32.ofInt 1); omega) (by have := pj_i32 v7; have := pj_i32 (Int32.ofInt 1); omega)
          refine pj_X_of (fun r h => pj_R_to (G, 78, [(7, .int z48), (5, .int z47), (6, .int y46), (8, .int z38), (3, .int z36), (0, .ref 171), (1, .int sd), (2, .int n), (4, .int v4)], [], 0, 0) 78 2 (fun _ => rfl) h) ?_
          have q49 : (pj_fi G 171 1).toInt = y13.toInt := by rw [show pj_fi G 171 1 = y13 from hy13.symm]
          have q50 : (pj_fi G 171 5).toInt = y14.toInt := by rw [show pj_fi G 171 5 = y14 from hy14.symm]
          exact pj_X_sub [(0, .ref 171), (1, .int sd), (2, .int n), (3, .int z36), (4, .int v4), (5, .int z47), (6, .int y46), (7, .int z48)] (show List.Nodup [0, 1, 2, 3, 4, 5, 6, 7] by decide) ⟨rfl, rfl, rfl, rfl, rfl, rfl, rfl, rfl, trivial⟩ (ih.2 G hI hK z36 v4 z47 y46 z48 (pj_i32 _) (pj_i32 _) (pj_i32 _) (pj_i32 _) ⟨by omega, by omega⟩ (by omega) (by omega) (by omega))
        | false =>
          have ub40 := pj_u0_ltF b40
          refine pj_X_of (fun r h => pj_R_ifF rfl b40 h) ?_
          refine pj_X_of (fun r h => pj_R_to (G, 116, [(8, .int z38), (3, .int z36), (0, .ref 171), (1, .int sd), (2, .int n), (4, .int v4), (5, .int v5), (6, .int v6), (7, .int v7)], [.ref 171], 0, 0) 116 2 (fun _ => rfl) h) ?_
          refine pj_X_of (fun r h => pj_T_gr hI rfl rfl rfl h) ?_
          refine pj_X_of (fun r h => pj_R_to (G, 123, [(8, .int z38), (3, .int z36), (0, .ref 171), (1, .int sd), (2, .int n), (4, .int v4), (5, .int v5), (6, .int v6), (7, .int v7)], [.int ((Int32.ofInt 4) * z38), .ref 179], 0, 0) 123 4 (fun _ => rfl) h) ?_
          obtain ⟨z51, hz51⟩ : ∃ z : Int32, z = (Int32.ofInt 4) * z38 := ⟨_, rfl⟩
          refine pj_X_eqi hz51.symm ?_
          have fz51_0 : z51.toInt = 4 * z38.toInt := by rw [hz51]; exact pj_mulL (by decide) (by omega) (by omega)
          refine pj_X_of (fun r h => pj_R_to (G, 125, [(8, .int z38), (3, .int z36), (0, .ref 171), (1, .int sd), (2, .int n), (4, .int v4), (5, .int v5), (6, .int v6), (7, .int v7)], [.int (z51 + (Int32.ofInt 1)), .ref 179], 0, 0) 125 3 (fun _ => rfl) h) ?_
          obtain ⟨z52, hz52⟩ : ∃ z : Int32, z = z51 + (Int32.ofInt 1) := ⟨_, rfl⟩
          refine pj_X_eqi hz52.symm ?_
          have fz52_0 : z52.toInt = z51.toInt + (Int32.ofInt 1).toInt := by rw [hz52]; exact pj_addI (by have := pj_i32 z51; have := pj_i32 (Int32.ofInt 1); omega) (by have := pj_i32 z51; have := pj_i32 (Int32.ofInt 1); omega)
          refine pj_X_of (fun r h => pj_T_il hI rfl rfl (by omega) (by omega) h) ?_
          show pj_X _ _ G 126 [(8, .int z38), (3, .int z36), (0, .ref 171), (1, .int sd), (2, .int n), (4, .int v4), (5, .int v5), (6, .int v6), (7, .int v7)] [.int (pj_ai G 179 z52.toInt.toNat)] _
          obtain ⟨z53, hz53⟩ : ∃ z : Int32, z = pj_ai G 179 z52.toInt.toNat := ⟨_, rfl⟩
          refine pj_X_eqi hz53.symm ?_
          have ez53 : (pj_ai G 179 z52.toInt.toNat).toInt = z53.toInt := by rw [hz53]
          have fz53_0 : 0 ≤ z53.toInt := by rw [hz53]; exact ((hI.2.2.2 179 32 rfl _ (by show _ < 32; omega)).1 (by omega)).2 (by omega)
          cases b54 : pj_c1 .ne z53 0 with
          | true =>
            have ub54 := pj_u0_neT b54
            refine pj_X_of (fun r h => pj_R_ifT 216 rfl rfl b54 h) ?_
            refine pj_X_of (fun r h => pj_R_to (G, 218, [(8, .int z38), (3, .int z36), (0, .ref 171), (1, .int sd), (2, .int n), (4, .int v4), (5, .int v5), (6, .int v6), (7, .int v7)], [.ref 171, .ref 171], 0, 0) 218 3 (fun _ => rfl) h) ?_
            have q55 : (pj_fi G 171 1).toInt = y13.toInt := by rw [show pj_fi G 171 1 = y13 from hy13.symm]
            have q56 : (pj_fi G 171 5).toInt = y14.toInt := by rw [show pj_fi G 171 5 = y14 from hy14.symm]
            refine pj_X_ca (vs := [.ref 171]) rfl (fun _ => rfl) ⟨Nat.le_of_ble_eq_true rfl, Nat.le_of_ble_eq_true rfl, pj_T_rcv hI rfl⟩ ⟨rfl, rfl⟩ (pj_Y_up (by decide) (ct_278 G hI)) ?_
            rintro _ _ ⟨y57, rfl, rfl, ry57⟩
            show pj_X _ _ G 221 [(8, .int z38), (3, .int z36), (0, .ref 171), (1, .int sd), (2, .int n), (4, .int v4), (5, .int v5), (6, .int v6), (7, .int v7)] [.int y57, .ref 171] _
            have q58 : (pj_fi G 171 1).toInt = y13.toInt := by rw [show pj_fi G 171 1 = y13 from hy13.symm]
            have q59 : (pj_fi G 171 5).toInt = y14.toInt := by rw [show pj_fi G 171 5 = y14 from hy14.symm]
            refine pj_X_ca (vs := [.ref 171, .int y57]) rfl (fun _ => rfl) ⟨Nat.le_of_ble_eq_true rfl, Nat.le_of_ble_eq_true rfl, pj_T_rcv hI rfl⟩ ⟨rfl, rfl⟩ (pj_Y_up (by decide) (ct_209 G hI y57)) ?_
            rintro _ _ ⟨y60, rfl, rfl, ry60⟩
            show pj_X _ _ G 224 [(8, .int z38), (3, .int z36), (0, .ref 171), (1, .int sd), (2, .int n), (4, .int v4), (5, .int v5), (6, .int v6), (7, .int v7)] [.int y60] _
            refine pj_X_of (fun r h => pj_R_to (G, 230, [(6, .int y60), (8, .int z38), (3, .int z36), (0, .ref 171), (1, .int sd), (2, .int n), (4, .int v4), (5, .int v5), (7, .int v7)], [.int y60, .int v5], 0, 0) 230 4 (fun _ => rfl) h) ?_
            refine pj_X_of (fun r h => pj_R_mn (v := (if y60 < v5 then y60 else v5)) rfl rfl rfl (Nat.le_of_ble_eq_true rfl) h) ?_
            show pj_X _ _ G 233 [(6, .int y60), (8, .int z38), (3, .int z36), (0, .ref 171), (1, .int sd), (2, .int n), (4, .int v4), (5, .int v5), (7, .int v7)] [.int (if y60 < v5 then y60 else v5)] _
            obtain ⟨z61, hz61⟩ : ∃ z : Int32, z = (if y60 < v5 then y60 else v5) := ⟨_, rfl⟩
            refine pj_X_eqi hz61.symm ?_
            have fz61_0 : z61.toInt ≤ v5.toInt ∧ z61.toInt ≤ y60.toInt ∧ (z61.toInt = v5.toInt ∨ z61.toInt = y60.toInt) := by rw [hz61]; exact pj_minI
            refine pj_X_of (fun r h => pj_R_to (G, 238, [(7, .int (v7 + Int32.ofInt 1)), (5, .int z61), (6, .int y60), (8, .int z38), (3, .int z36), (0, .ref 171), (1, .int sd), (2, .int n), (4, .int v4)], [], 0, 0) 238 3 (fun _ => rfl) h) ?_
            obtain ⟨z62, hz62⟩ : ∃ z : Int32, z = v7 + Int32.ofInt 1 := ⟨_, rfl⟩
            rw [← hz62]
            have fz62_0 : z62.toInt = v7.toInt + (Int32.ofInt 1).toInt := by rw [hz62]; exact pj_addI (by have := pj_i32 v7; have := pj_i32 (Int32.ofInt 1); omega) (by have := pj_i32 v7; have := pj_i32 (Int32.ofInt 1); omega)
            refine pj_X_of (fun r h => pj_R_to (G, 78, [(7, .int z62), (5, .int z61), (6, .int y60), (8, .int z38), (3, .int z36), (0, .ref 171), (1, .int sd), (2, .int n), (4, .int v4)], [], 0, 0) 78 2 (fun _ => rfl) h) ?_
            have q63 : (pj_fi G 171 1).toInt = y13.toInt := by rw [show pj_fi G 171 1 = y13 from hy13.symm]
            have q64 : (pj_fi G 171 5).toInt = y14.toInt := by rw [show pj_fi G 171 5 = y14 from hy14.symm]
            exact pj_X_sub [(0, .ref 171), (1, .int sd), (2, .int n), (3, .int z36), (4, .int v4), (5, .int z61), (6, .int y60), (7, .int z62)] (show List.Nodup [0, 1, 2, 3, 4, 5, 6, 7] by decide) ⟨rfl, rfl, rfl, rfl, rfl, rfl, rfl, rfl, trivial⟩ (ih.2 G hI hK z36 v4 z61 y60 z62 (pj_i32 _) (pj_i32 _) (pj_i32 _) (pj_i32 _) ⟨by omega, by omega⟩ (by omega) (by omega) (by omega))
          | false =>
            have ub54 := pj_u0_neF b54
            refine pj_X_of (fun r h => pj_R_ifF rfl b54 h) ?_
            refine pj_X_of (fun r h => pj_R_to (G, 131, [(8, .int z38), (3, .int z36), (0, .ref 171), (1, .int sd), (2, .int n), (4, .int v4), (5, .int v5), (6, .int v6), (7, .int v7)], [.ref 171, .ref 171], 0, 0) 131 3 (fun _ => rfl) h) ?_
            refine pj_X_of (fun r h => pj_T_gr hI rfl rfl rfl h) ?_
            refine pj_X_of (fun r h => pj_R_to (G, 136, [(8, .int z38), (3, .int z36), (0, .ref 171), (1, .int sd), (2, .int n), (4, .int v4), (5, .int v5), (6, .int v6), (7, .int v7)], [.int z38, .ref 199, .ref 171], 0, 0) 136 2 (fun _ => rfl) h) ?_
            refine pj_X_of (fun r h => pj_T_il hI rfl rfl (by omega) (by omega) h) ?_
            show pj_X _ _ G 137 [(8, .int z38), (3, .int z36), (0, .ref 171), (1, .int sd), (2, .int n), (4, .int v4), (5, .int v5), (6, .int v6), (7, .int v7)] [.int (pj_ai G 199 z38.toInt.toNat), .ref 171] _
            refine pj_X_eqi hz39.symm ?_
            have q65 : (pj_fi G 171 1).toInt = y13.toInt := by rw [show pj_fi G 171 1 = y13 from hy13.symm]
            have q66 : (pj_fi G 171 5).toInt = y14.toInt := by rw [show pj_fi G 171 5 = y14 from hy14.symm]
            refine pj_X_ca (vs := [.ref 171, .int z39]) rfl (fun _ => rfl) ⟨Nat.le_of_ble_eq_true rfl, Nat.le_of_ble_eq_true rfl, pj_T_rcv hI rfl⟩ ⟨rfl, rfl⟩ (pj_Y_up (by decide) (ct_256 G hI z39 ⟨by omega, by omega⟩)) ?_
            rintro _ _ ⟨y67, rfl, rfl, ry67, ey67⟩
            show pj_X _ _ G 140 [(8, .int z38), (3, .int z36), (0, .ref 171), (1, .int sd), (2, .int n), (4, .int v4), (5, .int v5), (6, .int v6), (7, .int v7)] [.int y67] _
            refine pj_X_of (fun r h => pj_R_to (G, 144, [(9, .int y67), (8, .int z38), (3, .int z36), (0, .ref 171), (1, .int sd), (2, .int n), (4, .int v4), (5, .int v5), (6, .int v6), (7, .int v7)], [.int y67], 0, 0) 144 3 (fun _ => rfl) h) ?_
            cases b68 : pj_c1 .lt y67 0 with
            | true =>
              have ub68 := pj_u0_ltT b68
              refine pj_X_of (fun r h => pj_R_ifT 216 rfl rfl b68 h) ?_
              refine pj_X_of (fun r h => pj_R_to (G, 218, [(9, .int y67), (8, .int z38), (3, .int z36), (0, .ref 171), (1, .int sd), (2, .int n), (4, .int v4), (5, .int v5), (6, .int v6), (7, .int v7)], [.ref 171, .ref 171], 0, 0) 218 3 (fun _ => rfl) h) ?_
              have q69 : (pj_fi G 171 1).toInt = y13.toInt := by rw [show pj_fi G 171 1 = y13 from hy13.symm]
              have q70 : (pj_fi G 171 5).toInt = y14.toInt := by rw [show pj_fi G 171 5 = y14 from hy14.symm]
              refine pj_X_ca (vs := [.ref 171]) rfl (fun _ => rfl) ⟨Nat.le_of_ble_eq_true rfl, Nat.le_of_ble_eq_true rfl, pj_T_rcv hI rfl⟩ ⟨rfl, rfl⟩ (pj_Y_up (by decide) (ct_278 G hI)) ?_
              rintro _ _ ⟨y71, rfl, rfl, ry71⟩
              show pj_X _ _ G 221 [(9, .int y67), (8, .int z38), (3, .int z36), (0, .ref 171), (1, .int sd), (2, .int n), (4, .int v4), (5, .int v5), (6, .int v6), (7, .int v7)] [.int y71, .ref 171] _
              have q72 : (pj_fi G 171 1).toInt = y13.toInt := by rw [show pj_fi G 171 1 = y13 from hy13.symm]
              have q73 : (pj_fi G 171 5).toInt = y14.toInt := by rw [show pj_fi G 171 5 = y14 from hy14.symm]
              refine pj_X_ca (vs := [.ref 171, .int y71]) rfl (fun _ => rfl) ⟨Nat.le_of_ble_eq_true rfl, Nat.le_of_ble_eq_true rfl, pj_T_rcv hI rfl⟩ ⟨rfl, rfl⟩ (pj_Y_up (by decide) (ct_209 G hI y71)) ?_
              rintro _ _ ⟨y74, rfl, rfl, ry74⟩
              show pj_X _ _ G 224 [(9, .int y67), (8, .int z38), (3, .int z36), (0, .ref 171), (1, .int sd), (2, .int n), (4, .int v4), (5, .int v5), (6, .int v6), (7, .int v7)] [.int y74] _
              refine pj_X_of (fun r h => pj_R_to (G, 230, [(6, .int y74), (9, .int y67), (8, .int z38), (3, .int z36), (0, .ref 171), (1, .int sd), (2, .int n), (4, .int v4), (5, .int v5), (7, .int v7)], [.int y74, .int v5], 0, 0) 230 4 (fun _ => rfl) h) ?_
              refine pj_X_of (fun r h => pj_R_mn (v := (if y74 < v5 then y74 else v5)) rfl rfl rfl (Nat.le_of_ble_eq_true rfl) h) ?_
              show pj_X _ _ G 233 [(6, .int y74), (9, .int y67), (8, .int z38), (3, .int z36), (0, .ref 171), (1, .int sd), (2, .int n), (4, .int v4), (5, .int v5), (7, .int v7)] [.int (if y74 < v5 then y74 else v5)] _
              obtain ⟨z75, hz75⟩ : ∃ z : Int32, z = (if y74 < v5 then y74 else v5) := ⟨_, rfl⟩
              refine pj_X_eqi hz75.symm ?_
              have fz75_0 : z75.toInt ≤ v5.toInt ∧ z75.toInt ≤ y74.toInt ∧ (z75.toInt = v5.toInt ∨ z75.toInt = y74.toInt) := by rw [hz75]; exact pj_minI
              refine pj_X_of (fun r h => pj_R_to (G, 238, [(7, .int (v7 + Int32.ofInt 1)), (5, .int z75), (6, .int y74), (9, .int y67), (8, .int z38), (3, .int z36), (0, .ref 171), (1, .int sd), (2, .int n), (4, .int v4)], [], 0, 0) 238 3 (fun _ => rfl) h) ?_
              obtain ⟨z76, hz76⟩ : ∃ z : Int32, z = v7 + Int32.ofInt 1 := ⟨_, rfl⟩
              rw [← hz76]
              have fz76_0 : z76.toInt = v7.toInt + (Int32.ofInt 1).toInt := by rw [hz76]; exact pj_addI (by have := pj_i32 v7; have := pj_i32 (Int32.ofInt 1); omega) (by have := pj_i32 v7; have := pj_i32 (Int32.ofInt 1); omega)
              refine pj_X_of (fun r h => pj_R_to (G, 78, [(7, .int z76), (5, .int z75), (6, .int y74), (9, .int y67), (8, .int z38), (3, .int z36), (0, .ref 171), (1, .int sd), (2, .int n), (4, .int v4)], [], 0, 0) 78 2 (fun _ => rfl) h) ?_
              have q77 : (pj_fi G 171 1).toInt = y13.toInt := by rw [show pj_fi G 171 1 = y13 from hy13.symm]
              have q78 : (pj_fi G 171 5).toInt = y14.toInt := by rw [show pj_fi G 171 5 = y14 from hy14.symm]
              exact pj_X_sub [(0, .ref 171), (1, .int sd), (2, .int n), (3, .int z36), (4, .int v4), (5, .int z75), (6, .int y74), (7, .int z76)] (show List.Nodup [0, 1, 2, 3, 4, 5, 6, 7] by decide) ⟨rfl, rfl, rfl, rfl, rfl, rfl, rfl, rfl, trivial⟩ (ih.2 G hI hK z36 v4 z75 y74 z76 (pj_i32 _) (pj_i32 _) (pj_i32 _) (pj_i32 _) ⟨by omega, by omega⟩ (by omega) (by omega) (by omega))
            | false =>
              have ub68 := pj_u0_ltF b68
              refine pj_X_of (fun r h => pj_R_ifF rfl b68 h) ?_
              refine pj_X_of (fun r h => pj_R_to (G, 150, [(9, .int y67), (8, .int z38), (3, .int z36), (0, .ref 171), (1, .int sd), (2, .int n), (4, .int v4), (5, .int v5), (6, .int v6), (7, .int v7)], [.int y67, .ref 171], 0, 0) 150 3 (fun _ => rfl) h) ?_
              have q79 : (pj_fi G 171 1).toInt = y13.toInt := by rw [show pj_fi G 171 1 = y13 from hy13.symm]
              have q80 : (pj_fi G 171 5).toInt = y14.toInt := by rw [show pj_fi G 171 5 = y14 from hy14.symm]
              refine pj_X_ca (vs := [.ref 171, .int y67]) rfl (fun _ => rfl) ⟨Nat.le_of_ble_eq_true rfl, Nat.le_of_ble_eq_true rfl, pj_T_rcv hI rfl⟩ ⟨rfl, rfl⟩ (pj_Y_up (by decide) (ct_279 G hI y67)) ?_
              rintro _ _ ⟨y81, rfl, rfl, ry81⟩
              show pj_X _ _ G 153 [(9, .int y67), (8, .int z38), (3, .int z36), (0, .ref 171), (1, .int sd), (2, .int n), (4, .int v4), (5, .int v5), (6, .int v6), (7, .int v7)] [.int y81] _
              cases b82 : pj_c1 .eq y81 0 with
              | true =>
                have ub82 := pj_u0_eqT b82
                refine pj_X_of (fun r h => pj_R_ifT 177 rfl rfl b82 h) ?_
                refine pj_X_of (fun r h => pj_R_to (G, 181, [(10, .int (Int32.ofInt 0)), (9, .int y67), (8, .int z38), (3, .int z36), (0, .ref 171), (1, .int sd), (2, .int n), (4, .int v4), (5, .int v5), (6, .int v6), (7, .int v7)], [.ref 171], 0, 0) 181 4 (fun _ => rfl) h) ?_
                refine pj_X_of (fun r h => pj_T_gr hI rfl rfl rfl h) ?_
                refine pj_X_of (fun r h => pj_R_to (G, 188, [(10, .int (Int32.ofInt 0)), (9, .int y67), (8, .int z38), (3, .int z36), (0, .ref 171), (1, .int sd), (2, .int n), (4, .int v4), (5, .int v5), (6, .int v6), (7, .int v7)], [.int (Int32.ofInt 0), .int z38, .ref 199], 0, 0) 188 3 (fun _ => rfl) h) ?_
                refine pj_X_of (fun r h => pj_R_ifT 196 rfl rfl (pj_b0_eqT (by omega)) h) ?_
                refine pj_X_of (fun r h => pj_R_to (G, 197, [(10, .int (Int32.ofInt 0)), (9, .int y67), (8, .int z38), (3, .int z36), (0, .ref 171), (1, .int sd), (2, .int n), (4, .int v4), (5, .int v5), (6, .int v6), (7, .int v7)], [.int (Int32.ofInt (-1)), .int z38, .ref 199], 0, 0) 197 2 (fun _ => rfl) h) ?_
                refine pj_X_of (fun r h => pj_T_is hI rfl rfl (by omega) (by omega) h) ?_
                show pj_X _ _ (pj_wa G 199 z38.toInt.toNat (Int32.ofInt (-1))) 198 [(10, .int (Int32.ofInt 0)), (9, .int y67), (8, .int z38), (3, .int z36), (0, .ref 171), (1, .int sd), (2, .int n), (4, .int v4), (5, .int v5), (6, .int v6), (7, .int v7)] [] _
                obtain ⟨G83, hG83⟩ : ∃ H, H = pj_wa G 199 z38.toInt.toNat (Int32.ofInt (-1)) := ⟨_, rfl⟩
                have iG83 : pj_Inv G83 := by rw [hG83]; exact pj_Inv_wa hI rfl (fun q hq => by cases hq; exact ⟨by show (-1 : Int) ≤ _; omega, by show _ ≤ (9 : Int); omega, by show _ ≤ (-1 : Int) ∨ (-1 : Int) ≤ _; omega⟩) (fun n hn => by cases hn)
                have kG83 : pj_kpt kc_280 G0 G83 := by rw [hG83]; exact pj_kpt_a hK rfl
                rw [← hG83]
                refine pj_X_of (fun r h => pj_R_to (G83, 202, [(10, .int (Int32.ofInt 0)), (9, .int y67), (8, .int z38), (3, .int z36), (0, .ref 171), (1, .int sd), (2, .int n), (4, .int v4), (5, .int v5), (6, .int v6), (7, .int v7)], [.int (Int32.ofInt 0), .int v4], 0, 0) 202 3 (fun _ => rfl) h) ?_
                refine pj_X_of (fun r h => pj_R_ifF rfl (pj_b0_neF (by omega)) h) ?_
                refine pj_X_of (fun r h => pj_R_to (G83, 210, [(10, .int (Int32.ofInt 0)), (9, .int y67), (8, .int z38), (3, .int z36), (0, .ref 171), (1, .int sd), (2, .int n), (4, .int v4), (5, .int v5), (6, .int v6), (7, .int v7)], [.int (Int32.ofInt 1), .int v4], 0, 0) 210 3 (fun _ => rfl) h) ?_
                have q84 : (pj_fi G83 171 1).toInt = y13.toInt := by rw [show pj_fi G83 171 1 = y13 from by rw [hG83, pj_fi_wa]; exact hy13.symm]
                have q85 : (pj_fi G83 171 5).toInt = y14.toInt := by rw [show pj_fi G83 171 5 = y14 from by rw [hG83, pj_fi_wa]; exact hy14.symm]
                refine pj_X_ca (vs := [.int (Int32.ofInt 1)]) rfl (fun _ => rfl) ⟨Nat.le_of_ble_eq_true rfl, Nat.le_of_ble_eq_true rfl, rfl⟩ ⟨rfl, rfl⟩ (pj_Y_up (by decide) (ct_172x G83 iG83 (Int32.ofInt 1) ⟨by omega, by omega⟩)) ?_
                rintro _ _ ⟨y86, rfl, rfl, ry86, ey86, fy86⟩
                show pj_X _ _ G83 213 [(10, .int (Int32.ofInt 0)), (9, .int y67), (8, .int z38), (3, .int z36), (0, .ref 171), (1, .int sd), (2, .int n), (4, .int v4), (5, .int v5), (6, .int v6), (7, .int v7)] [.int y86, .int v4] _
                refine pj_X_of (fun r h => pj_R_to (G83, 214, [(10, .int (Int32.ofInt 0)), (9, .int y67), (8, .int z38), (3, .int z36), (0, .ref 171), (1, .int sd), (2, .int n), (4, .int v4), (5, .int v5), (6, .int v6), (7, .int v7)], [.int (v4 + y86)], 0, 0) 214 2 (fun _ => rfl) h) ?_
                obtain ⟨z87, hz87⟩ : ∃ z : Int32, z = v4 + y86 := ⟨_, rfl⟩
                refine pj_X_eqi hz87.symm ?_
                refine pj_X_of (fun r h => pj_R_to (G83, 218, [(4, .int z87), (10, .int (Int32.ofInt 0)), (9, .int y67), (8, .int z38), (3, .int z36), (0, .ref 171), (1, .int sd), (2, .int n), (5, .int v5), (6, .int v6), (7, .int v7)], [.ref 171, .ref 171], 0, 0) 218 4 (fun _ => rfl) h) ?_
                have q88 : (pj_fi G83 171 1).toInt = y13.toInt := by rw [show pj_fi G83 171 1 = y13 from by rw [hG83, pj_fi_wa]; exact hy13.symm]
                have q89 : (pj_fi G83 171 5).toInt = y14.toInt := by rw [show pj_fi G83 171 5 = y14 from by rw [hG83, pj_fi_wa]; exact hy14.symm]
                refine pj_X_ca (vs := [.ref 171]) rfl (fun _ => rfl) ⟨Nat.le_of_ble_eq_true rfl, Nat.le_of_ble_eq_true rfl, pj_T_rcv iG83 rfl⟩ ⟨rfl, rfl⟩ (pj_Y_up (by decide) (ct_278 G83 iG83)) ?_
                rintro _ _ ⟨y90, rfl, rfl, ry90⟩
                show pj_X _ _ G83 221 [(4, .int z87), (10, .int (Int32.ofInt 0)), (9, .int y67), (8, .int z38), (3, .int z36), (0, .ref 171), (1, .int sd), (2, .int n), (5, .int v5), (6, .int v6), (7, .int v7)] [.int y90, .ref 171] _
                have q91 : (pj_fi G83 171 1).toInt = y13.toInt := by rw [show pj_fi G83 171 1 = y13 from by rw [hG83, pj_fi_wa]; exact hy13.symm]
                have q92 : (pj_fi G83 171 5).toInt = y14.toInt := by rw [show pj_fi G83 171 5 = y14 from by rw [hG83, pj_fi_wa]; exact hy14.symm]
                refine pj_X_ca (vs := [.ref 171, .int y90]) rfl (fun _ => rfl) ⟨Nat.le_of_ble_eq_true rfl, Nat.le_of_ble_eq_true rfl, pj_T_rcv iG83 rfl⟩ ⟨rfl, rfl⟩ (pj_Y_up (by decide) (ct_209 G83 iG83 y90)) ?_
                rintro _ _ ⟨y93, rfl, rfl, ry93⟩
                show pj_X _ _ G83 224 [(4, .int z87), (10, .int (Int32.ofInt 0)), (9, .int y67), (8, .int z38), (3, .int z36), (0, .ref 171), (1, .int sd), (2, .int n), (5, .int v5), (6, .int v6), (7, .int v7)] [.int y93] _
                refine pj_X_of (fun r h => pj_R_to (G83, 230, [(6, .int y93), (4, .int z87), (10, .int (Int32.ofInt 0)), (9, .int y67), (8, .int z38), (3, .int z36), (0, .ref 171), (1, .int sd), (2, .int n), (5, .int v5), (7, .int v7)], [.int y93, .int v5], 0, 0) 230 4 (fun _ => rfl) h) ?_
                refine pj_X_of (fun r h => pj_R_mn (v := (if y93 < v5 then y93 else v5)) rfl rfl rfl (Nat.le_of_ble_eq_true rfl) h) ?_
                show pj_X _ _ G83 233 [(6, .int y93), (4, .int z87), (10, .int (Int32.ofInt 0)), (9, .int y67), (8, .int z38), (3, .int z36), (0, .ref 171), (1, .int sd), (2, .int n), (5, .int v5), (7, .int v7)] [.int (if y93 < v5 then y93 else v5)] _
                obtain ⟨z94, hz94⟩ : ∃ z : Int32, z = (if y93 < v5 then y93 else v5) := ⟨_, rfl⟩
                refine pj_X_eqi hz94.symm ?_
                have fz94_0 : z94.toInt ≤ v5.toInt ∧ z94.toInt ≤ y93.toInt ∧ (z94.toInt = v5.toInt ∨ z94.toInt = y93.toInt) := by rw [hz94]; exact pj_minI
                refine pj_X_of (fun r h => pj_R_to (G83, 238, [(7, .int (v7 + Int32.ofInt 1)), (5, .int z94), (6, .int y93), (4, .int z87), (10, .int (Int32.ofInt 0)), (9, .int y67), (8, .int z38), (3, .int z36), (0, .ref 171), (1, .int sd), (2, .int n)], [], 0, 0) 238 3 (fun _ => rfl) h) ?_
                obtain ⟨z95, hz95⟩ : ∃ z : Int32, z = v7 + Int32.ofInt 1 := ⟨_, rfl⟩
                rw [← hz95]
                have fz95_0 : z95.toInt = v7.toInt + (Int32.ofInt 1).toInt := by rw [hz95]; exact pj_addI (by have := pj_i32 v7; have := pj_i32 (Int32.ofInt 1); omega) (by have := pj_i32 v7; have := pj_i32 (Int32.ofInt 1); omega)
                refine pj_X_of (fun r h => pj_R_to (G83, 78, [(7, .int z95), (5, .int z94), (6, .int y93), (4, .int z87), (10, .int (Int32.ofInt 0)), (9, .int y67), (8, .int z38), (3, .int z36), (0, .ref 171), (1, .int sd), (2, .int n)], [], 0, 0) 78 2 (fun _ => rfl) h) ?_
                have q96 : (pj_fi G83 171 1).toInt = y13.toInt := by rw [show pj_fi G83 171 1 = y13 from by rw [hG83, pj_fi_wa]; exact hy13.symm]
                have q97 : (pj_fi G83 171 5).toInt = y14.toInt := by rw [show pj_fi G83 171 5 = y14 from by rw [hG83, pj_fi_wa]; exact hy14.symm]
                exact pj_X_sub [(0, .ref 171), (1, .int sd), (2, .int n), (3, .int z36), (4, .int z87), (5, .int z94), (6, .int y93), (7, .int z95)] (show List.Nodup [0, 1, 2, 3, 4, 5, 6, 7] by decide) ⟨rfl, rfl, rfl, rfl, rfl, rfl, rfl, rfl, trivial⟩ (ih.2 G83 iG83 kG83 z36 z87 z94 y93 z95 (pj_i32 _) (pj_i32 _) (pj_i32 _) (pj_i32 _) ⟨by omega, by omega⟩ (by omega) (by omega) (by omega))
              | false =>
                have ub82 := pj_u0_eqF b82
                refine pj_X_of (fun r h => pj_R_ifF rfl b82 h) ?_
                refine pj_X_of (fun r h => pj_R_to (G, 157, [(9, .int y67), (8, .int z38), (3, .int z36), (0, .ref 171), (1, .int sd), (2, .int n), (4, .int v4), (5, .int v5), (6, .int v6), (7, .int v7)], [.ref 171], 0, 0) 157 2 (fun _ => rfl) h) ?_
                refine pj_X_of (fun r h => pj_T_gr hI rfl rfl rfl h) ?_
                refine pj_X_of (fun r h => pj_R_to (G, 162, [(9, .int y67), (8, .int z38), (3, .int z36), (0, .ref 171), (1, .int sd), (2, .int n), (4, .int v4), (5, .int v5), (6, .int v6), (7, .int v7)], [.int z38, .ref 177], 0, 0) 162 2 (fun _ => rfl) h) ?_
                refine pj_X_of (fun r h => pj_T_il hI rfl rfl (by omega) (by omega) h) ?_
                show pj_X _ _ G 163 [(9, .int y67), (8, .int z38), (3, .int z36), (0, .ref 171), (1, .int sd), (2, .int n), (4, .int v4), (5, .int v5), (6, .int v6), (7, .int v7)] [.int (pj_ai G 177 z38.toInt.toNat)] _
                obtain ⟨z98, hz98⟩ : ∃ z : Int32, z = pj_ai G 177 z38.toInt.toNat := ⟨_, rfl⟩
                refine pj_X_eqi hz98.symm ?_
                have ez98 : (pj_ai G 177 z38.toInt.toNat).toInt = z98.toInt := by rw [hz98]
                refine pj_X_of (fun r h => pj_R_to (G, 164, [(9, .int y67), (8, .int z38), (3, .int z36), (0, .ref 171), (1, .int sd), (2, .int n), (4, .int v4), (5, .int v5), (6, .int v6), (7, .int v7)], [.ref 171, .int z98], 0, 0) 164 2 (fun _ => rfl) h) ?_
                refine pj_X_of (fun r h => pj_T_gr hI rfl rfl rfl h) ?_
                refine pj_X_of (fun r h => pj_R_to (G, 169, [(9, .int y67), (8, .int z38), (3, .int z36), (0, .ref 171), (1, .int sd), (2, .int n), (4, .int v4), (5, .int v5), (6, .int v6), (7, .int v7)], [.int y67, .ref 176, .int z98], 0, 0) 169 2 (fun _ => rfl) h) ?_
                refine pj_X_of (fun r h => pj_T_il hI rfl rfl (by omega) (by omega) h) ?_
                show pj_X _ _ G 170 [(9, .int y67), (8, .int z38), (3, .int z36), (0, .ref 171), (1, .int sd), (2, .int n), (4, .int v4), (5, .int v5), (6, .int v6), (7, .int v7)] [.int (pj_ai G 176 y67.toInt.toNat), .int z98] _
                obtain ⟨z99, hz99⟩ : ∃ z : Int32, z = pj_ai G 176 y67.toInt.toNat := ⟨_, rfl⟩
                refine pj_X_eqi hz99.symm ?_
                have ez99 : (pj_ai G 176 y67.toInt.toNat).toInt = z99.toInt := by rw [hz99]
                cases b100 : pj_c1 .lt z98 z99 with
                | true =>
                  have ub100 := pj_u_ltT b100
                  refine pj_X_of (fun r h => pj_R_icT 177 rfl rfl b100 h) ?_
                  refine pj_X_of (fun r h => pj_R_to (G, 181, [(10, .int (Int32.ofInt 0)), (9, .int y67), (8, .int z38), (3, .int z36), (0, .ref 171), (1, .int sd), (2, .int n), (4, .int v4), (5, .int v5), (6, .int v6), (7, .int v7)], [.ref 171], 0, 0) 181 4 (fun _ => rfl) h) ?_
                  refine pj_X_of (fun r h => pj_T_gr hI rfl rfl rfl h) ?_
                  refine pj_X_of (fun r h => pj_R_to (G, 188, [(10, .int (Int32.ofInt 0)), (9, .int y67), (8, .int z38), (3, .int z36), (0, .ref 171), (1, .int sd), (2, .int n), (4, .int v4), (5, .int v5), (6, .int v6), (7, .int v7)], [.int (Int32.ofInt 0), .int z38, .ref 199], 0, 0) 188 3 (fun _ => rfl) h) ?_
                  refine pj_X_of (fun r h => pj_R_ifT 196 rfl rfl (pj_b0_eqT (by omega)) h) ?_
                  refine pj_X_of (fun r h => pj_R_to (G, 197, [(10, .int (Int32.ofInt 0)), (9, .int y67), (8, .int z38), (3, .int z36), (0, .ref 171), (1, .int sd), (2, .int n), (4, .int v4), (5, .int v5), (6, .int v6), (7, .int v7)], [.int (Int32.ofInt (-1)), .int z38, .ref 199], 0, 0) 197 2 (fun _ => rfl) h) ?_
                  refine pj_X_of (fun r h => pj_T_is hI rfl rfl (by omega) (by omega) h) ?_
                  show pj_X _ _ (pj_wa G 199 z38.toInt.toNat (Int32.ofInt (-1))) 198 [(10, .int (Int32.ofInt 0)), (9, .int y67), (8, .int z38), (3, .int z36), (0, .ref 171), (1, .int sd), (2, .int n), (4, .int v4), (5, .int v5), (6, .int v6), (7, .int v7)] [] _
                  obtain ⟨G101, hG101⟩ : ∃ H, H = pj_wa G 199 z38.toInt.toNat (Int32.ofInt (-1)) := ⟨_, rfl⟩
                  have iG101 : pj_Inv G101 := by rw [hG101]; exact pj_Inv_wa hI rfl (fun q hq => by cases hq; exact ⟨by show (-1 : Int) ≤ _; omega, by show _ ≤ (9 : Int); omega, by show _ ≤ (-1 : Int) ∨ (-1 : Int) ≤ _; omega⟩) (fun n hn => by cases hn)
                  have kG101 : pj_kpt kc_280 G0 G101 := by rw [hG101]; exact pj_kpt_a hK rfl
                  rw [← hG101]
                  refine pj_X_of (fun r h => pj_R_to (G101, 202, [(10, .int (Int32.ofInt 0)), (9, .int y67), (8, .int z38), (3, .int z36), (0, .ref 171), (1, .int sd), (2, .int n), (4, .int v4), (5, .int v5), (6, .int v6), (7, .int v7)], [.int (Int32.ofInt 0), .int v4], 0, 0) 202 3 (fun _ => rfl) h) ?_
                  refine pj_X_of (fun r h => pj_R_ifF rfl (pj_b0_neF (by omega)) h) ?_
                  refine pj_X_of (fun r h => pj_R_to (G101, 210, [(10, .int (Int32.ofInt 0)), (9, .int y67), (8, .int z38), (3, .int z36), (0, .ref 171), (1, .int sd), (2, .int n), (4, .int v4), (5, .int v5), (6, .int v6), (7, .int v7)], [.int (Int32.ofInt 1), .int v4], 0, 0) 210 3 (fun _ => rfl) h) ?_
                  have q102 : (pj_fi G101 171 1).toInt = y13.toInt := by rw [show pj_fi G101 171 1 = y13 from by rw [hG101, pj_fi_wa]; exact hy13.symm]
                  have q103 : (pj_fi G101 171 5).toInt = y14.toInt := by rw [show pj_fi G101 171 5 = y14 from by rw [hG101, pj_fi_wa]; exact hy14.symm]
                  refine pj_X_ca (vs := [.int (Int32.ofInt 1)]) rfl (fun _ => rfl) ⟨Nat.le_of_ble_eq_true rfl, Nat.le_of_ble_eq_true rfl, rfl⟩ ⟨rfl, rfl⟩ (pj_Y_up (by decide) (ct_172x G101 iG101 (Int32.ofInt 1) ⟨by omega, by omega⟩)) ?_
                  rintro _ _ ⟨y104, rfl, rfl, ry104, ey104, fy104⟩
                  show pj_X _ _ G101 213 [(10, .int (Int32.ofInt 0)), (9, .int y67), (8, .int z38), (3, .int z36), (0, .ref 171), (1, .int sd), (2, .int n), (4, .int v4), (5, .int v5), (6, .int v6), (7, .int v7)] [.int y104, .int v4] _
                  refine pj_X_of (fun r h => pj_R_to (G101, 214, [(10, .int (Int32.ofInt 0)), (9, .int y67), (8, .int z38), (3, .int z36), (0, .ref 171), (1, .int sd), (2, .int n), (4, .int v4), (5, .int v5), (6, .int v6), (7, .int v7)], [.int (v4 + y104)], 0, 0) 214 2 (fun _ => rfl) h) ?_
                  obtain ⟨z105, hz105⟩ : ∃ z : Int32, z = v4 + y104 := ⟨_, rfl⟩
                  refine pj_X_eqi hz105.symm ?_
                  refine pj_X_of (fun r h => pj_R_to (G101, 218, [(4, .int z105), (10, .int (Int32.ofInt 0)), (9, .int y67), (8, .int z38), (3, .int z36), (0, .ref 171), (1, .int sd), (2, .int n), (5, .int v5), (6, .int v6), (7, .int v7)], [.ref 171, .ref 171], 0, 0) 218 4 (fun _ => rfl) h) ?_
                  have q106 : (pj_fi G101 171 1).toInt = y13.toInt := by rw [show pj_fi G101 171 1 = y13 from by rw [hG101, pj_fi_wa]; exact hy13.symm]
                  have q107 : (pj_fi G101 171 5).toInt = y14.toInt := by rw [show pj_fi G101 171 5 = y14 from by rw [hG101, pj_fi_wa]; exact hy14.symm]
                  refine pj_X_ca (vs := [.ref 171]) rfl (fun _ => rfl) ⟨Nat.le_of_ble_eq_true rfl, Nat.le_of_ble_eq_true rfl, pj_T_rcv iG101 rfl⟩ ⟨rfl, rfl⟩ (pj_Y_up (by decide) (ct_278 G101 iG101)) ?_
                  rintro _ _ ⟨y108, rfl, rfl, ry108⟩
                  show pj_X _ _ G101 221 [(4, .int z105), (10, .int (Int32.ofInt 0)), (9, .int y67), (8, .int z38), (3, .int z36), (0, .ref 171), (1, .int sd), (2, .int n), (5, .int v5), (6, .int v6), (7, .int v7)] [.int y108, .ref 171] _
                  have q109 : (pj_fi G101 171 1).toInt = y13.toInt := by rw [show pj_fi G101 171 1 = y13 from by rw [hG101, pj_fi_wa]; exact hy13.symm]
                  have q110 : (pj_fi G101 171 5).toInt = y14.toInt := by rw [show pj_fi G101 171 5 = y14 from by rw [hG101, pj_fi_wa]; exact hy14.symm]
                  refine pj_X_ca (vs := [.ref 171, .int y108]) rfl (fun _ => rfl) ⟨Nat.le_of_ble_eq_true rfl, Nat.le_of_ble_eq_true rfl, pj_T_rcv iG101 rfl⟩ ⟨rfl, rfl⟩ (pj_Y_up (by decide) (ct_209 G101 iG101 y108)) ?_
                  rintro _ _ ⟨y111, rfl, rfl, ry111⟩
                  show pj_X _ _ G101 224 [(4, .int z105), (10, .int (Int32.ofInt 0)), (9, .int y67), (8, .int z38), (3, .int z36), (0, .ref 171), (1, .int sd), (2, .int n), (5, .int v5), (6, .int v6), (7, .int v7)] [.int y111] _
                  refine pj_X_of (fun r h => pj_R_to (G101, 230, [(6, .int y111), (4, .int z105), (10, .int (Int32.ofInt 0)), (9, .int y67), (8, .int z38), (3, .int z36), (0, .ref 171), (1, .int sd), (2, .int n), (5, .int v5), (7, .int v7)], [.int y111, .int v5], 0, 0) 230 4 (fun _ => rfl) h) ?_
                  refine pj_X_of (fun r h => pj_R_mn (v := (if y111 < v5 then y111 else v5)) rfl rfl rfl (Nat.le_of_ble_eq_true rfl) h) ?_
                  show pj_X _ _ G101 233 [(6, .int y111), (4, .int z105), (10, .int (Int32.ofInt 0)), (9, .int y67), (8, .int z38), (3, .int z36), (0, .ref 171), (1, .int sd), (2, .int n), (5, .int v5), (7, .int v7)] [.int (if y111 < v5 then y111 else v5)] _
                  obtain ⟨z112, hz112⟩ : ∃ z : Int32, z = (if y111 < v5 then y111 else v5) := ⟨_, rfl⟩
                  refine pj_X_eqi hz112.symm ?_
                  have fz112_0 : z112.toInt ≤ v5.toInt ∧ z112.toInt ≤ y111.toInt ∧ (z112.toInt = v5.toInt ∨ z112.toInt = y111.toInt) := by rw [hz112]; exact pj_minI
                  refine pj_X_of (fun r h => pj_R_to (G101, 238, [(7, .int (v7 + Int32.ofInt 1)), (5, .int z112), (6, .int y111), (4, .int z105), (10, .int (Int32.ofInt 0)), (9, .int y67), (8, .int z38), (3, .int z36), (0, .ref 171), (1, .int sd), (2, .int n)], [], 0, 0) 238 3 (fun _ => rfl) h) ?_
                  obtain ⟨z113, hz113⟩ : ∃ z : Int32, z = v7 + Int32.ofInt 1 := ⟨_, rfl⟩
                  rw [← hz113]
                  have fz113_0 : z113.toInt = v7.toInt + (Int32.ofInt 1).toInt := by rw [hz113]; exact pj_addI (by have := pj_i32 v7; have := pj_i32 (Int32.ofInt 1); omega) (by have := pj_i32 v7; have := pj_i32 (Int32.ofInt 1); omega)
                  refine pj_X_of (fun r h => pj_R_to (G101, 78, [(7, .int z113), (5, .int z112), (6, .int y111), (4, .int z105), (10, .int (Int32.ofInt 0)), (9, .int y67), (8, .int z38), (3, .int z36), (0, .ref 171), (1, .int sd), (2, .int n)], [], 0, 0) 78 2 (fun _ => rfl) h) ?_
                  have q114 : (pj_fi G101 171 1).toInt = y13.toInt := by rw [show pj_fi G101 171 1 = y13 from by rw [hG101, pj_fi_wa]; exact hy13.symm]
                  have q115 : (pj_fi G101 171 5).toInt = y14.toInt := by rw [show pj_fi G101 171 5 = y14 from by rw [hG101, pj_fi_wa]; exact hy14.symm]
                  exact pj_X_sub [(0, .ref 171), (1, .int sd), (2, .int n), (3, .int z36), (4, .int z105), (5, .int z112), (6, .int y111), (7, .int z113)] (show List.Nodup [0, 1, 2, 3, 4, 5, 6, 7] by decide) ⟨rfl, rfl, rfl, rfl, rfl, rfl, rfl, rfl, trivial⟩ (ih.2 G101 iG101 kG101 z36 z105 z112 y111 z113 (pj_i32 _) (pj_i32 _) (pj_i32 _) (pj_i32 _) ⟨by omega, by omega⟩ (by omega) (by omega) (by omega))
                | false =>
                  have ub100 := pj_u_ltF b100
                  refine pj_X_of (fun r h => pj_R_icF rfl b100 h) ?_
                  refine pj_X_of (fun r h => pj_R_to (G, 181, [(10, .int (Int32.ofInt 1)), (9, .int y67), (8, .int z38), (3, .int z36), (0, .ref 171), (1, .int sd), (2, .int n), (4, .int v4), (5, .int v5), (6, .int v6), (7, .int v7)], [.ref 171], 0, 0) 181 5 (fun _ => rfl) h) ?_
                  refine pj_X_of (fun r h => pj_T_gr hI rfl rfl rfl h) ?_
                  refine pj_X_of (fun r h => pj_R_to (G, 188, [(10, .int (Int32.ofInt 1)), (9, .int y67), (8, .int z38), (3, .int z36), (0, .ref 171), (1, .int sd), (2, .int n), (4, .int v4), (5, .int v5), (6, .int v6), (7, .int v7)], [.int (Int32.ofInt 1), .int z38, .ref 199], 0, 0) 188 3 (fun _ => rfl) h) ?_
                  refine pj_X_of (fun r h => pj_R_ifF rfl (pj_b0_eqF (by omega)) h) ?_
                  refine pj_X_of (fun r h => pj_R_to (G, 197, [(10, .int (Int32.ofInt 1)), (9, .int y67), (8, .int z38), (3, .int z36), (0, .ref 171), (1, .int sd), (2, .int n), (4, .int v4), (5, .int v5), (6, .int v6), (7, .int v7)], [.int y67, .int z38, .ref 199], 0, 0) 197 3 (fun _ => rfl) h) ?_
                  refine pj_X_of (fun r h => pj_T_is hI rfl rfl (by omega) (by omega) h) ?_
                  show pj_X _ _ (pj_wa G 199 z38.toInt.toNat y67) 198 [(10, .int (Int32.ofInt 1)), (9, .int y67), (8, .int z38), (3, .int z36), (0, .ref 171), (1, .int sd), (2, .int n), (4, .int v4), (5, .int v5), (6, .int v6), (7, .int v7)] [] _
                  obtain ⟨G116, hG116⟩ : ∃ H, H = pj_wa G 199 z38.toInt.toNat y67 := ⟨_, rfl⟩
                  have iG116 : pj_Inv G116 := by rw [hG116]; exact pj_Inv_wa hI rfl (fun q hq => by cases hq; exact ⟨by show (-1 : Int) ≤ _; omega, by show _ ≤ (9 : Int); omega, by show _ ≤ (-1 : Int) ∨ (-1 : Int) ≤ _; omega⟩) (fun n hn => by cases hn)
                  have kG116 : pj_kpt kc_280 G0 G116 := by rw [hG116]; exact pj_kpt_a hK rfl
                  rw [← hG116]
                  refine pj_X_of (fun r h => pj_R_to (G116, 202, [(10, .int (Int32.ofInt 1)), (9, .int y67), (8, .int z38), (3, .int z36), (0, .ref 171), (1, .int sd), (2, .int n), (4, .int v4), (5, .int v5), (6, .int v6), (7, .int v7)], [.int (Int32.ofInt 1), .int v4], 0, 0) 202 3 (fun _ => rfl) h) ?_
                  refine pj_X_of (fun r h => pj_R_ifT 209 rfl rfl (pj_b0_neT (by omega)) h) ?_
                  refine pj_X_of (fun r h => pj_R_to (G116, 210, [(10, .int (Int32.ofInt 1)), (9, .int y67), (8, .int z38), (3, .int z36), (0, .ref 171), (1, .int sd), (2, .int n), (4, .int v4), (5, .int v5), (6, .int v6), (7, .int v7)], [.int (Int32.ofInt 0), .int v4], 0, 0) 210 2 (fun _ => rfl) h) ?_
                  have q117 : (pj_fi G116 171 1).toInt = y13.toInt := by rw [show pj_fi G116 171 1 = y13 from by rw [hG116, pj_fi_wa]; exact hy13.symm]
                  have q118 : (pj_fi G116 171 5).toInt = y14.toInt := by rw [show pj_fi G116 171 5 = y14 from by rw [hG116, pj_fi_wa]; exact hy14.symm]
                  refine pj_X_ca (vs := [.int (Int32.ofInt 0)]) rfl (fun _ => rfl) ⟨Nat.le_of_ble_eq_true rfl, Nat.le_of_ble_eq_true rfl, rfl⟩ ⟨rfl, rfl⟩ (pj_Y_up (by decide) (ct_172x G116 iG116 (Int32.ofInt 0) ⟨by omega, by omega⟩)) ?_
                  rintro _ _ ⟨y119, rfl, rfl, ry119, ey119, fy119⟩
                  show pj_X _ _ G116 213 [(10, .int (Int32.ofInt 1)), (9, .int y67), (8, .int z38), (3, .int z36), (0, .ref 171), (1, .int sd), (2, .int n), (4, .int v4), (5, .int v5), (6, .int v6), (7, .int v7)] [.int y119, .int v4] _
                  refine pj_X_of (fun r h => pj_R_to (G116, 214, [(10, .int (Int32.ofInt 1)), (9, .int y67), (8, .int z38), (3, .int z36), (0, .ref 171), (1, .int sd), (2, .int n), (4, .int v4), (5, .int v5), (6, .int v6), (7, .int v7)], [.int (v4 + y119)], 0, 0) 214 2 (fun _ => rfl) h) ?_
                  obtain ⟨z120, hz120⟩ : ∃ z : Int32, z = v4 + y119 := ⟨_, rfl⟩
                  refine pj_X_eqi hz120.symm ?_
                  refine pj_X_of (fun r h => pj_R_to (G116, 218, [(4, .int z120), (10, .int (Int32.ofInt 1)), (9, .int y67), (8, .int z38), (3, .int z36), (0, .ref 171), (1, .int sd), (2, .int n), (5, .int v5), (6, .int v6), (7, .int v7)], [.ref 171, .ref 171], 0, 0) 218 4 (fun _ => rfl) h) ?_
                  have q121 : (pj_fi G116 171 1).toInt = y13.toInt := by rw [show pj_fi G116 171 1 = y13 from by rw [hG116, pj_fi_wa]; exact hy13.symm]
                  have q122 : (pj_fi G116 171 5).toInt = y14.toInt := by rw [show pj_fi G116 171 5 = y14 from by rw [hG116, pj_fi_wa]; exact hy14.symm]
                  refine pj_X_ca (vs := [.ref 171]) rfl (fun _ => rfl) ⟨Nat.le_of_ble_eq_true rfl, Nat.le_of_ble_eq_true rfl, pj_T_rcv iG116 rfl⟩ ⟨rfl, rfl⟩ (pj_Y_up (by decide) (ct_278 G116 iG116)) ?_
                  rintro _ _ ⟨y123, rfl, rfl, ry123⟩
                  show pj_X _ _ G116 221 [(4, .int z120), (10, .int (Int32.ofInt 1)), (9, .int y67), (8, .int z38), (3, .int z36), (0, .ref 171), (1, .int sd), (2, .int n), (5, .int v5), (6, .int v6), (7, .int v7)] [.int y123, .ref 171] _
                  have q124 : (pj_fi G116 171 1).toInt = y13.toInt := by rw [show pj_fi G116 171 1 = y13 from by rw [hG116, pj_fi_wa]; exact hy13.symm]
                  have q125 : (pj_fi G116 171 5).toInt = y14.toInt := by rw [show pj_fi G116 171 5 = y14 from by rw [hG116, pj_fi_wa]; exact hy14.symm]
                  refine pj_X_ca (vs := [.ref 171, .int y123]) rfl (fun _ => rfl) ⟨Nat.le_of_ble_eq_true rfl, Nat.le_of_ble_eq_true rfl, pj_T_rcv iG116 rfl⟩ ⟨rfl, rfl⟩ (pj_Y_up (by decide) (ct_209 G116 iG116 y123)) ?_
                  rintro _ _ ⟨y126, rfl, rfl, ry126⟩
                  show pj_X _ _ G116 224 [(4, .int z120), (10, .int (Int32.ofInt 1)), (9, .int y67), (8, .int z38), (3, .int z36), (0, .ref 171), (1, .int sd), (2, .int n), (5, .int v5), (6, .int v6), (7, .int v7)] [.int y126] _
                  refine pj_X_of (fun r h => pj_R_to (G116, 230, [(6, .int y126), (4, .int z120), (10, .int (Int32.ofInt 1)), (9, .int y67), (8, .int z38), (3, .int z36), (0, .ref 171), (1, .int sd), (2, .int n), (5, .int v5), (7, .int v7)], [.int y126, .int v5], 0, 0) 230 4 (fun _ => rfl) h) ?_
                  refine pj_X_of (fun r h => pj_R_mn (v := (if y126 < v5 then y126 else v5)) rfl rfl rfl (Nat.le_of_ble_eq_true rfl) h) ?_
                  show pj_X _ _ G116 233 [(6, .int y126), (4, .int z120), (10, .int (Int32.ofInt 1)), (9, .int y67), (8, .int z38), (3, .int z36), (0, .ref 171), (1, .int sd), (2, .int n), (5, .int v5), (7, .int v7)] [.int (if y126 < v5 then y126 else v5)] _
                  obtain ⟨z127, hz127⟩ : ∃ z : Int32, z = (if y126 < v5 then y126 else v5) := ⟨_, rfl⟩
                  refine pj_X_eqi hz127.symm ?_
                  have fz127_0 : z127.toInt ≤ v5.toInt ∧ z127.toInt ≤ y126.toInt ∧ (z127.toInt = v5.toInt ∨ z127.toInt = y126.toInt) := by rw [hz127]; exact pj_minI
                  refine pj_X_of (fun r h => pj_R_to (G116, 238, [(7, .int (v7 + Int32.ofInt 1)), (5, .int z127), (6, .int y126), (4, .int z120), (10, .int (Int32.ofInt 1)), (9, .int y67), (8, .int z38), (3, .int z36), (0, .ref 171), (1, .int sd), (2, .int n)], [], 0, 0) 238 3 (fun _ => rfl) h) ?_
                  obtain ⟨z128, hz128⟩ : ∃ z : Int32, z = v7 + Int32.ofInt 1 := ⟨_, rfl⟩
                  rw [← hz128]
                  have fz128_0 : z128.toInt = v7.toInt + (Int32.ofInt 1).toInt := by rw [hz128]; exact pj_addI (by have := pj_i32 v7; have := pj_i32 (Int32.ofInt 1); omega) (by have := pj_i32 v7; have := pj_i32 (Int32.ofInt 1); omega)
                  refine pj_X_of (fun r h => pj_R_to (G116, 78, [(7, .int z128), (5, .int z127), (6, .int y126), (4, .int z120), (10, .int (Int32.ofInt 1)), (9, .int y67), (8, .int z38), (3, .int z36), (0, .ref 171), (1, .int sd), (2, .int n)], [], 0, 0) 78 2 (fun _ => rfl) h) ?_
                  have q129 : (pj_fi G116 171 1).toInt = y13.toInt := by rw [show pj_fi G116 171 1 = y13 from by rw [hG116, pj_fi_wa]; exact hy13.symm]
                  have q130 : (pj_fi G116 171 5).toInt = y14.toInt := by rw [show pj_fi G116 171 5 = y14 from by rw [hG116, pj_fi_wa]; exact hy14.symm]
                  exact pj_X_sub [(0, .ref 171), (1, .int sd), (2, .int n), (3, .int z36), (4, .int z120), (5, .int z127), (6, .int y126), (7, .int z128)] (show List.Nodup [0, 1, 2, 3, 4, 5, 6, 7] by decide) ⟨rfl, rfl, rfl, rfl, rfl, rfl, rfl, rfl, trivial⟩ (ih.2 G116 iG116 kG116 z36 z120 z127 y126 z128 (pj_i32 _) (pj_i32 _) (pj_i32 _) (pj_i32 _) ⟨by omega, by omega⟩ (by omega) (by omega) (by omega))
theorem ct_280 (G0 : pj_G) (hI : pj_Inv G0) (sd : Int32) (n : Int32) : pj_Y 5 280 [.ref 171, .int sd, .int n] G0 (fun v G' => ∃ y : Int32, v = some (.int y) ∧ pj_Inv G' ∧ pj_kpt kc_280 G0 G' ∧ ((-2147483648 : Int) ≤ y.toInt ∧ y.toInt ≤ 2147483647)) := by
  have c0_ : ((Int16.ofInt 1000).toInt32).toInt = 1000 := by decide
  have c1_ : ((Int16.ofInt 12345).toInt32).toInt = 12345 := by decide
  have c2_ : ((Int8.ofInt 16).toInt32).toInt = 16 := by decide
  have c3_ : (Int32.ofInt (-1)).toInt = -1 := by decide
  have c4_ : (Int32.ofInt 0).toInt = 0 := by decide
  have c5_ : (Int32.ofInt 1).toInt = 1 := by decide
  have c6_ : (Int32.ofInt 1103515245).toInt = 1103515245 := by decide
  have c7_ : (Int32.ofInt 4).toInt = 4 := by decide
  refine pj_Y_X (M := pj_m280) rfl rfl (Nat.le_of_ble_eq_true rfl) ?_
  have hK : pj_kpt kc_280 G0 G0 := pj_kpt_r _ _
  show pj_X _ _ G0 0 [(0, .ref 171), (1, .int sd), (2, .int n)] [] _
  obtain ⟨y131, hy131⟩ : ∃ z : Int32, z = pj_fi G0 171 1 := ⟨_, rfl⟩
  have ey131 : (pj_fi G0 171 1).toInt = y131.toInt := by rw [hy131]
  have ry131 : (0 : Int) ≤ y131.toInt ∧ y131.toInt ≤ 24 := by rw [hy131]; exact hI.2.1 171 1 (0, 24) rfl
  obtain ⟨y132, hy132⟩ : ∃ z : Int32, z = pj_fi G0 171 5 := ⟨_, rfl⟩
  have ey132 : (pj_fi G0 171 5).toInt = y132.toInt := by rw [hy132]
  have ry132 : (0 : Int) ≤ y132.toInt ∧ y132.toInt ≤ 6 := by rw [hy132]; exact hI.2.1 171 5 (0, 6) rfl
  refine pj_X_of (fun r h => pj_R_to (G0, 2, [(0, .ref 171), (1, .int sd), (2, .int n)], [.int (Int32.ofInt 0), .ref 171], 0, 0) 2 3 (fun _ => rfl) h) ?_
  refine pj_X_of (fun r h => pj_T_pf hI rfl rfl rfl h) ?_
  show pj_X _ _ (pj_wv G0 171 0 (.int (Int32.ofInt 0))) 5 [(0, .ref 171), (1, .int sd), (2, .int n)] [] _
  obtain ⟨G133, hG133⟩ : ∃ H, H = pj_wv G0 171 0 (.int (Int32.ofInt 0)) := ⟨_, rfl⟩
  have iG133 : pj_Inv G133 := by rw [hG133]; exact pj_Inv_wi hI (ci := 12) rfl (fun q hq => by cases hq)
  have kG133 : pj_kpt kc_280 G0 G133 := by rw [hG133]; exact pj_kpt_v hK rfl
  rw [← hG133]
  refine pj_X_of (fun r h => pj_R_to (G133, 11, [(0, .ref 171), (1, .int sd), (2, .int n)], [.long (Int64.ofInt 60), .long (Int64.ofNat 1), .long n.toInt64], 0, 0) 11 5 (fun _ => rfl) h) ?_
  have q134 : (pj_fi G133 171 1).toInt = y131.toInt := by rw [show pj_fi G133 171 1 = y131 from by rw [hG133, pj_fi_wv_ne _ _ _ _ _ _ (by decide)]; exact hy131.symm]
  have q135 : (pj_fi G133 171 5).toInt = y132.toInt := by rw [show pj_fi G133 171 5 = y132 from by rw [hG133, pj_fi_wv_ne _ _ _ _ _ _ (by decide)]; exact hy132.symm]
  have lc136 : (n.toInt64).toInt = n.toInt := Int32.toInt_toInt64 _
  have lc137 : (Int64.ofNat 1).toInt = 1 := by decide
  have lc138 : (Int64.ofInt 60).toInt = 60 := by decide
  refine pj_X_ca (vs := [.long n.toInt64, .long (Int64.ofNat 1), .long (Int64.ofInt 60)]) rfl (fun _ => rfl) ⟨Nat.le_of_ble_eq_true rfl, Nat.le_of_ble_eq_true rfl, rfl⟩ ⟨rfl, rfl⟩ (pj_Y_up (by decide) (ct_170x G133 iG133 n.toInt64 (Int64.ofNat 1) (Int64.ofInt 60))) ?_
  rintro _ _ ⟨y139, rfl, rfl, ry139, ey139, fy139⟩
  show pj_X _ _ G133 14 [(0, .ref 171), (1, .int sd), (2, .int n)] [.int y139] _
  cases b140 : pj_c1 .eq y139 0 with
  | true =>
    have ub140 := pj_u0_eqT b140
    refine pj_X_of (fun r h => pj_R_ifT 24 rfl rfl b140 h) ?_
    refine pj_X_of (fun r h => pj_R_to (G133, 25, [(0, .ref 171), (1, .int sd), (2, .int n)], [.int (Int32.ofInt (-1))], 0, 0) 25 2 (fun _ => rfl) h) ?_
    have q141 : (pj_fi G133 171 1).toInt = y131.toInt := by rw [show pj_fi G133 171 1 = y131 from by rw [hG133, pj_fi_wv_ne _ _ _ _ _ _ (by decide)]; exact hy131.symm]
    have q142 : (pj_fi G133 171 5).toInt = y132.toInt := by rw [show pj_fi G133 171 5 = y132 from by rw [hG133, pj_fi_wv_ne _ _ _ _ _ _ (by decide)]; exact hy132.symm]
    exact pj_X_rt rfl rfl ⟨_, rfl, iG133, kG133, pj_i32 _⟩
  | false =>
    have ub140 := pj_u0_eqF b140
    refine pj_X_of (fun r h => pj_R_ifF rfl b140 h) ?_
    refine pj_X_of (fun r h => pj_R_to (G133, 18, [(0, .ref 171), (1, .int sd), (2, .int n)], [.ref 171], 0, 0) 18 2 (fun _ => rfl) h) ?_
    refine pj_X_of (fun r h => pj_T_gi iG133 rfl rfl h) ?_
    show pj_X _ _ G133 21 [(0, .ref 171), (1, .int sd), (2, .int n)] [.int (pj_fi G133 171 5)] _
    refine pj_X_eqi (show pj_fi G133 171 5 = y132 from by rw [hG133, pj_fi_wv_ne _ _ _ _ _ _ (by decide)]; exact hy132.symm) ?_
    cases b143 : pj_c1 .ne y132 0 with
    | true =>
      have ub143 := pj_u0_neT b143
      refine pj_X_of (fun r h => pj_R_ifT 26 rfl rfl b143 h) ?_
      refine pj_X_of (fun r h => pj_R_to (G133, 31, [(4, .int (Int32.ofInt 0)), (3, .int sd), (0, .ref 171), (1, .int sd), (2, .int n)], [], 0, 0) 31 5 (fun _ => rfl) h) ?_
      have q144 : (pj_fi G133 171 1).toInt = y131.toInt := by rw [show pj_fi G133 171 1 = y131 from by rw [hG133, pj_fi_wv_ne _ _ _ _ _ _ (by decide)]; exact hy131.symm]
      have q145 : (pj_fi G133 171 5).toInt = y132.toInt := by rw [show pj_fi G133 171 5 = y132 from by rw [hG133, pj_fi_wv_ne _ _ _ _ _ _ (by decide)]; exact hy132.symm]
      exact pj_X_sub [(0, .ref 171), (1, .int sd), (2, .int n), (3, .int sd), (4, .int (Int32.ofInt 0))] (show List.Nodup [0, 1, 2, 3, 4] by decide) ⟨rfl, rfl, rfl, rfl, rfl, trivial⟩ ((lp_ct_280 G0 hI sd n  2001).1 G133 iG133 kG133 sd (Int32.ofInt 0) (pj_i32 _) ⟨by omega, by omega⟩ (by omega) (by omega) (by omega))
    | false =>
      have ub143 := pj_u0_neF b143
      refine pj_X_of (fun r h => pj_R_ifF rfl b143 h) ?_
      refine pj_X_of (fun r h => pj_R_to (G133, 25, [(0, .ref 171), (1, .int sd), (2, .int n)], [.int (Int32.ofInt (-1))], 0, 0) 25 2 (fun _ => rfl) h) ?_
      have q146 : (pj_fi G133 171 1).toInt = y131.toInt := by rw [show pj_fi G133 171 1 = y131 from by rw [hG133, pj_fi_wv_ne _ _ _ _ _ _ (by decide)]; exact hy131.symm]
      have q147 : (pj_fi G133 171 5).toInt = y132.toInt := by rw [show pj_fi G133 171 5 = y132 from by rw [hG133, pj_fi_wv_ne _ _ _ _ _ _ (by decide)]; exact hy132.symm]
      exact pj_X_rt rfl rfl ⟨_, rfl, iG133, kG133, pj_i32 _⟩
def kc_281 : pj_KT := ([(171, 0)], [171, 200, 201, 202], [200, 201, 202])
theorem lp_ct_281 (G0 : pj_G) (hI0 : pj_Inv G0) (i : Int32) : ∀ mn : Nat, (∀ (G : pj_G) (hI : pj_Inv G) (hK : pj_kpt kc_281 G0 G) (v2 : Int32), ((0 : Int) ≤ v2.toInt ∧ v2.toInt ≤ 32) → (0 ≤ i.toInt ∧ i.toInt ≤ 2) → 32 - v2.toInt < (mn : Int) → pj_X 1 pj_m281 G 38 [(0, .ref 171), (1, .int i), (2, .int v2)] [] (fun v G' => ∃ y : Int32, v = some (.int y) ∧ pj_Inv G' ∧ pj_kpt kc_281 G0 G' ∧ ((0 : Int) ≤ y.toInt ∧ y.toInt ≤ 1))) := by
  have c0_ : ((Int8.ofInt 32).toInt32).toInt = 32 := by decide
  have c1_ : (Int32.ofInt 0).toInt = 0 := by decide
  have c2_ : (Int32.ofInt 1).toInt = 1 := by decide
  intro mn
  induction mn with
  | zero =>
    intro G hI hK v2 rv2 x0_ hm
    exfalso
    omega
  | succ mn ih =>
    intro G hI hK v2 rv2 x0_ hm
    refine pj_X_of (fun r h => pj_R_to (G, 41, [(0, .ref 171), (1, .int i), (2, .int v2)], [.int ((Int8.ofInt 32).toInt32), .int v2], 0, 0) 41 3 (fun _ => rfl) h) ?_
    cases b1 : pj_c1 .ge v2 ((Int8.ofInt 32).toInt32) with
    | true =>
      have ub1 := pj_u_geT b1
      refine pj_X_of (fun r h => pj_R_icT 67 rfl rfl b1 h) ?_
      refine pj_X_of (fun r h => pj_R_to (G, 68, [(0, .ref 171), (1, .int i), (2, .int v2)], [.int (Int32.ofInt 1)], 0, 0) 68 2 (fun _ => rfl) h) ?_
      exact pj_X_rt rfl rfl ⟨_, rfl, hI, hK, ⟨by omega, by omega⟩⟩
    | false =>
      have ub1 := pj_u_geF b1
      refine pj_X_of (fun r h => pj_R_icF rfl b1 h) ?_
      refine pj_X_of (fun r h => pj_R_to (G, 45, [(0, .ref 171), (1, .int i), (2, .int v2)], [.ref 171], 0, 0) 45 2 (fun _ => rfl) h) ?_
      refine pj_X_of (fun r h => pj_T_gr hI rfl rfl rfl h) ?_
      refine pj_X_of (fun r h => pj_R_to (G, 52, [(0, .ref 171), (1, .int i), (2, .int v2)], [.int (((Int8.ofInt 32).toInt32) * i), .ref 202], 0, 0) 52 4 (fun _ => rfl) h) ?_
      obtain ⟨z2, hz2⟩ : ∃ z : Int32, z = ((Int8.ofInt 32).toInt32) * i := ⟨_, rfl⟩
      refine pj_X_eqi hz2.symm ?_
      have fz2_0 : z2.toInt = 32 * i.toInt := by rw [hz2]; exact pj_mulL (by decide) (by omega) (by omega)
      refine pj_X_of (fun r h => pj_R_to (G, 54, [(0, .ref 171), (1, .int i), (2, .int v2)], [.int (z2 + v2), .ref 202], 0, 0) 54 3 (fun _ => rfl) h) ?_
      obtain ⟨z3, hz3⟩ : ∃ z : Int32, z = z2 + v2 := ⟨_, rfl⟩
      refine pj_X_eqi hz3.symm ?_
      have fz3_0 : z3.toInt = z2.toInt + v2.toInt := by rw [hz3]; exact pj_addI (by have := pj_i32 z2; have := pj_i32 v2; omega) (by have := pj_i32 z2; have := pj_i32 v2; omega)
      refine pj_X_of (fun r h => pj_R_to (G, 55, [(0, .ref 171), (1, .int i), (2, .int v2)], [.ref 171, .int z3, .ref 202], 0, 0) 55 2 (fun _ => rfl) h) ?_
      refine pj_X_of (fun r h => pj_T_gr hI rfl rfl rfl h) ?_
      refine pj_X_of (fun r h => pj_R_to (G, 59, [(0, .ref 171), (1, .int i), (2, .int v2)], [.int v2, .ref 179, .int z3, .ref 202], 0, 0) 59 2 (fun _ => rfl) h) ?_
      refine pj_X_of (fun r h => pj_T_il hI rfl rfl (by omega) (by omega) h) ?_
      show pj_X _ _ G 60 [(0, .ref 171), (1, .int i), (2, .int v2)] [.int (pj_ai G 179 v2.toInt.toNat), .int z3, .ref 202] _
      obtain ⟨z4, hz4⟩ : ∃ z : Int32, z = pj_ai G 179 v2.toInt.toNat := ⟨_, rfl⟩
      refine pj_X_eqi hz4.symm ?_
      have ez4 : (pj_ai G 179 v2.toInt.toNat).toInt = z4.toInt := by rw [hz4]
      have fz4_0 : (v2.toInt.toNat % 32 < 24 → (v2.toInt.toNat % 4 = 0 → -1 ≤ z4.toInt ∧ z4.toInt ≤ 9) ∧ (v2.toInt.toNat % 4 = 1 → 0 ≤ z4.toInt)) ∧ (24 ≤ v2.toInt.toNat % 32 ∧ v2.toInt.toNat % 32 < 30 → 0 ≤ z4.toInt ∧ z4.toInt ≤ 7) := by rw [hz4]; exact hI.2.2.2 179 32 rfl _ (by show _ < 32; omega)
      refine pj_X_of (fun r h => pj_T_is hI rfl rfl (by omega) (by omega) h) ?_
      show pj_X _ _ (pj_wa G 202 z3.toInt.toNat z4) 61 [(0, .ref 171), (1, .int i), (2, .int v2)] [] _
      obtain ⟨G5, hG5⟩ : ∃ H, H = pj_wa G 202 z3.toInt.toNat z4 := ⟨_, rfl⟩
      have iG5 : pj_Inv G5 := by rw [hG5]; exact pj_Inv_wa hI rfl (fun q hq => by cases hq) (fun n hn => ⟨fun h1 => ⟨fun h2 => by omega, fun h2 => by omega⟩, fun h1 => by omega⟩)
      have kG5 : pj_kpt kc_281 G0 G5 := by rw [hG5]; exact pj_kpt_a hK rfl
      rw [← hG5]
      refine pj_X_of (fun r h => pj_R_to (G5, 64, [(2, .int (v2 + Int32.ofInt 1)), (0, .ref 171), (1, .int i)], [], 0, 0) 64 2 (fun _ => rfl) h) ?_
      obtain ⟨z6, hz6⟩ : ∃ z : Int32, z = v2 + Int32.ofInt 1 := ⟨_, rfl⟩
      rw [← hz6]
      have fz6_0 : z6.toInt = v2.toInt + (Int32.ofInt 1).toInt := by rw [hz6]; exact pj_addI (by have := pj_i32 v2; have := pj_i32 (Int32.ofInt 1); omega) (by have := pj_i32 v2; have := pj_i32 (Int32.ofInt 1); omega)
      refine pj_X_of (fun r h => pj_R_to (G5, 38, [(2, .int z6), (0, .ref 171), (1, .int i)], [], 0, 0) 38 2 (fun _ => rfl) h) ?_
      exact pj_X_sub [(0, .ref 171), (1, .int i), (2, .int z6)] (show List.Nodup [0, 1, 2] by decide) ⟨rfl, rfl, rfl, trivial⟩ (ih G5 iG5 kG5 z6 ⟨by omega, by omega⟩ (by omega) (by omega))
theorem ct_281 (G0 : pj_G) (hI : pj_Inv G0) (i : Int32) : pj_Y 2 281 [.ref 171, .int i] G0 (fun v G' => ∃ y : Int32, v = some (.int y) ∧ pj_Inv G' ∧ pj_kpt kc_281 G0 G' ∧ ((0 : Int) ≤ y.toInt ∧ y.toInt ≤ 1)) := by
  have c0_ : ((Int8.ofInt 32).toInt32).toInt = 32 := by decide
  have c1_ : (Int32.ofInt 0).toInt = 0 := by decide
  have c2_ : (Int32.ofInt 1).toInt = 1 := by decide
  refine pj_Y_X (M := pj_m281) rfl rfl (Nat.le_of_ble_eq_true rfl) ?_
  have hK : pj_kpt kc_281 G0 G0 := pj_kpt_r _ _
  show pj_X _ _ G0 0 [(0, .ref 171), (1, .int i)] [] _
  refine pj_X_of (fun r h => pj_R_to (G0, 2, [(0, .ref 171), (1, .int i)], [.int (Int32.ofInt 0), .ref 171], 0, 0) 2 3 (fun _ => rfl) h) ?_
  refine pj_X_of (fun r h => pj_T_pf hI rfl rfl rfl h) ?_
  show pj_X _ _ (pj_wv G0 171 0 (.int (Int32.ofInt 0))) 5 [(0, .ref 171), (1, .int i)] [] _
  obtain ⟨G7, hG7⟩ : ∃ H, H = pj_wv G0 171 0 (.int (Int32.ofInt 0)) := ⟨_, rfl⟩
  have iG7 : pj_Inv G7 := by rw [hG7]; exact pj_Inv_wi hI (ci := 12) rfl (fun q hq => by cases hq)
  have kG7 : pj_kpt kc_281 G0 G7 := by rw [hG7]; exact pj_kpt_v hK rfl
  rw [← hG7]
  refine pj_X_of (fun r h => pj_R_to (G7, 11, [(0, .ref 171), (1, .int i)], [.long (Int64.ofInt 2), .long (Int64.ofNat 0), .long i.toInt64], 0, 0) 11 5 (fun _ => rfl) h) ?_
  have lc8 : (i.toInt64).toInt = i.toInt := Int32.toInt_toInt64 _
  have lc9 : (Int64.ofNat 0).toInt = 0 := by decide
  have lc10 : (Int64.ofInt 2).toInt = 2 := by decide
  refine pj_X_ca (vs := [.long i.toInt64, .long (Int64.ofNat 0), .long (Int64.ofInt 2)]) rfl (fun _ => rfl) ⟨Nat.le_of_ble_eq_true rfl, Nat.le_of_ble_eq_true rfl, rfl⟩ ⟨rfl, rfl⟩ (pj_Y_up (by decide) (ct_170x G7 iG7 i.toInt64 (Int64.ofNat 0) (Int64.ofInt 2))) ?_
  rintro _ _ ⟨y11, rfl, rfl, ry11, ey11, fy11⟩
  show pj_X _ _ G7 14 [(0, .ref 171), (1, .int i)] [.int y11] _
  cases b12 : pj_c1 .ne y11 0 with
  | true =>
    have ub12 := pj_u0_neT b12
    refine pj_X_of (fun r h => pj_R_ifT 19 rfl rfl b12 h) ?_
    refine pj_X_of (fun r h => pj_R_to (G7, 20, [(0, .ref 171), (1, .int i)], [.ref 171], 0, 0) 20 2 (fun _ => rfl) h) ?_
    refine pj_X_of (fun r h => pj_T_gr iG7 rfl rfl rfl h) ?_
    refine pj_X_of (fun r h => pj_R_to (G7, 25, [(0, .ref 171), (1, .int i)], [.int (Int32.ofInt 1), .int i, .ref 200], 0, 0) 25 3 (fun _ => rfl) h) ?_
    refine pj_X_of (fun r h => pj_T_bs iG7 rfl rfl (by omega) (by omega) h) ?_
    show pj_X _ _ (pj_wa G7 200 i.toInt.toNat (vp_nar .boolean (Int32.ofInt 1))) 26 [(0, .ref 171), (1, .int i)] [] _
    obtain ⟨G13, hG13⟩ : ∃ H, H = pj_wa G7 200 i.toInt.toNat (vp_nar .boolean (Int32.ofInt 1)) := ⟨_, rfl⟩
    have iG13 : pj_Inv G13 := by rw [hG13]; exact pj_Inv_wb iG7 rfl rfl rfl
    have kG13 : pj_kpt kc_281 G0 G13 := by rw [hG13]; exact pj_kpt_a kG7 rfl
    rw [← hG13]
    refine pj_X_of (fun r h => pj_R_to (G13, 27, [(0, .ref 171), (1, .int i)], [.ref 171], 0, 0) 27 2 (fun _ => rfl) h) ?_
    refine pj_X_of (fun r h => pj_T_gr iG13 rfl rfl rfl h) ?_
    refine pj_X_of (fun r h => pj_R_to (G13, 32, [(0, .ref 171), (1, .int i)], [.ref 171, .int i, .ref 201], 0, 0) 32 3 (fun _ => rfl) h) ?_
    refine pj_X_of (fun r h => pj_T_gi iG13 rfl rfl h) ?_
    show pj_X _ _ G13 35 [(0, .ref 171), (1, .int i)] [.int (pj_fi G13 171 7), .int i, .ref 201] _
    obtain ⟨y14, hy14⟩ : ∃ z : Int32, z = pj_fi G13 171 7 := ⟨_, rfl⟩
    refine pj_X_eqi hy14.symm ?_
    have ey14 : (pj_fi G13 171 7).toInt = y14.toInt := by rw [hy14]
    refine pj_X_of (fun r h => pj_T_is iG13 rfl rfl (by omega) (by omega) h) ?_
    show pj_X _ _ (pj_wa G13 201 i.toInt.toNat y14) 36 [(0, .ref 171), (1, .int i)] [] _
    obtain ⟨G15, hG15⟩ : ∃ H, H = pj_wa G13 201 i.toInt.toNat y14 := ⟨_, rfl⟩
    have iG15 : pj_Inv G15 := by rw [hG15]; exact pj_Inv_wa iG13 rfl (fun q hq => by cases hq) (fun n hn => by cases hn)
    have kG15 : pj_kpt kc_281 G0 G15 := by rw [hG15]; exact pj_kpt_a kG13 rfl
    rw [← hG15]
    refine pj_X_of (fun r h => pj_R_to (G15, 38, [(2, .int (Int32.ofInt 0)), (0, .ref 171), (1, .int i)], [], 0, 0) 38 3 (fun _ => rfl) h) ?_
    exact pj_X_sub [(0, .ref 171), (1, .int i), (2, .int (Int32.ofInt 0))] (show List.Nodup [0, 1, 2] by decide) ⟨rfl, rfl, rfl, trivial⟩ ((lp_ct_281 G0 hI i  33) G15 iG15 kG15 (Int32.ofInt 0) ⟨by omega, by omega⟩ (by omega) (by omega))
  | false =>
    have ub12 := pj_u0_neF b12
    refine pj_X_of (fun r h => pj_R_ifF rfl b12 h) ?_
    refine pj_X_of (fun r h => pj_R_to (G7, 18, [(0, .ref 171), (1, .int i)], [.int (Int32.ofInt 0)], 0, 0) 18 2 (fun _ => rfl) h) ?_
    exact pj_X_rt rfl rfl ⟨_, rfl, iG7, kG7, ⟨by omega, by omega⟩⟩
def kc_282 : pj_KT := ([(171, 0), (171, 30)], [171, 179], [179])
theorem lp_ct_282 (G0 : pj_G) (hI0 : pj_Inv G0) (i : Int32) (p0_ : (pj_fi G0 171 30).toInt ≤ 15) : ∀ mn : Nat, (∀ (G : pj_G) (hI : pj_Inv G) (hK : pj_kpt kc_282 G0 G) (v2 : Int32), ((0 : Int) ≤ v2.toInt ∧ v2.toInt ≤ 32) → (0 ≤ i.toInt ∧ i.toInt ≤ 2) → ((pj_fi G 171 30).toInt ≤ 15) → 32 - v2.toInt < (mn : Int) → pj_X 1 pj_m282 G 43 [(0, .ref 171), (1, .int i), (2, .int v2)] [] (fun v G' => ∃ y : Int32, v = some (.int y) ∧ pj_Inv G' ∧ pj_kpt kc_282 G0 G' ∧ ((0 : Int) ≤ y.toInt ∧ y.toInt ≤ 1) ∧ ((pj_fi G' 171 30).toInt ≤ 15))) := by
  have c0_ : ((Int8.ofInt 32).toInt32).toInt = 32 := by decide
  have c1_ : (Int32.ofInt 0).toInt = 0 := by decide
  have c2_ : (Int32.ofInt 1).toInt = 1 := by decide
  intro mn
  induction mn with
  | zero =>
    intro G hI hK v2 rv2 x0_ x1_ hm
    exfalso
    omega
  | succ mn ih =>
    intro G hI hK v2 rv2 x0_ x1_ hm
    obtain ⟨y1, hy1⟩ : ∃ z : Int32, z = pj_fi G 171 30 := ⟨_, rfl⟩
    have ey1 : (pj_fi G 171 30).toInt = y1.toInt := by rw [hy1]
    have ry1 : (0 : Int) ≤ y1.toInt ∧ y1.toInt ≤ 16 := by rw [hy1]; exact hI.2.1 171 30 (0, 16) rfl
    refine pj_X_of (fun r h => pj_R_to (G, 46, [(0, .ref 171), (1, .int i), (2, .int v2)], [.int ((Int8.ofInt 32).toInt32), .int v2], 0, 0) 46 3 (fun _ => rfl) h) ?_
    cases b2 : pj_c1 .ge v2 ((Int8.ofInt 32).toInt32) with
    | true =>
      have ub2 := pj_u_geT b2
      refine pj_X_of (fun r h => pj_R_icT 72 rfl rfl b2 h) ?_
      refine pj_X_of (fun r h => pj_R_to (G, 74, [(0, .ref 171), (1, .int i), (2, .int v2)], [.int (Int32.ofInt 0), .ref 171], 0, 0) 74 3 (fun _ => rfl) h) ?_
      refine pj_X_of (fun r h => pj_T_pf hI rfl rfl rfl h) ?_
      show pj_X _ _ (pj_wv G 171 30 (.int (Int32.ofInt 0))) 77 [(0, .ref 171), (1, .int i), (2, .int v2)] [] _
      obtain ⟨G3, hG3⟩ : ∃ H, H = pj_wv G 171 30 (.int (Int32.ofInt 0)) := ⟨_, rfl⟩
      have iG3 : pj_Inv G3 := by rw [hG3]; exact pj_Inv_wi hI (ci := 12) rfl (fun q hq => by cases hq; exact ⟨by show (0 : Int) ≤ _; omega, by show _ ≤ (16 : Int); omega⟩)
      have kG3 : pj_kpt kc_282 G0 G3 := by rw [hG3]; exact pj_kpt_v hK rfl
      rw [← hG3]
      refine pj_X_of (fun r h => pj_R_to (G3, 78, [(0, .ref 171), (1, .int i), (2, .int v2)], [.int (Int32.ofInt 1)], 0, 0) 78 2 (fun _ => rfl) h) ?_
      have q4 : (pj_fi G3 171 30).toInt = (Int32.ofInt 0).toInt := by rw [show pj_fi G3 171 30 = Int32.ofInt 0 from by rw [hG3]; exact pj_fi_wi hI.1 (ci := 12) rfl _]
      exact pj_X_rt rfl rfl ⟨_, rfl, iG3, kG3, ⟨by omega, by omega⟩, by omega⟩
    | false =>
      have ub2 := pj_u_geF b2
      refine pj_X_of (fun r h => pj_R_icF rfl b2 h) ?_
      refine pj_X_of (fun r h => pj_R_to (G, 50, [(0, .ref 171), (1, .int i), (2, .int v2)], [.ref 171], 0, 0) 50 2 (fun _ => rfl) h) ?_
      refine pj_X_of (fun r h => pj_T_gr hI rfl rfl rfl h) ?_
      refine pj_X_of (fun r h => pj_R_to (G, 55, [(0, .ref 171), (1, .int i), (2, .int v2)], [.ref 171, .int v2, .ref 179], 0, 0) 55 3 (fun _ => rfl) h) ?_
      refine pj_X_of (fun r h => pj_T_gr hI rfl rfl rfl h) ?_
      refine pj_X_of (fun r h => pj_R_to (G, 62, [(0, .ref 171), (1, .int i), (2, .int v2)], [.int (((Int8.ofInt 32).toInt32) * i), .ref 202, .int v2, .ref 179], 0, 0) 62 4 (fun _ => rfl) h) ?_
      obtain ⟨z5, hz5⟩ : ∃ z : Int32, z = ((Int8.ofInt 32).toInt32) * i := ⟨_, rfl⟩
      refine pj_X_eqi hz5.symm ?_
      have fz5_0 : z5.toInt = 32 * i.toInt := by rw [hz5]; exact pj_mulL (by decide) (by omega) (by omega)
      refine pj_X_of (fun r h => pj_R_to (G, 64, [(0, .ref 171), (1, .int i), (2, .int v2)], [.int (z5 + v2), .ref 202, .int v2, .ref 179], 0, 0) 64 3 (fun _ => rfl) h) ?_
      obtain ⟨z6, hz6⟩ : ∃ z : Int32, z = z5 + v2 := ⟨_, rfl⟩
      refine pj_X_eqi hz6.symm ?_
      have fz6_0 : z6.toInt = z5.toInt + v2.toInt := by rw [hz6]; exact pj_addI (by have := pj_i32 z5; have := pj_i32 v2; omega) (by have := pj_i32 z5; have := pj_i32 v2; omega)
      refine pj_X_of (fun r h => pj_T_il hI rfl rfl (by omega) (by omega) h) ?_
      show pj_X _ _ G 65 [(0, .ref 171), (1, .int i), (2, .int v2)] [.int (pj_ai G 202 z6.toInt.toNat), .int v2, .ref 179] _
      obtain ⟨z7, hz7⟩ : ∃ z : Int32, z = pj_ai G 202 z6.toInt.toNat := ⟨_, rfl⟩
      refine pj_X_eqi hz7.symm ?_
      have ez7 : (pj_ai G 202 z6.toInt.toNat).toInt = z7.toInt := by rw [hz7]
      have fz7_0 : (z6.toInt.toNat % 32 < 24 → (z6.toInt.toNat % 4 = 0 → -1 ≤ z7.toInt ∧ z7.toInt ≤ 9) ∧ (z6.toInt.toNat % 4 = 1 → 0 ≤ z7.toInt)) ∧ (24 ≤ z6.toInt.toNat % 32 ∧ z6.toInt.toNat % 32 < 30 → 0 ≤ z7.toInt ∧ z7.toInt ≤ 7) := by rw [hz7]; exact hI.2.2.2 202 96 rfl _ (by show _ < 96; omega)
      refine pj_X_of (fun r h => pj_T_is hI rfl rfl (by omega) (by omega) h) ?_
      show pj_X _ _ (pj_wa G 179 v2.toInt.toNat z7) 66 [(0, .ref 171), (1, .int i), (2, .int v2)] [] _
      obtain ⟨G8, hG8⟩ : ∃ H, H = pj_wa G 179 v2.toInt.toNat z7 := ⟨_, rfl⟩
      have iG8 : pj_Inv G8 := by rw [hG8]; exact pj_Inv_wa hI rfl (fun q hq => by cases hq) (fun n hn => ⟨fun h1 => ⟨fun h2 => by omega, fun h2 => by omega⟩, fun h1 => by omega⟩)
      have kG8 : pj_kpt kc_282 G0 G8 := by rw [hG8]; exact pj_kpt_a hK rfl
      rw [← hG8]
      refine pj_X_of (fun r h => pj_R_to (G8, 69, [(2, .int (v2 + Int32.ofInt 1)), (0, .ref 171), (1, .int i)], [], 0, 0) 69 2 (fun _ => rfl) h) ?_
      obtain ⟨z9, hz9⟩ : ∃ z : Int32, z = v2 + Int32.ofInt 1 := ⟨_, rfl⟩
      rw [← hz9]
      have fz9_0 : z9.toInt = v2.toInt + (Int32.ofInt 1).toInt := by rw [hz9]; exact pj_addI (by have := pj_i32 v2; have := pj_i32 (Int32.ofInt 1); omega) (by have := pj_i32 v2; have := pj_i32 (Int32.ofInt 1); omega)
      refine pj_X_of (fun r h => pj_R_to (G8, 43, [(2, .int z9), (0, .ref 171), (1, .int i)], [], 0, 0) 43 2 (fun _ => rfl) h) ?_
      have q10 : (pj_fi G8 171 30).toInt = y1.toInt := by rw [show pj_fi G8 171 30 = y1 from by rw [hG8, pj_fi_wa]; exact hy1.symm]
      exact pj_X_sub [(0, .ref 171), (1, .int i), (2, .int z9)] (show List.Nodup [0, 1, 2] by decide) ⟨rfl, rfl, rfl, trivial⟩ (ih G8 iG8 kG8 z9 ⟨by omega, by omega⟩ (by omega) (by omega) (by omega))
theorem ct_282 (G0 : pj_G) (hI : pj_Inv G0) (i : Int32) (p0_ : (pj_fi G0 171 30).toInt ≤ 15) : pj_Y 2 282 [.ref 171, .int i] G0 (fun v G' => ∃ y : Int32, v = some (.int y) ∧ pj_Inv G' ∧ pj_kpt kc_282 G0 G' ∧ ((0 : Int) ≤ y.toInt ∧ y.toInt ≤ 1) ∧ ((pj_fi G' 171 30).toInt ≤ 15)) := by
  have c0_ : ((Int8.ofInt 32).toInt32).toInt = 32 := by decide
  have c1_ : (Int32.ofInt 0).toInt = 0 := by decide
  have c2_ : (Int32.ofInt 1).toInt = 1 := by decide
  refine pj_Y_X (M := pj_m282) rfl rfl (Nat.le_of_ble_eq_true rfl) ?_
  have hK : pj_kpt kc_282 G0 G0 := pj_kpt_r _ _
  show pj_X _ _ G0 0 [(0, .ref 171), (1, .int i)] [] _
  obtain ⟨y11, hy11⟩ : ∃ z : Int32, z = pj_fi G0 171 30 := ⟨_, rfl⟩
  have ey11 : (pj_fi G0 171 30).toInt = y11.toInt := by rw [hy11]
  have ry11 : (0 : Int) ≤ y11.toInt ∧ y11.toInt ≤ 16 := by rw [hy11]; exact hI.2.1 171 30 (0, 16) rfl
  refine pj_X_of (fun r h => pj_R_to (G0, 2, [(0, .ref 171), (1, .int i)], [.int (Int32.ofInt 0), .ref 171], 0, 0) 2 3 (fun _ => rfl) h) ?_
  refine pj_X_of (fun r h => pj_T_pf hI rfl rfl rfl h) ?_
  show pj_X _ _ (pj_wv G0 171 0 (.int (Int32.ofInt 0))) 5 [(0, .ref 171), (1, .int i)] [] _
  obtain ⟨G12, hG12⟩ : ∃ H, H = pj_wv G0 171 0 (.int (Int32.ofInt 0)) := ⟨_, rfl⟩
  have iG12 : pj_Inv G12 := by rw [hG12]; exact pj_Inv_wi hI (ci := 12) rfl (fun q hq => by cases hq)
  have kG12 : pj_kpt kc_282 G0 G12 := by rw [hG12]; exact pj_kpt_v hK rfl
  rw [← hG12]
  refine pj_X_of (fun r h => pj_R_to (G12, 11, [(0, .ref 171), (1, .int i)], [.long (Int64.ofInt 2), .long (Int64.ofNat 0), .long i.toInt64], 0, 0) 11 5 (fun _ => rfl) h) ?_
  have q13 : (pj_fi G12 171 30).toInt = y11.toInt := by rw [show pj_fi G12 171 30 = y11 from by rw [hG12, pj_fi_wv_ne _ _ _ _ _ _ (by decide)]; exact hy11.symm]
  have lc14 : (i.toInt64).toInt = i.toInt := Int32.toInt_toInt64 _
  have lc15 : (Int64.ofNat 0).toInt = 0 := by decide
  have lc16 : (Int64.ofInt 2).toInt = 2 := by decide
  refine pj_X_ca (vs := [.long i.toInt64, .long (Int64.ofNat 0), .long (Int64.ofInt 2)]) rfl (fun _ => rfl) ⟨Nat.le_of_ble_eq_true rfl, Nat.le_of_ble_eq_true rfl, rfl⟩ ⟨rfl, rfl⟩ (pj_Y_up (by decide) (ct_170x G12 iG12 i.toInt64 (Int64.ofNat 0) (Int64.ofInt 2))) ?_
  rintro _ _ ⟨y17, rfl, rfl, ry17, ey17, fy17⟩
  show pj_X _ _ G12 14 [(0, .ref 171), (1, .int i)] [.int y17] _
  cases b18 : pj_c1 .eq y17 0 with
  | true =>
    have ub18 := pj_u0_eqT b18
    refine pj_X_of (fun r h => pj_R_ifT 39 rfl rfl b18 h) ?_
    refine pj_X_of (fun r h => pj_R_to (G12, 40, [(0, .ref 171), (1, .int i)], [.int (Int32.ofInt 0)], 0, 0) 40 2 (fun _ => rfl) h) ?_
    have q19 : (pj_fi G12 171 30).toInt = y11.toInt := by rw [show pj_fi G12 171 30 = y11 from by rw [hG12, pj_fi_wv_ne _ _ _ _ _ _ (by decide)]; exact hy11.symm]
    exact pj_X_rt rfl rfl ⟨_, rfl, iG12, kG12, ⟨by omega, by omega⟩, by omega⟩
  | false =>
    have ub18 := pj_u0_eqF b18
    refine pj_X_of (fun r h => pj_R_ifF rfl b18 h) ?_
    refine pj_X_of (fun r h => pj_R_to (G12, 18, [(0, .ref 171), (1, .int i)], [.ref 171], 0, 0) 18 2 (fun _ => rfl) h) ?_
    refine pj_X_of (fun r h => pj_T_gr iG12 rfl rfl rfl h) ?_
    refine pj_X_of (fun r h => pj_R_to (G12, 22, [(0, .ref 171), (1, .int i)], [.int i, .ref 200], 0, 0) 22 2 (fun _ => rfl) h) ?_
    refine pj_X_of (fun r h => pj_T_bl iG12 rfl rfl (by omega) (by omega) h) ?_
    show pj_X _ _ G12 23 [(0, .ref 171), (1, .int i)] [.int (pj_ai G12 200 i.toInt.toNat)] _
    obtain ⟨z20, hz20⟩ : ∃ z : Int32, z = pj_ai G12 200 i.toInt.toNat := ⟨_, rfl⟩
    refine pj_X_eqi hz20.symm ?_
    have ez20 : (pj_ai G12 200 i.toInt.toNat).toInt = z20.toInt := by rw [hz20]
    cases b21 : pj_c1 .eq z20 0 with
    | true =>
      have ub21 := pj_u0_eqT b21
      refine pj_X_of (fun r h => pj_R_ifT 39 rfl rfl b21 h) ?_
      refine pj_X_of (fun r h => pj_R_to (G12, 40, [(0, .ref 171), (1, .int i)], [.int (Int32.ofInt 0)], 0, 0) 40 2 (fun _ => rfl) h) ?_
      have q22 : (pj_fi G12 171 30).toInt = y11.toInt := by rw [show pj_fi G12 171 30 = y11 from by rw [hG12, pj_fi_wv_ne _ _ _ _ _ _ (by decide)]; exact hy11.symm]
      exact pj_X_rt rfl rfl ⟨_, rfl, iG12, kG12, ⟨by omega, by omega⟩, by omega⟩
    | false =>
      have ub21 := pj_u0_eqF b21
      refine pj_X_of (fun r h => pj_R_ifF rfl b21 h) ?_
      refine pj_X_of (fun r h => pj_R_to (G12, 27, [(0, .ref 171), (1, .int i)], [.ref 171], 0, 0) 27 2 (fun _ => rfl) h) ?_
      refine pj_X_of (fun r h => pj_T_gr iG12 rfl rfl rfl h) ?_
      refine pj_X_of (fun r h => pj_R_to (G12, 31, [(0, .ref 171), (1, .int i)], [.int i, .ref 201], 0, 0) 31 2 (fun _ => rfl) h) ?_
      refine pj_X_of (fun r h => pj_T_il iG12 rfl rfl (by omega) (by omega) h) ?_
      show pj_X _ _ G12 32 [(0, .ref 171), (1, .int i)] [.int (pj_ai G12 201 i.toInt.toNat)] _
      obtain ⟨z23, hz23⟩ : ∃ z : Int32, z = pj_ai G12 201 i.toInt.toNat := ⟨_, rfl⟩
      refine pj_X_eqi hz23.symm ?_
      have ez23 : (pj_ai G12 201 i.toInt.toNat).toInt = z23.toInt := by rw [hz23]
      refine pj_X_of (fun r h => pj_R_to (G12, 33, [(0, .ref 171), (1, .int i)], [.ref 171, .int z23], 0, 0) 33 2 (fun _ => rfl) h) ?_
      refine pj_X_of (fun r h => pj_T_gi iG12 rfl rfl h) ?_
      show pj_X _ _ G12 36 [(0, .ref 171), (1, .int i)] [.int (pj_fi G12 171 7), .int z23] _
      obtain ⟨y24, hy24⟩ : ∃ z : Int32, z = pj_fi G12 171 7 := ⟨_, rfl⟩
      refine pj_X_eqi hy24.symm ?_
      have ey24 : (pj_fi G12 171 7).toInt = y24.toInt := by rw [hy24]
      cases b25 : pj_c1 .eq z23 y24 with
      | true =>
        have ub25 := pj_u_eqT b25
        refine pj_X_of (fun r h => pj_R_icT 41 rfl rfl b25 h) ?_
        refine pj_X_of (fun r h => pj_R_to (G12, 43, [(2, .int (Int32.ofInt 0)), (0, .ref 171), (1, .int i)], [], 0, 0) 43 3 (fun _ => rfl) h) ?_
        have q26 : (pj_fi G12 171 30).toInt = y11.toInt := by rw [show pj_fi G12 171 30 = y11 from by rw [hG12, pj_fi_wv_ne _ _ _ _ _ _ (by decide)]; exact hy11.symm]
        exact pj_X_sub [(0, .ref 171), (1, .int i), (2, .int (Int32.ofInt 0))] (show List.Nodup [0, 1, 2] by decide) ⟨rfl, rfl, rfl, trivial⟩ ((lp_ct_282 G0 hI i  p0_ 33) G12 iG12 kG12 (Int32.ofInt 0) ⟨by omega, by omega⟩ (by omega) (by omega) (by omega))
      | false =>
        have ub25 := pj_u_eqF b25
        refine pj_X_of (fun r h => pj_R_icF rfl b25 h) ?_
        refine pj_X_of (fun r h => pj_R_to (G12, 40, [(0, .ref 171), (1, .int i)], [.int (Int32.ofInt 0)], 0, 0) 40 2 (fun _ => rfl) h) ?_
        have q27 : (pj_fi G12 171 30).toInt = y11.toInt := by rw [show pj_fi G12 171 30 = y11 from by rw [hG12, pj_fi_wv_ne _ _ _ _ _ _ (by decide)]; exact hy11.symm]
        exact pj_X_rt rfl rfl ⟨_, rfl, iG12, kG12, ⟨by omega, by omega⟩, by omega⟩
theorem lp_ct_283 (G0 : pj_G) (hI : pj_Inv G0) (w : Int32) : ∀ mn : Nat, (∀ (v2 : Int32) (v3 : Int32), ((-2147483648 : Int) ≤ v2.toInt ∧ v2.toInt ≤ 2147483647) → ((0 : Int) ≤ v3.toInt ∧ v3.toInt ≤ 6) → 6 - v3.toInt < (mn : Int) → pj_X 0 pj_m283 G0 4 [(0, .ref 171), (1, .int w), (2, .int v2), (3, .int v3)] [] (fun v G' => ∃ y : Int32, v = some (.int y) ∧ G0 = G' ∧ ((-2147483648 : Int) ≤ y.toInt ∧ y.toInt ≤ 2147483647))) := by
  have c0_ : (Int32.ofInt 0).toInt = 0 := by decide
  have c1_ : (Int32.ofInt 1).toInt = 1 := by decide
  have c2_ : (Int32.ofInt 2).toInt = 2 := by decide
  have c3_ : (Int32.ofInt 4).toInt = 4 := by decide
  have hK : pj_kpt ([], [], []) G0 G0 := pj_kpt_r _ _
  intro mn
  induction mn with
  | zero =>
    intro v2 v3 rv2 rv3 hm
    exfalso
    omega
  | succ mn ih =>
    intro v2 v3 rv2 rv3 hm
    refine pj_X_of (fun r h => pj_R_to (G0, 6, [(0, .ref 171), (1, .int w), (2, .int v2), (3, .int v3)], [.ref 171, .int v3], 0, 0) 6 3 (fun _ => rfl) h) ?_
    refine pj_X_of (fun r h => pj_T_gi hI rfl rfl h) ?_
    show pj_X _ _ G0 9 [(0, .ref 171), (1, .int w), (2, .int v2), (3, .int v3)] [.int (pj_fi G0 171 5), .int v3] _
    obtain ⟨y1, hy1⟩ : ∃ z : Int32, z = pj_fi G0 171 5 := ⟨_, rfl⟩
    refine pj_X_eqi hy1.symm ?_
    have ey1 : (pj_fi G0 171 5).toInt = y1.toInt := by rw [hy1]
    have ry1 : (0 : Int) ≤ y1.toInt ∧ y1.toInt ≤ 6 := by rw [hy1]; exact hI.2.1 171 5 (0, 6) rfl
    cases b2 : pj_c1 .ge v3 y1 with
    | true =>
      have ub2 := pj_u_geT b2
      refine pj_X_of (fun r h => pj_R_icT 113 rfl rfl b2 h) ?_
      refine pj_X_of (fun r h => pj_R_to (G0, 114, [(0, .ref 171), (1, .int w), (2, .int v2), (3, .int v3)], [.int v2], 0, 0) 114 2 (fun _ => rfl) h) ?_
      exact pj_X_rt rfl rfl ⟨_, rfl, rfl, pj_i32 _⟩
    | false =>
      have ub2 := pj_u_geF b2
      refine pj_X_of (fun r h => pj_R_icF rfl b2 h) ?_
      refine pj_X_of (fun r h => pj_R_to (G0, 13, [(0, .ref 171), (1, .int w), (2, .int v2), (3, .int v3)], [.ref 171], 0, 0) 13 2 (fun _ => rfl) h) ?_
      refine pj_X_of (fun r h => pj_T_gr hI rfl rfl rfl h) ?_
      refine pj_X_of (fun r h => pj_R_to (G0, 19, [(0, .ref 171), (1, .int w), (2, .int v2), (3, .int v3)], [.int ((Int32.ofInt 4) * v3), .ref 179], 0, 0) 19 4 (fun _ => rfl) h) ?_
      obtain ⟨z3, hz3⟩ : ∃ z : Int32, z = (Int32.ofInt 4) * v3 := ⟨_, rfl⟩
      refine pj_X_eqi hz3.symm ?_
      have fz3_0 : z3.toInt = 4 * v3.toInt := by rw [hz3]; exact pj_mulL (by decide) (by omega) (by omega)
      refine pj_X_of (fun r h => pj_R_to (G0, 21, [(0, .ref 171), (1, .int w), (2, .int v2), (3, .int v3)], [.int (z3 + (Int32.ofInt 1)), .ref 179], 0, 0) 21 3 (fun _ => rfl) h) ?_
      obtain ⟨z4, hz4⟩ : ∃ z : Int32, z = z3 + (Int32.ofInt 1) := ⟨_, rfl⟩
      refine pj_X_eqi hz4.symm ?_
      have fz4_0 : z4.toInt = z3.toInt + (Int32.ofInt 1).toInt := by rw [hz4]; exact pj_addI (by have := pj_i32 z3; have := pj_i32 (Int32.ofInt 1); omega) (by have := pj_i32 z3; have := pj_i32 (Int32.ofInt 1); omega)
      refine pj_X_of (fun r h => pj_T_il hI rfl rfl (by omega) (by omega) h) ?_
      show pj_X _ _ G0 22 [(0, .ref 171), (1, .int w), (2, .int v2), (3, .int v3)] [.int (pj_ai G0 179 z4.toInt.toNat)] _
      obtain ⟨z5, hz5⟩ : ∃ z : Int32, z = pj_ai G0 179 z4.toInt.toNat := ⟨_, rfl⟩
      refine pj_X_eqi hz5.symm ?_
      have ez5 : (pj_ai G0 179 z4.toInt.toNat).toInt = z5.toInt := by rw [hz5]
      have fz5_0 : 0 ≤ z5.toInt := by rw [hz5]; exact ((hI.2.2.2 179 32 rfl _ (by show _ < 32; omega)).1 (by omega)).2 (by omega)
      cases b6 : pj_c1 .le z5 0 with
      | true =>
        have ub6 := pj_u0_leT b6
        refine pj_X_of (fun r h => pj_R_ifT 29 rfl rfl b6 h) ?_
        refine pj_X_of (fun r h => pj_R_to (G0, 33, [(4, .int (Int32.ofInt 0)), (0, .ref 171), (1, .int w), (2, .int v2), (3, .int v3)], [.int w], 0, 0) 33 4 (fun _ => rfl) h) ?_
        cases b7 : pj_c1 .ne w 0 with
        | true =>
          have ub7 := pj_u0_neT b7
          refine pj_X_of (fun r h => pj_R_ifT 62 rfl rfl b7 h) ?_
          refine pj_X_of (fun r h => pj_R_to (G0, 64, [(4, .int (Int32.ofInt 0)), (0, .ref 171), (1, .int w), (2, .int v2), (3, .int v3)], [.int (Int32.ofInt 1), .int w], 0, 0) 64 3 (fun _ => rfl) h) ?_
          cases b8 : pj_c1 .ne w (Int32.ofInt 1) with
          | true =>
            have ub8 := pj_u_neT b8
            refine pj_X_of (fun r h => pj_R_icT 72 rfl rfl b8 h) ?_
            refine pj_X_of (fun r h => pj_R_to (G0, 73, [(4, .int (Int32.ofInt 0)), (0, .ref 171), (1, .int w), (2, .int v2), (3, .int v3)], [.ref 171], 0, 0) 73 2 (fun _ => rfl) h) ?_
            refine pj_X_of (fun r h => pj_T_gr hI rfl rfl rfl h) ?_
            refine pj_X_of (fun r h => pj_R_to (G0, 79, [(4, .int (Int32.ofInt 0)), (0, .ref 171), (1, .int w), (2, .int v2), (3, .int v3)], [.int ((Int32.ofInt 4) * v3), .ref 179], 0, 0) 79 4 (fun _ => rfl) h) ?_
            obtain ⟨z9, hz9⟩ : ∃ z : Int32, z = (Int32.ofInt 4) * v3 := ⟨_, rfl⟩
            refine pj_X_eqi hz9.symm ?_
            have fz9_0 : z9.toInt = 4 * v3.toInt := by rw [hz9]; exact pj_mulL (by decide) (by omega) (by omega)
            refine pj_X_of (fun r h => pj_R_to (G0, 81, [(4, .int (Int32.ofInt 0)), (0, .ref 171), (1, .int w), (2, .int v2), (3, .int v3)], [.int (z9 + (Int32.ofInt 2)), .ref 179], 0, 0) 81 3 (fun _ => rfl) h) ?_
            obtain ⟨z10, hz10⟩ : ∃ z : Int32, z = z9 + (Int32.ofInt 2) := ⟨_, rfl⟩
            refine pj_X_eqi hz10.symm ?_
            have fz10_0 : z10.toInt = z9.toInt + (Int32.ofInt 2).toInt := by rw [hz10]; exact pj_addI (by have := pj_i32 z9; have := pj_i32 (Int32.ofInt 2); omega) (by have := pj_i32 z9; have := pj_i32 (Int32.ofInt 2); omega)
            refine pj_X_of (fun r h => pj_T_il hI rfl rfl (by omega) (by omega) h) ?_
            show pj_X _ _ G0 82 [(4, .int (Int32.ofInt 0)), (0, .ref 171), (1, .int w), (2, .int v2), (3, .int v3)] [.int (pj_ai G0 179 z10.toInt.toNat)] _
            obtain ⟨z11, hz11⟩ : ∃ z : Int32, z = pj_ai G0 179 z10.toInt.toNat := ⟨_, rfl⟩
            refine pj_X_eqi hz11.symm ?_
            have ez11 : (pj_ai G0 179 z10.toInt.toNat).toInt = z11.toInt := by rw [hz11]
            cases b12 : pj_c1 .lt z11 0 with
            | true =>
              have ub12 := pj_u0_ltT b12
              refine pj_X_of (fun r h => pj_R_ifT 89 rfl rfl b12 h) ?_
              refine pj_X_of (fun r h => pj_R_to (G0, 95, [(5, .int (Int32.ofInt 0)), (4, .int (Int32.ofInt 0)), (0, .ref 171), (1, .int w), (2, .int v2), (3, .int v3)], [.int (Int32.ofInt 0), .int v2], 0, 0) 95 5 (fun _ => rfl) h) ?_
              refine pj_X_of (fun r h => pj_R_ifT 104 rfl rfl (pj_b0_eqT (by omega)) h) ?_
              refine pj_X_of (fun r h => pj_R_to (G0, 106, [(5, .int (Int32.ofInt 0)), (4, .int (Int32.ofInt 0)), (0, .ref 171), (1, .int w), (2, .int v2), (3, .int v3)], [.int (v2 ||| (Int32.ofInt 0))], 0, 0) 106 3 (fun _ => rfl) h) ?_
              obtain ⟨z13, hz13⟩ : ∃ z : Int32, z = v2 ||| (Int32.ofInt 0) := ⟨_, rfl⟩
              refine pj_X_eqi hz13.symm ?_
              refine pj_X_of (fun r h => pj_R_to (G0, 110, [(3, .int (v3 + Int32.ofInt 1)), (2, .int z13), (5, .int (Int32.ofInt 0)), (4, .int (Int32.ofInt 0)), (0, .ref 171), (1, .int w)], [], 0, 0) 110 3 (fun _ => rfl) h) ?_
              obtain ⟨z14, hz14⟩ : ∃ z : Int32, z = v3 + Int32.ofInt 1 := ⟨_, rfl⟩
              rw [← hz14]
              have fz14_0 : z14.toInt = v3.toInt + (Int32.ofInt 1).toInt := by rw [hz14]; exact pj_addI (by have := pj_i32 v3; have := pj_i32 (Int32.ofInt 1); omega) (by have := pj_i32 v3; have := pj_i32 (Int32.ofInt 1); omega)
              refine pj_X_of (fun r h => pj_R_to (G0, 4, [(3, .int z14), (2, .int z13), (5, .int (Int32.ofInt 0)), (4, .int (Int32.ofInt 0)), (0, .ref 171), (1, .int w)], [], 0, 0) 4 2 (fun _ => rfl) h) ?_
              exact pj_X_sub [(0, .ref 171), (1, .int w), (2, .int z13), (3, .int z14)] (show List.Nodup [0, 1, 2, 3] by decide) ⟨rfl, rfl, rfl, rfl, trivial⟩ (ih z13 z14 (pj_i32 _) ⟨by omega, by omega⟩ (by omega))
            | false =>
              have ub12 := pj_u0_ltF b12
              refine pj_X_of (fun r h => pj_R_ifF rfl b12 h) ?_
              refine pj_X_of (fun r h => pj_R_to (G0, 95, [(5, .int (Int32.ofInt 1)), (4, .int (Int32.ofInt 0)), (0, .ref 171), (1, .int w), (2, .int v2), (3, .int v3)], [.int (Int32.ofInt 1), .int v2], 0, 0) 95 6 (fun _ => rfl) h) ?_
              refine pj_X_of (fun r h => pj_R_ifF rfl (pj_b0_eqF (by omega)) h) ?_
              refine pj_X_of (fun r h => pj_R_to (G0, 101, [(5, .int (Int32.ofInt 1)), (4, .int (Int32.ofInt 0)), (0, .ref 171), (1, .int w), (2, .int v2), (3, .int v3)], [.int ((Int32.ofInt 1) <<< (v3 &&& 31)), .int v2], 0, 0) 101 4 (fun _ => rfl) h) ?_
              obtain ⟨z15, hz15⟩ : ∃ z : Int32, z = (Int32.ofInt 1) <<< (v3 &&& 31) := ⟨_, rfl⟩
              refine pj_X_eqi hz15.symm ?_
              have fz15_0 : 1 ≤ z15.toInt ∧ z15.toInt ≤ 32 := by rw [hz15]; exact pj_shlI5 (by omega) (by omega)
              refine pj_X_of (fun r h => pj_R_to (G0, 106, [(5, .int (Int32.ofInt 1)), (4, .int (Int32.ofInt 0)), (0, .ref 171), (1, .int w), (2, .int v2), (3, .int v3)], [.int (v2 ||| z15)], 0, 0) 106 3 (fun _ => rfl) h) ?_
              obtain ⟨z16, hz16⟩ : ∃ z : Int32, z = v2 ||| z15 := ⟨_, rfl⟩
              refine pj_X_eqi hz16.symm ?_
              refine pj_X_of (fun r h => pj_R_to (G0, 110, [(3, .int (v3 + Int32.ofInt 1)), (2, .int z16), (5, .int (Int32.ofInt 1)), (4, .int (Int32.ofInt 0)), (0, .ref 171), (1, .int w)], [], 0, 0) 110 3 (fun _ => rfl) h) ?_
              obtain ⟨z17, hz17⟩ : ∃ z : Int32, z = v3 + Int32.ofInt 1 := ⟨_, rfl⟩
              rw [← hz17]
              have fz17_0 : z17.toInt = v3.toInt + (Int32.ofInt 1).toInt := by rw [hz17]; exact pj_addI (by have := pj_i32 v3; have := pj_i32 (Int32.ofInt 1); omega) (by have := pj_i32 v3; have := pj_i32 (Int32.ofInt 1); omega)
              refine pj_X_of (fun r h => pj_R_to (G0, 4, [(3, .int z17), (2, .int z16), (5, .int (Int32.ofInt 1)), (4, .int (Int32.ofInt 0)), (0, .ref 171), (1, .int w)], [], 0, 0) 4 2 (fun _ => rfl) h) ?_
              exact pj_X_sub [(0, .ref 171), (1, .int w), (2, .int z16), (3, .int z17)] (show List.Nodup [0, 1, 2, 3] by decide) ⟨rfl, rfl, rfl, rfl, trivial⟩ (ih z16 z17 (pj_i32 _) ⟨by omega, by omega⟩ (by omega))
          | false =>
            have ub8 := pj_u_neF b8
            refine pj_X_of (fun r h => pj_R_icF rfl b8 h) ?_
            refine pj_X_of (fun r h => pj_R_to (G0, 95, [(5, .int (Int32.ofInt 0)), (4, .int (Int32.ofInt 0)), (0, .ref 171), (1, .int w), (2, .int v2), (3, .int v3)], [.int (Int32.ofInt 0), .int v2], 0, 0) 95 6 (fun _ => rfl) h) ?_
            refine pj_X_of (fun r h => pj_R_ifT 104 rfl rfl (pj_b0_eqT (by omega)) h) ?_
            refine pj_X_of (fun r h => pj_R_to (G0, 106, [(5, .int (Int32.ofInt 0)), (4, .int (Int32.ofInt 0)), (0, .ref 171), (1, .int w), (2, .int v2), (3, .int v3)], [.int (v2 ||| (Int32.ofInt 0))], 0, 0) 106 3 (fun _ => rfl) h) ?_
            obtain ⟨z18, hz18⟩ : ∃ z : Int32, z = v2 ||| (Int32.ofInt 0) := ⟨_, rfl⟩
            refine pj_X_eqi hz18.symm ?_
            refine pj_X_of (fun r h => pj_R_to (G0, 110, [(3, .int (v3 + Int32.ofInt 1)), (2, .int z18), (5, .int (Int32.ofInt 0)), (4, .int (Int32.ofInt 0)), (0, .ref 171), (1, .int w)], [], 0, 0) 110 3 (fun _ => rfl) h) ?_
            obtain ⟨z19, hz19⟩ : ∃ z : Int32, z = v3 + Int32.ofInt 1 := ⟨_, rfl⟩
            rw [← hz19]
            have fz19_0 : z19.toInt = v3.toInt + (Int32.ofInt 1).toInt := by rw [hz19]; exact pj_addI (by have := pj_i32 v3; have := pj_i32 (Int32.ofInt 1); omega) (by have := pj_i32 v3; have := pj_i32 (Int32.ofInt 1); omega)
            refine pj_X_of (fun r h => pj_R_to (G0, 4, [(3, .int z19), (2, .int z18), (5, .int (Int32.ofInt 0)), (4, .int (Int32.ofInt 0)), (0, .ref 171), (1, .int w)], [], 0, 0) 4 2 (fun _ => rfl) h) ?_
            exact pj_X_sub [(0, .ref 171), (1, .int w), (2, .int z18), (3, .int z19)] (show List.Nodup [0, 1, 2, 3] by decide) ⟨rfl, rfl, rfl, rfl, trivial⟩ (ih z18 z19 (pj_i32 _) ⟨by omega, by omega⟩ (by omega))
        | false =>
          have ub7 := pj_u0_neF b7
          refine pj_X_of (fun r h => pj_R_ifF rfl b7 h) ?_
          refine pj_X_of (fun r h => pj_R_to (G0, 37, [(4, .int (Int32.ofInt 0)), (0, .ref 171), (1, .int w), (2, .int v2), (3, .int v3)], [.ref 171], 0, 0) 37 2 (fun _ => rfl) h) ?_
          refine pj_X_of (fun r h => pj_T_gr hI rfl rfl rfl h) ?_
          refine pj_X_of (fun r h => pj_R_to (G0, 43, [(4, .int (Int32.ofInt 0)), (0, .ref 171), (1, .int w), (2, .int v2), (3, .int v3)], [.int ((Int32.ofInt 4) * v3), .ref 179], 0, 0) 43 4 (fun _ => rfl) h) ?_
          obtain ⟨z20, hz20⟩ : ∃ z : Int32, z = (Int32.ofInt 4) * v3 := ⟨_, rfl⟩
          refine pj_X_eqi hz20.symm ?_
          have fz20_0 : z20.toInt = 4 * v3.toInt := by rw [hz20]; exact pj_mulL (by decide) (by omega) (by omega)
          refine pj_X_of (fun r h => pj_R_to (G0, 45, [(4, .int (Int32.ofInt 0)), (0, .ref 171), (1, .int w), (2, .int v2), (3, .int v3)], [.int (z20 + (Int32.ofInt 0)), .ref 179], 0, 0) 45 3 (fun _ => rfl) h) ?_
          obtain ⟨z21, hz21⟩ : ∃ z : Int32, z = z20 + (Int32.ofInt 0) := ⟨_, rfl⟩
          refine pj_X_eqi hz21.symm ?_
          have fz21_0 : z21.toInt = z20.toInt + (Int32.ofInt 0).toInt := by rw [hz21]; exact pj_addI (by have := pj_i32 z20; have := pj_i32 (Int32.ofInt 0); omega) (by have := pj_i32 z20; have := pj_i32 (Int32.ofInt 0); omega)
          refine pj_X_of (fun r h => pj_T_il hI rfl rfl (by omega) (by omega) h) ?_
          show pj_X _ _ G0 46 [(4, .int (Int32.ofInt 0)), (0, .ref 171), (1, .int w), (2, .int v2), (3, .int v3)] [.int (pj_ai G0 179 z21.toInt.toNat)] _
          obtain ⟨z22, hz22⟩ : ∃ z : Int32, z = pj_ai G0 179 z21.toInt.toNat := ⟨_, rfl⟩
          refine pj_X_eqi hz22.symm ?_
          have ez22 : (pj_ai G0 179 z21.toInt.toNat).toInt = z22.toInt := by rw [hz22]
          have fz22_0 : -1 ≤ z22.toInt ∧ z22.toInt ≤ 9 := by rw [hz22]; exact ((hI.2.2.2 179 32 rfl _ (by show _ < 32; omega)).1 (by omega)).1 (by omega)
          cases b23 : pj_c1 .ge z22 0 with
          | true =>
            have ub23 := pj_u0_geT b23
            refine pj_X_of (fun r h => pj_R_ifT 58 rfl rfl b23 h) ?_
            refine pj_X_of (fun r h => pj_R_to (G0, 95, [(5, .int (Int32.ofInt 0)), (4, .int (Int32.ofInt 0)), (0, .ref 171), (1, .int w), (2, .int v2), (3, .int v3)], [.int (Int32.ofInt 0), .int v2], 0, 0) 95 6 (fun _ => rfl) h) ?_
            refine pj_X_of (fun r h => pj_R_ifT 104 rfl rfl (pj_b0_eqT (by omega)) h) ?_
            refine pj_X_of (fun r h => pj_R_to (G0, 106, [(5, .int (Int32.ofInt 0)), (4, .int (Int32.ofInt 0)), (0, .ref 171), (1, .int w), (2, .int v2), (3, .int v3)], [.int (v2 ||| (Int32.ofInt 0))], 0, 0) 106 3 (fun _ => rfl) h) ?_
            obtain ⟨z24, hz24⟩ : ∃ z : Int32, z = v2 ||| (Int32.ofInt 0) := ⟨_, rfl⟩
            refine pj_X_eqi hz24.symm ?_
            refine pj_X_of (fun r h => pj_R_to (G0, 110, [(3, .int (v3 + Int32.ofInt 1)), (2, .int z24), (5, .int (Int32.ofInt 0)), (4, .int (Int32.ofInt 0)), (0, .ref 171), (1, .int w)], [], 0, 0) 110 3 (fun _ => rfl) h) ?_
            obtain ⟨z25, hz25⟩ : ∃ z : Int32, z = v3 + Int32.ofInt 1 := ⟨_, rfl⟩
            rw [← hz25]
            have fz25_0 : z25.toInt = v3.toInt + (Int32.ofInt 1).toInt := by rw [hz25]; exact pj_addI (by have := pj_i32 v3; have := pj_i32 (Int32.ofInt 1); omega) (by have := pj_i32 v3; have := pj_i32 (Int32.ofInt 1); omega)
            refine pj_X_of (fun r h => pj_R_to (G0, 4, [(3, .int z25), (2, .int z24), (5, .int (Int32.ofInt 0)), (4, .int (Int32.ofInt 0)), (0, .ref 171), (1, .int w)], [], 0, 0) 4 2 (fun _ => rfl) h) ?_
            exact pj_X_sub [(0, .ref 171), (1, .int w), (2, .int z24), (3, .int z25)] (show List.Nodup [0, 1, 2, 3] by decide) ⟨rfl, rfl, rfl, rfl, trivial⟩ (ih z24 z25 (pj_i32 _) ⟨by omega, by omega⟩ (by omega))
          | false =>
            have ub23 := pj_u0_geF b23
            refine pj_X_of (fun r h => pj_R_ifF rfl b23 h) ?_
            refine pj_X_of (fun r h => pj_R_to (G0, 51, [(4, .int (Int32.ofInt 0)), (0, .ref 171), (1, .int w), (2, .int v2), (3, .int v3)], [.int (Int32.ofInt 0)], 0, 0) 51 2 (fun _ => rfl) h) ?_
            refine pj_X_of (fun r h => pj_R_ifF rfl (pj_b0_neF (by omega)) h) ?_
            refine pj_X_of (fun r h => pj_R_to (G0, 95, [(5, .int (Int32.ofInt 1)), (4, .int (Int32.ofInt 0)), (0, .ref 171), (1, .int w), (2, .int v2), (3, .int v3)], [.int (Int32.ofInt 1), .int v2], 0, 0) 95 6 (fun _ => rfl) h) ?_
            refine pj_X_of (fun r h => pj_R_ifF rfl (pj_b0_eqF (by omega)) h) ?_
            refine pj_X_of (fun r h => pj_R_to (G0, 101, [(5, .int (Int32.ofInt 1)), (4, .int (Int32.ofInt 0)), (0, .ref 171), (1, .int w), (2, .int v2), (3, .int v3)], [.int ((Int32.ofInt 1) <<< (v3 &&& 31)), .int v2], 0, 0) 101 4 (fun _ => rfl) h) ?_
            obtain ⟨z26, hz26⟩ : ∃ z : Int32, z = (Int32.ofInt 1) <<< (v3 &&& 31) := ⟨_, rfl⟩
            refine pj_X_eqi hz26.symm ?_
            have fz26_0 : 1 ≤ z26.toInt ∧ z26.toInt ≤ 32 := by rw [hz26]; exact pj_shlI5 (by omega) (by omega)
            refine pj_X_of (fun r h => pj_R_to (G0, 106, [(5, .int (Int32.ofInt 1)), (4, .int (Int32.ofInt 0)), (0, .ref 171), (1, .int w), (2, .int v2), (3, .int v3)], [.int (v2 ||| z26)], 0, 0) 106 3 (fun _ => rfl) h) ?_
            obtain ⟨z27, hz27⟩ : ∃ z : Int32, z = v2 ||| z26 := ⟨_, rfl⟩
            refine pj_X_eqi hz27.symm ?_
            refine pj_X_of (fun r h => pj_R_to (G0, 110, [(3, .int (v3 + Int32.ofInt 1)), (2, .int z27), (5, .int (Int32.ofInt 1)), (4, .int (Int32.ofInt 0)), (0, .ref 171), (1, .int w)], [], 0, 0) 110 3 (fun _ => rfl) h) ?_
            obtain ⟨z28, hz28⟩ : ∃ z : Int32, z = v3 + Int32.ofInt 1 := ⟨_, rfl⟩
            rw [← hz28]
            have fz28_0 : z28.toInt = v3.toInt + (Int32.ofInt 1).toInt := by rw [hz28]; exact pj_addI (by have := pj_i32 v3; have := pj_i32 (Int32.ofInt 1); omega) (by have := pj_i32 v3; have := pj_i32 (Int32.ofInt 1); omega)
            refine pj_X_of (fun r h => pj_R_to (G0, 4, [(3, .int z28), (2, .int z27), (5, .int (Int32.ofInt 1)), (4, .int (Int32.ofInt 0)), (0, .ref 171), (1, .int w)], [], 0, 0) 4 2 (fun _ => rfl) h) ?_
            exact pj_X_sub [(0, .ref 171), (1, .int w), (2, .int z27), (3, .int z28)] (show List.Nodup [0, 1, 2, 3] by decide) ⟨rfl, rfl, rfl, rfl, trivial⟩ (ih z27 z28 (pj_i32 _) ⟨by omega, by omega⟩ (by omega))
      | false =>
        have ub6 := pj_u0_leF b6
        refine pj_X_of (fun r h => pj_R_ifF rfl b6 h) ?_
        refine pj_X_of (fun r h => pj_R_to (G0, 33, [(4, .int (Int32.ofInt 1)), (0, .ref 171), (1, .int w), (2, .int v2), (3, .int v3)], [.int w], 0, 0) 33 5 (fun _ => rfl) h) ?_
        cases b29 : pj_c1 .ne w 0 with
        | true =>
          have ub29 := pj_u0_neT b29
          refine pj_X_of (fun r h => pj_R_ifT 62 rfl rfl b29 h) ?_
          refine pj_X_of (fun r h => pj_R_to (G0, 64, [(4, .int (Int32.ofInt 1)), (0, .ref 171), (1, .int w), (2, .int v2), (3, .int v3)], [.int (Int32.ofInt 1), .int w], 0, 0) 64 3 (fun _ => rfl) h) ?_
          cases b30 : pj_c1 .ne w (Int32.ofInt 1) with
          | true =>
            have ub30 := pj_u_neT b30
            refine pj_X_of (fun r h => pj_R_icT 72 rfl rfl b30 h) ?_
            refine pj_X_of (fun r h => pj_R_to (G0, 73, [(4, .int (Int32.ofInt 1)), (0, .ref 171), (1, .int w), (2, .int v2), (3, .int v3)], [.ref 171], 0, 0) 73 2 (fun _ => rfl) h) ?_
            refine pj_X_of (fun r h => pj_T_gr hI rfl rfl rfl h) ?_
            refine pj_X_of (fun r h => pj_R_to (G0, 79, [(4, .int (Int32.ofInt 1)), (0, .ref 171), (1, .int w), (2, .int v2), (3, .int v3)], [.int ((Int32.ofInt 4) * v3), .ref 179], 0, 0) 79 4 (fun _ => rfl) h) ?_
            obtain ⟨z31, hz31⟩ : ∃ z : Int32, z = (Int32.ofInt 4) * v3 := ⟨_, rfl⟩
            refine pj_X_eqi hz31.symm ?_
            have fz31_0 : z31.toInt = 4 * v3.toInt := by rw [hz31]; exact pj_mulL (by decide) (by omega) (by omega)
            refine pj_X_of (fun r h => pj_R_to (G0, 81, [(4, .int (Int32.ofInt 1)), (0, .ref 171), (1, .int w), (2, .int v2), (3, .int v3)], [.int (z31 + (Int32.ofInt 2)), .ref 179], 0, 0) 81 3 (fun _ => rfl) h) ?_
            obtain ⟨z32, hz32⟩ : ∃ z : Int32, z = z31 + (Int32.ofInt 2) := ⟨_, rfl⟩
            refine pj_X_eqi hz32.symm ?_
            have fz32_0 : z32.toInt = z31.toInt + (Int32.ofInt 2).toInt := by rw [hz32]; exact pj_addI (by have := pj_i32 z31; have := pj_i32 (Int32.ofInt 2); omega) (by have := pj_i32 z31; have := pj_i32 (Int32.ofInt 2); omega)
            refine pj_X_of (fun r h => pj_T_il hI rfl rfl (by omega) (by omega) h) ?_
            show pj_X _ _ G0 82 [(4, .int (Int32.ofInt 1)), (0, .ref 171), (1, .int w), (2, .int v2), (3, .int v3)] [.int (pj_ai G0 179 z32.toInt.toNat)] _
            obtain ⟨z33, hz33⟩ : ∃ z : Int32, z = pj_ai G0 179 z32.toInt.toNat := ⟨_, rfl⟩
            refine pj_X_eqi hz33.symm ?_
            have ez33 : (pj_ai G0 179 z32.toInt.toNat).toInt = z33.toInt := by rw [hz33]
            cases b34 : pj_c1 .lt z33 0 with
            | true =>
              have ub34 := pj_u0_ltT b34
              refine pj_X_of (fun r h => pj_R_ifT 89 rfl rfl b34 h) ?_
              refine pj_X_of (fun r h => pj_R_to (G0, 95, [(5, .int (Int32.ofInt 0)), (4, .int (Int32.ofInt 1)), (0, .ref 171), (1, .int w), (2, .int v2), (3, .int v3)], [.int (Int32.ofInt 0), .int v2], 0, 0) 95 5 (fun _ => rfl) h) ?_
              refine pj_X_of (fun r h => pj_R_ifT 104 rfl rfl (pj_b0_eqT (by omega)) h) ?_
              refine pj_X_of (fun r h => pj_R_to (G0, 106, [(5, .int (Int32.ofInt 0)), (4, .int (Int32.ofInt 1)), (0, .ref 171), (1, .int w), (2, .int v2), (3, .int v3)], [.int (v2 ||| (Int32.ofInt 0))], 0, 0) 106 3 (fun _ => rfl) h) ?_
              obtain ⟨z35, hz35⟩ : ∃ z : Int32, z = v2 ||| (Int32.ofInt 0) := ⟨_, rfl⟩
              refine pj_X_eqi hz35.symm ?_
              refine pj_X_of (fun r h => pj_R_to (G0, 110, [(3, .int (v3 + Int32.ofInt 1)), (2, .int z35), (5, .int (Int32.ofInt 0)), (4, .int (Int32.ofInt 1)), (0, .ref 171), (1, .int w)], [], 0, 0) 110 3 (fun _ => rfl) h) ?_
              obtain ⟨z36, hz36⟩ : ∃ z : Int32, z = v3 + Int32.ofInt 1 := ⟨_, rfl⟩
              rw [← hz36]
              have fz36_0 : z36.toInt = v3.toInt + (Int32.ofInt 1).toInt := by rw [hz36]; exact pj_addI (by have := pj_i32 v3; have := pj_i32 (Int32.ofInt 1); omega) (by have := pj_i32 v3; have := pj_i32 (Int32.ofInt 1); omega)
              refine pj_X_of (fun r h => pj_R_to (G0, 4, [(3, .int z36), (2, .int z35), (5, .int (Int32.ofInt 0)), (4, .int (Int32.ofInt 1)), (0, .ref 171), (1, .int w)], [], 0, 0) 4 2 (fun _ => rfl) h) ?_
              exact pj_X_sub [(0, .ref 171), (1, .int w), (2, .int z35), (3, .int z36)] (show List.Nodup [0, 1, 2, 3] by decide) ⟨rfl, rfl, rfl, rfl, trivial⟩ (ih z35 z36 (pj_i32 _) ⟨by omega, by omega⟩ (by omega))
            | false =>
              have ub34 := pj_u0_ltF b34
              refine pj_X_of (fun r h => pj_R_ifF rfl b34 h) ?_
              refine pj_X_of (fun r h => pj_R_to (G0, 95, [(5, .int (Int32.ofInt 1)), (4, .int (Int32.ofInt 1)), (0, .ref 171), (1, .int w), (2, .int v2), (3, .int v3)], [.int (Int32.ofInt 1), .int v2], 0, 0) 95 6 (fun _ => rfl) h) ?_
              refine pj_X_of (fun r h => pj_R_ifF rfl (pj_b0_eqF (by omega)) h) ?_
              refine pj_X_of (fun r h => pj_R_to (G0, 101, [(5, .int (Int32.ofInt 1)), (4, .int (Int32.ofInt 1)), (0, .ref 171), (1, .int w), (2, .int v2), (3, .int v3)], [.int ((Int32.ofInt 1) <<< (v3 &&& 31)), .int v2], 0, 0) 101 4 (fun _ => rfl) h) ?_
              obtain ⟨z37, hz37⟩ : ∃ z : Int32, z = (Int32.ofInt 1) <<< (v3 &&& 31) := ⟨_, rfl⟩
              refine pj_X_eqi hz37.symm ?_
              have fz37_0 : 1 ≤ z37.toInt ∧ z37.toInt ≤ 32 := by rw [hz37]; exact pj_shlI5 (by omega) (by omega)
              refine pj_X_of (fun r h => pj_R_to (G0, 106, [(5, .int (Int32.ofInt 1)), (4, .int (Int32.ofInt 1)), (0, .ref 171), (1, .int w), (2, .int v2), (3, .int v3)], [.int (v2 ||| z37)], 0, 0) 106 3 (fun _ => rfl) h) ?_
              obtain ⟨z38, hz38⟩ : ∃ z : Int32, z = v2 ||| z37 := ⟨_, rfl⟩
              refine pj_X_eqi hz38.symm ?_
              refine pj_X_of (fun r h => pj_R_to (G0, 110, [(3, .int (v3 + Int32.ofInt 1)), (2, .int z38), (5, .int (Int32.ofInt 1)), (4, .int (Int32.ofInt 1)), (0, .ref 171), (1, .int w)], [], 0, 0) 110 3 (fun _ => rfl) h) ?_
              obtain ⟨z39, hz39⟩ : ∃ z : Int32, z = v3 + Int32.ofInt 1 := ⟨_, rfl⟩
              rw [← hz39]
              have fz39_0 : z39.toInt = v3.toInt + (Int32.ofInt 1).toInt := by rw [hz39]; exact pj_addI (by have := pj_i32 v3; have := pj_i32 (Int32.ofInt 1); omega) (by have := pj_i32 v3; have := pj_i32 (Int32.ofInt 1); omega)
              refine pj_X_of (fun r h => pj_R_to (G0, 4, [(3, .int z39), (2, .int z38), (5, .int (Int32.ofInt 1)), (4, .int (Int32.ofInt 1)), (0, .ref 171), (1, .int w)], [], 0, 0) 4 2 (fun _ => rfl) h) ?_
              exact pj_X_sub [(0, .ref 171), (1, .int w), (2, .int z38), (3, .int z39)] (show List.Nodup [0, 1, 2, 3] by decide) ⟨rfl, rfl, rfl, rfl, trivial⟩ (ih z38 z39 (pj_i32 _) ⟨by omega, by omega⟩ (by omega))
          | false =>
            have ub30 := pj_u_neF b30
            refine pj_X_of (fun r h => pj_R_icF rfl b30 h) ?_
            refine pj_X_of (fun r h => pj_R_to (G0, 95, [(5, .int (Int32.ofInt 1)), (4, .int (Int32.ofInt 1)), (0, .ref 171), (1, .int w), (2, .int v2), (3, .int v3)], [.int (Int32.ofInt 1), .int v2], 0, 0) 95 6 (fun _ => rfl) h) ?_
            refine pj_X_of (fun r h => pj_R_ifF rfl (pj_b0_eqF (by omega)) h) ?_
            refine pj_X_of (fun r h => pj_R_to (G0, 101, [(5, .int (Int32.ofInt 1)), (4, .int (Int32.ofInt 1)), (0, .ref 171), (1, .int w), (2, .int v2), (3, .int v3)], [.int ((Int32.ofInt 1) <<< (v3 &&& 31)), .int v2], 0, 0) 101 4 (fun _ => rfl) h) ?_
            obtain ⟨z40, hz40⟩ : ∃ z : Int32, z = (Int32.ofInt 1) <<< (v3 &&& 31) := ⟨_, rfl⟩
            refine pj_X_eqi hz40.symm ?_
            have fz40_0 : 1 ≤ z40.toInt ∧ z40.toInt ≤ 32 := by rw [hz40]; exact pj_shlI5 (by omega) (by omega)
            refine pj_X_of (fun r h => pj_R_to (G0, 106, [(5, .int (Int32.ofInt 1)), (4, .int (Int32.ofInt 1)), (0, .ref 171), (1, .int w), (2, .int v2), (3, .int v3)], [.int (v2 ||| z40)], 0, 0) 106 3 (fun _ => rfl) h) ?_
            obtain ⟨z41, hz41⟩ : ∃ z : Int32, z = v2 ||| z40 := ⟨_, rfl⟩
            refine pj_X_eqi hz41.symm ?_
            refine pj_X_of (fun r h => pj_R_to (G0, 110, [(3, .int (v3 + Int32.ofInt 1)), (2, .int z41), (5, .int (Int32.ofInt 1)), (4, .int (Int32.ofInt 1)), (0, .ref 171), (1, .int w)], [], 0, 0) 110 3 (fun _ => rfl) h) ?_
            obtain ⟨z42, hz42⟩ : ∃ z : Int32, z = v3 + Int32.ofInt 1 := ⟨_, rfl⟩
            rw [← hz42]
            have fz42_0 : z42.toInt = v3.toInt + (Int32.ofInt 1).toInt := by rw [hz42]; exact pj_addI (by have := pj_i32 v3; have := pj_i32 (Int32.ofInt 1); omega) (by have := pj_i32 v3; have := pj_i32 (Int32.ofInt 1); omega)
            refine pj_X_of (fun r h => pj_R_to (G0, 4, [(3, .int z42), (2, .int z41), (5, .int (Int32.ofInt 1)), (4, .int (Int32.ofInt 1)), (0, .ref 171), (1, .int w)], [], 0, 0) 4 2 (fun _ => rfl) h) ?_
            exact pj_X_sub [(0, .ref 171), (1, .int w), (2, .int z41), (3, .int z42)] (show List.Nodup [0, 1, 2, 3] by decide) ⟨rfl, rfl, rfl, rfl, trivial⟩ (ih z41 z42 (pj_i32 _) ⟨by omega, by omega⟩ (by omega))
        | false =>
          have ub29 := pj_u0_neF b29
          refine pj_X_of (fun r h => pj_R_ifF rfl b29 h) ?_
          refine pj_X_of (fun r h => pj_R_to (G0, 37, [(4, .int (Int32.ofInt 1)), (0, .ref 171), (1, .int w), (2, .int v2), (3, .int v3)], [.ref 171], 0, 0) 37 2 (fun _ => rfl) h) ?_
          refine pj_X_of (fun r h => pj_T_gr hI rfl rfl rfl h) ?_
          refine pj_X_of (fun r h => pj_R_to (G0, 43, [(4, .int (Int32.ofInt 1)), (0, .ref 171), (1, .int w), (2, .int v2), (3, .int v3)], [.int ((Int32.ofInt 4) * v3), .ref 179], 0, 0) 43 4 (fun _ => rfl) h) ?_
          obtain ⟨z43, hz43⟩ : ∃ z : Int32, z = (Int32.ofInt 4) * v3 := ⟨_, rfl⟩
          refine pj_X_eqi hz43.symm ?_
          have fz43_0 : z43.toInt = 4 * v3.toInt := by rw [hz43]; exact pj_mulL (by decide) (by omega) (by omega)
          refine pj_X_of (fun r h => pj_R_to (G0, 45, [(4, .int (Int32.ofInt 1)), (0, .ref 171), (1, .int w), (2, .int v2), (3, .int v3)], [.int (z43 + (Int32.ofInt 0)), .ref 179], 0, 0) 45 3 (fun _ => rfl) h) ?_
          obtain ⟨z44, hz44⟩ : ∃ z : Int32, z = z43 + (Int32.ofInt 0) := ⟨_, rfl⟩
          refine pj_X_eqi hz44.symm ?_
          have fz44_0 : z44.toInt = z43.toInt + (Int32.ofInt 0).toInt := by rw [hz44]; exact pj_addI (by have := pj_i32 z43; have := pj_i32 (Int32.ofInt 0); omega) (by have := pj_i32 z43; have := pj_i32 (Int32.ofInt 0); omega)
          refine pj_X_of (fun r h => pj_T_il hI rfl rfl (by omega) (by omega) h) ?_
          show pj_X _ _ G0 46 [(4, .int (Int32.ofInt 1)), (0, .ref 171), (1, .int w), (2, .int v2), (3, .int v3)] [.int (pj_ai G0 179 z44.toInt.toNat)] _
          obtain ⟨z45, hz45⟩ : ∃ z : Int32, z = pj_ai G0 179 z44.toInt.toNat := ⟨_, rfl⟩
          refine pj_X_eqi hz45.symm ?_
          have ez45 : (pj_ai G0 179 z44.toInt.toNat).toInt = z45.toInt := by rw [hz45]
          have fz45_0 : -1 ≤ z45.toInt ∧ z45.toInt ≤ 9 := by rw [hz45]; exact ((hI.2.2.2 179 32 rfl _ (by show _ < 32; omega)).1 (by omega)).1 (by omega)
          cases b46 : pj_c1 .ge z45 0 with
          | true =>
            have ub46 := pj_u0_geT b46
            refine pj_X_of (fun r h => pj_R_ifT 58 rfl rfl b46 h) ?_
            refine pj_X_of (fun r h => pj_R_to (G0, 95, [(5, .int (Int32.ofInt 0)), (4, .int (Int32.ofInt 1)), (0, .ref 171), (1, .int w), (2, .int v2), (3, .int v3)], [.int (Int32.ofInt 0), .int v2], 0, 0) 95 6 (fun _ => rfl) h) ?_
            refine pj_X_of (fun r h => pj_R_ifT 104 rfl rfl (pj_b0_eqT (by omega)) h) ?_
            refine pj_X_of (fun r h => pj_R_to (G0, 106, [(5, .int (Int32.ofInt 0)), (4, .int (Int32.ofInt 1)), (0, .ref 171), (1, .int w), (2, .int v2), (3, .int v3)], [.int (v2 ||| (Int32.ofInt 0))], 0, 0) 106 3 (fun _ => rfl) h) ?_
            obtain ⟨z47, hz47⟩ : ∃ z : Int32, z = v2 ||| (Int32.ofInt 0) := ⟨_, rfl⟩
            refine pj_X_eqi hz47.symm ?_
            refine pj_X_of (fun r h => pj_R_to (G0, 110, [(3, .int (v3 + Int32.ofInt 1)), (2, .int z47), (5, .int (Int32.ofInt 0)), (4, .int (Int32.ofInt 1)), (0, .ref 171), (1, .int w)], [], 0, 0) 110 3 (fun _ => rfl) h) ?_
            obtain ⟨z48, hz48⟩ : ∃ z : Int32, z = v3 + Int32.ofInt 1 := ⟨_, rfl⟩
            rw [← hz48]
            have fz48_0 : z48.toInt = v3.toInt + (Int32.ofInt 1).toInt := by rw [hz48]; exact pj_addI (by have := pj_i32 v3; have := pj_i32 (Int32.ofInt 1); omega) (by have := pj_i32 v3; have := pj_i32 (Int32.ofInt 1); omega)
            refine pj_X_of (fun r h => pj_R_to (G0, 4, [(3, .int z48), (2, .int z47), (5, .int (Int32.ofInt 0)), (4, .int (Int32.ofInt 1)), (0, .ref 171), (1, .int w)], [], 0, 0) 4 2 (fun _ => rfl) h) ?_
            exact pj_X_sub [(0, .ref 171), (1, .int w), (2, .int z47), (3, .int z48)] (show List.Nodup [0, 1, 2, 3] by decide) ⟨rfl, rfl, rfl, rfl, trivial⟩ (ih z47 z48 (pj_i32 _) ⟨by omega, by omega⟩ (by omega))
          | false =>
            have ub46 := pj_u0_geF b46
            refine pj_X_of (fun r h => pj_R_ifF rfl b46 h) ?_
            refine pj_X_of (fun r h => pj_R_to (G0, 51, [(4, .int (Int32.ofInt 1)), (0, .ref 171), (1, .int w), (2, .int v2), (3, .int v3)], [.int (Int32.ofInt 1)], 0, 0) 51 2 (fun _ => rfl) h) ?_
            refine pj_X_of (fun r h => pj_R_ifT 58 rfl rfl (pj_b0_neT (by omega)) h) ?_
            refine pj_X_of (fun r h => pj_R_to (G0, 95, [(5, .int (Int32.ofInt 0)), (4, .int (Int32.ofInt 1)), (0, .ref 171), (1, .int w), (2, .int v2), (3, .int v3)], [.int (Int32.ofInt 0), .int v2], 0, 0) 95 6 (fun _ => rfl) h) ?_
            refine pj_X_of (fun r h => pj_R_ifT 104 rfl rfl (pj_b0_eqT (by omega)) h) ?_
            refine pj_X_of (fun r h => pj_R_to (G0, 106, [(5, .int (Int32.ofInt 0)), (4, .int (Int32.ofInt 1)), (0, .ref 171), (1, .int w), (2, .int v2), (3, .int v3)], [.int (v2 ||| (Int32.ofInt 0))], 0, 0) 106 3 (fun _ => rfl) h) ?_
            obtain ⟨z49, hz49⟩ : ∃ z : Int32, z = v2 ||| (Int32.ofInt 0) := ⟨_, rfl⟩
            refine pj_X_eqi hz49.symm ?_
            refine pj_X_of (fun r h => pj_R_to (G0, 110, [(3, .int (v3 + Int32.ofInt 1)), (2, .int z49), (5, .int (Int32.ofInt 0)), (4, .int (Int32.ofInt 1)), (0, .ref 171), (1, .int w)], [], 0, 0) 110 3 (fun _ => rfl) h) ?_
            obtain ⟨z50, hz50⟩ : ∃ z : Int32, z = v3 + Int32.ofInt 1 := ⟨_, rfl⟩
            rw [← hz50]
            have fz50_0 : z50.toInt = v3.toInt + (Int32.ofInt 1).toInt := by rw [hz50]; exact pj_addI (by have := pj_i32 v3; have := pj_i32 (Int32.ofInt 1); omega) (by have := pj_i32 v3; have := pj_i32 (Int32.ofInt 1); omega)
            refine pj_X_of (fun r h => pj_R_to (G0, 4, [(3, .int z50), (2, .int z49), (5, .int (Int32.ofInt 0)), (4, .int (Int32.ofInt 1)), (0, .ref 171), (1, .int w)], [], 0, 0) 4 2 (fun _ => rfl) h) ?_
            exact pj_X_sub [(0, .ref 171), (1, .int w), (2, .int z49), (3, .int z50)] (show List.Nodup [0, 1, 2, 3] by decide) ⟨rfl, rfl, rfl, rfl, trivial⟩ (ih z49 z50 (pj_i32 _) ⟨by omega, by omega⟩ (by omega))
theorem ct_283 (G0 : pj_G) (hI : pj_Inv G0) (w : Int32) : pj_Y 1 283 [.ref 171, .int w] G0 (fun v G' => ∃ y : Int32, v = some (.int y) ∧ G0 = G' ∧ ((-2147483648 : Int) ≤ y.toInt ∧ y.toInt ≤ 2147483647)) := by
  have c0_ : (Int32.ofInt 0).toInt = 0 := by decide
  have c1_ : (Int32.ofInt 1).toInt = 1 := by decide
  have c2_ : (Int32.ofInt 2).toInt = 2 := by decide
  have c3_ : (Int32.ofInt 4).toInt = 4 := by decide
  refine pj_Y_X (M := pj_m283) rfl rfl (Nat.le_of_ble_eq_true rfl) ?_
  have hK : pj_kpt ([], [], []) G0 G0 := pj_kpt_r _ _
  show pj_X _ _ G0 0 [(0, .ref 171), (1, .int w)] [] _
  refine pj_X_of (fun r h => pj_R_to (G0, 4, [(3, .int (Int32.ofInt 0)), (2, .int (Int32.ofInt 0)), (0, .ref 171), (1, .int w)], [], 0, 0) 4 5 (fun _ => rfl) h) ?_
  exact pj_X_sub [(0, .ref 171), (1, .int w), (2, .int (Int32.ofInt 0)), (3, .int (Int32.ofInt 0))] (show List.Nodup [0, 1, 2, 3] by decide) ⟨rfl, rfl, rfl, rfl, trivial⟩ ((lp_ct_283 G0 hI w  7) (Int32.ofInt 0) (Int32.ofInt 0) (pj_i32 _) ⟨by omega, by omega⟩ (by omega))
def kc_284 : pj_KT := ([(171, 0)], [171], [])
theorem ct_284 (G0 : pj_G) (hI : pj_Inv G0) (w : Int32) : pj_Y 5 284 [.ref 171, .int w] G0 (fun v G' => ∃ y : Int32, v = some (.int y) ∧ pj_Inv G' ∧ pj_kpt kc_284 G0 G' ∧ ((-2147483648 : Int) ≤ y.toInt ∧ y.toInt ≤ 2147483647)) := by
  have c0_ : ((Int8.ofInt (-100)).toInt32).toInt = -100 := by decide
  have c1_ : ((Int8.ofInt 30).toInt32).toInt = 30 := by decide
  have c2_ : ((Int8.ofInt 31).toInt32).toInt = 31 := by decide
  have c3_ : (Int32.ofInt 0).toInt = 0 := by decide
  have c4_ : (Int32.ofInt 5).toInt = 5 := by decide
  refine pj_Y_X (M := pj_m284) rfl rfl (Nat.le_of_ble_eq_true rfl) ?_
  have hK : pj_kpt kc_284 G0 G0 := pj_kpt_r _ _
  show pj_X _ _ G0 0 [(0, .ref 171), (1, .int w)] [] _
  refine pj_X_of (fun r h => pj_R_to (G0, 2, [(0, .ref 171), (1, .int w)], [.int (Int32.ofInt 0), .ref 171], 0, 0) 2 3 (fun _ => rfl) h) ?_
  refine pj_X_of (fun r h => pj_T_pf hI rfl rfl rfl h) ?_
  show pj_X _ _ (pj_wv G0 171 0 (.int (Int32.ofInt 0))) 5 [(0, .ref 171), (1, .int w)] [] _
  obtain ⟨G1, hG1⟩ : ∃ H, H = pj_wv G0 171 0 (.int (Int32.ofInt 0)) := ⟨_, rfl⟩
  have iG1 : pj_Inv G1 := by rw [hG1]; exact pj_Inv_wi hI (ci := 12) rfl (fun q hq => by cases hq)
  have kG1 : pj_kpt kc_284 G0 G1 := by rw [hG1]; exact pj_kpt_v hK rfl
  rw [← hG1]
  refine pj_X_of (fun r h => pj_R_to (G1, 6, [(0, .ref 171), (1, .int w)], [.int w], 0, 0) 6 2 (fun _ => rfl) h) ?_
  by_cases t2 : w.toInt = 0
  · refine pj_X_of (fun r h => pj_R_tw 76 rfl (n := 0) t2 rfl h) ?_
    refine pj_X_of (fun r h => pj_R_to (G1, 77, [(0, .ref 171), (1, .int w)], [.ref 171], 0, 0) 77 2 (fun _ => rfl) h) ?_
    refine pj_X_of (fun r h => pj_T_gi iG1 rfl rfl h) ?_
    show pj_X _ _ G1 80 [(0, .ref 171), (1, .int w)] [.int (pj_fi G1 171 3)] _
    obtain ⟨y3, hy3⟩ : ∃ z : Int32, z = pj_fi G1 171 3 := ⟨_, rfl⟩
    refine pj_X_eqi hy3.symm ?_
    have ey3 : (pj_fi G1 171 3).toInt = y3.toInt := by rw [hy3]
    have ry3 : (0 : Int) ≤ y3.toInt ∧ y3.toInt ≤ 8 := by rw [hy3]; exact iG1.2.1 171 3 (0, 8) rfl
    exact pj_X_rt rfl rfl ⟨_, rfl, iG1, kG1, pj_i32 _⟩
  by_cases t4 : w.toInt = 1
  · refine pj_X_of (fun r h => pj_R_tw 81 rfl (n := 1) t4 rfl h) ?_
    refine pj_X_of (fun r h => pj_R_to (G1, 82, [(0, .ref 171), (1, .int w)], [.ref 171], 0, 0) 82 2 (fun _ => rfl) h) ?_
    refine pj_X_of (fun r h => pj_T_gi iG1 rfl rfl h) ?_
    show pj_X _ _ G1 85 [(0, .ref 171), (1, .int w)] [.int (pj_fi G1 171 4)] _
    obtain ⟨y5, hy5⟩ : ∃ z : Int32, z = pj_fi G1 171 4 := ⟨_, rfl⟩
    refine pj_X_eqi hy5.symm ?_
    have ey5 : (pj_fi G1 171 4).toInt = y5.toInt := by rw [hy5]
    have ry5 : (0 : Int) ≤ y5.toInt ∧ y5.toInt ≤ 10 := by rw [hy5]; exact iG1.2.1 171 4 (0, 10) rfl
    exact pj_X_rt rfl rfl ⟨_, rfl, iG1, kG1, pj_i32 _⟩
  by_cases t6 : w.toInt = 2
  · refine pj_X_of (fun r h => pj_R_tw 86 rfl (n := 2) t6 rfl h) ?_
    refine pj_X_of (fun r h => pj_R_to (G1, 87, [(0, .ref 171), (1, .int w)], [.ref 171], 0, 0) 87 2 (fun _ => rfl) h) ?_
    refine pj_X_of (fun r h => pj_T_gi iG1 rfl rfl h) ?_
    show pj_X _ _ G1 90 [(0, .ref 171), (1, .int w)] [.int (pj_fi G1 171 5)] _
    obtain ⟨y7, hy7⟩ : ∃ z : Int32, z = pj_fi G1 171 5 := ⟨_, rfl⟩
    refine pj_X_eqi hy7.symm ?_
    have ey7 : (pj_fi G1 171 5).toInt = y7.toInt := by rw [hy7]
    have ry7 : (0 : Int) ≤ y7.toInt ∧ y7.toInt ≤ 6 := by rw [hy7]; exact iG1.2.1 171 5 (0, 6) rfl
    exact pj_X_rt rfl rfl ⟨_, rfl, iG1, kG1, pj_i32 _⟩
  by_cases t8 : w.toInt = 3
  · refine pj_X_of (fun r h => pj_R_tw 91 rfl (n := 3) t8 rfl h) ?_
    refine pj_X_of (fun r h => pj_R_to (G1, 92, [(0, .ref 171), (1, .int w)], [.ref 171], 0, 0) 92 2 (fun _ => rfl) h) ?_
    refine pj_X_of (fun r h => pj_T_gi iG1 rfl rfl h) ?_
    show pj_X _ _ G1 95 [(0, .ref 171), (1, .int w)] [.int (pj_fi G1 171 6)] _
    obtain ⟨y9, hy9⟩ : ∃ z : Int32, z = pj_fi G1 171 6 := ⟨_, rfl⟩
    refine pj_X_eqi hy9.symm ?_
    have ey9 : (pj_fi G1 171 6).toInt = y9.toInt := by rw [hy9]
    have ry9 : (0 : Int) ≤ y9.toInt ∧ y9.toInt ≤ 6 := by rw [hy9]; exact iG1.2.1 171 6 (0, 6) rfl
    exact pj_X_rt rfl rfl ⟨_, rfl, iG1, kG1, pj_i32 _⟩
  by_cases t10 : w.toInt = 4
  · refine pj_X_of (fun r h => pj_R_tw 96 rfl (n := 4) t10 rfl h) ?_
    refine pj_X_of (fun r h => pj_R_to (G1, 97, [(0, .ref 171), (1, .int w)], [.ref 171], 0, 0) 97 2 (fun _ => rfl) h) ?_
    refine pj_X_of (fun r h => pj_T_gr iG1 rfl rfl rfl h) ?_
    refine pj_X_of (fun r h => pj_R_to (G1, 102, [(0, .ref 171), (1, .int w)], [.int ((Int8.ofInt 30).toInt32), .ref 179], 0, 0) 102 2 (fun _ => rfl) h) ?_
    refine pj_X_of (fun r h => pj_T_il iG1 rfl rfl (by omega) (by omega) h) ?_
    show pj_X _ _ G1 103 [(0, .ref 171), (1, .int w)] [.int (pj_ai G1 179 ((Int8.ofInt 30).toInt32).toInt.toNat)] _
    obtain ⟨z11, hz11⟩ : ∃ z : Int32, z = pj_ai G1 179 ((Int8.ofInt 30).toInt32).toInt.toNat := ⟨_, rfl⟩
    refine pj_X_eqi hz11.symm ?_
    have ez11 : (pj_ai G1 179 ((Int8.ofInt 30).toInt32).toInt.toNat).toInt = z11.toInt := by rw [hz11]
    exact pj_X_rt rfl rfl ⟨_, rfl, iG1, kG1, pj_i32 _⟩
  by_cases t12 : w.toInt = 5
  · refine pj_X_of (fun r h => pj_R_tw 104 rfl (n := 5) t12 rfl h) ?_
    refine pj_X_of (fun r h => pj_R_to (G1, 108, [(0, .ref 171), (1, .int w)], [.int (w - (Int32.ofInt 5)), .ref 171], 0, 0) 108 5 (fun _ => rfl) h) ?_
    obtain ⟨z13, hz13⟩ : ∃ z : Int32, z = w - (Int32.ofInt 5) := ⟨_, rfl⟩
    refine pj_X_eqi hz13.symm ?_
    have fz13_0 : z13.toInt = w.toInt - (Int32.ofInt 5).toInt := by rw [hz13]; exact pj_subI (by have := pj_i32 w; have := pj_i32 (Int32.ofInt 5); omega) (by have := pj_i32 w; have := pj_i32 (Int32.ofInt 5); omega)
    refine pj_X_ca (vs := [.ref 171, .int z13]) rfl (fun _ => rfl) ⟨Nat.le_of_ble_eq_true rfl, Nat.le_of_ble_eq_true rfl, pj_T_rcv iG1 rfl⟩ ⟨rfl, rfl⟩ (pj_Y_up (by decide) (ct_283 G1 iG1 z13)) ?_
    rintro _ _ ⟨y14, rfl, rfl, ry14⟩
    show pj_X _ _ G1 111 [(0, .ref 171), (1, .int w)] [.int y14] _
    exact pj_X_rt rfl rfl ⟨_, rfl, iG1, kG1, pj_i32 _⟩
  by_cases t15 : w.toInt = 6
  · refine pj_X_of (fun r h => pj_R_tw 104 rfl (n := 6) t15 rfl h) ?_
    refine pj_X_of (fun r h => pj_R_to (G1, 108, [(0, .ref 171), (1, .int w)], [.int (w - (Int32.ofInt 5)), .ref 171], 0, 0) 108 5 (fun _ => rfl) h) ?_
    obtain ⟨z16, hz16⟩ : ∃ z : Int32, z = w - (Int32.ofInt 5) := ⟨_, rfl⟩
    refine pj_X_eqi hz16.symm ?_
    have fz16_0 : z16.toInt = w.toInt - (Int32.ofInt 5).toInt := by rw [hz16]; exact pj_subI (by have := pj_i32 w; have := pj_i32 (Int32.ofInt 5); omega) (by have := pj_i32 w; have := pj_i32 (Int32.ofInt 5); omega)
    refine pj_X_ca (vs := [.ref 171, .int z16]) rfl (fun _ => rfl) ⟨Nat.le_of_ble_eq_true rfl, Nat.le_of_ble_eq_true rfl, pj_T_rcv iG1 rfl⟩ ⟨rfl, rfl⟩ (pj_Y_up (by decide) (ct_283 G1 iG1 z16)) ?_
    rintro _ _ ⟨y17, rfl, rfl, ry17⟩
    show pj_X _ _ G1 111 [(0, .ref 171), (1, .int w)] [.int y17] _
    exact pj_X_rt rfl rfl ⟨_, rfl, iG1, kG1, pj_i32 _⟩
  by_cases t18 : w.toInt = 7
  · refine pj_X_of (fun r h => pj_R_tw 104 rfl (n := 7) t18 rfl h) ?_
    refine pj_X_of (fun r h => pj_R_to (G1, 108, [(0, .ref 171), (1, .int w)], [.int (w - (Int32.ofInt 5)), .ref 171], 0, 0) 108 5 (fun _ => rfl) h) ?_
    obtain ⟨z19, hz19⟩ : ∃ z : Int32, z = w - (Int32.ofInt 5) := ⟨_, rfl⟩
    refine pj_X_eqi hz19.symm ?_
    have fz19_0 : z19.toInt = w.toInt - (Int32.ofInt 5).toInt := by rw [hz19]; exact pj_subI (by have := pj_i32 w; have := pj_i32 (Int32.ofInt 5); omega) (by have := pj_i32 w; have := pj_i32 (Int32.ofInt 5); omega)
    refine pj_X_ca (vs := [.ref 171, .int z19]) rfl (fun _ => rfl) ⟨Nat.le_of_ble_eq_true rfl, Nat.le_of_ble_eq_true rfl, pj_T_rcv iG1 rfl⟩ ⟨rfl, rfl⟩ (pj_Y_up (by decide) (ct_283 G1 iG1 z19)) ?_
    rintro _ _ ⟨y20, rfl, rfl, ry20⟩
    show pj_X _ _ G1 111 [(0, .ref 171), (1, .int w)] [.int y20] _
    exact pj_X_rt rfl rfl ⟨_, rfl, iG1, kG1, pj_i32 _⟩
  by_cases t21 : w.toInt = 8
  · refine pj_X_of (fun r h => pj_R_tw 112 rfl (n := 8) t21 rfl h) ?_
    refine pj_X_of (fun r h => pj_R_to (G1, 113, [(0, .ref 171), (1, .int w)], [.ref 171], 0, 0) 113 2 (fun _ => rfl) h) ?_
    refine pj_X_of (fun r h => pj_T_gr iG1 rfl rfl rfl h) ?_
    refine pj_X_of (fun r h => pj_R_to (G1, 118, [(0, .ref 171), (1, .int w)], [.int ((Int8.ofInt 31).toInt32), .ref 179], 0, 0) 118 2 (fun _ => rfl) h) ?_
    refine pj_X_of (fun r h => pj_T_il iG1 rfl rfl (by omega) (by omega) h) ?_
    show pj_X _ _ G1 119 [(0, .ref 171), (1, .int w)] [.int (pj_ai G1 179 ((Int8.ofInt 31).toInt32).toInt.toNat)] _
    obtain ⟨z22, hz22⟩ : ∃ z : Int32, z = pj_ai G1 179 ((Int8.ofInt 31).toInt32).toInt.toNat := ⟨_, rfl⟩
    refine pj_X_eqi hz22.symm ?_
    have ez22 : (pj_ai G1 179 ((Int8.ofInt 31).toInt32).toInt.toNat).toInt = z22.toInt := by rw [hz22]
    exact pj_X_rt rfl rfl ⟨_, rfl, iG1, kG1, pj_i32 _⟩
  by_cases t23 : w.toInt = 9
  · refine pj_X_of (fun r h => pj_R_tw 120 rfl (n := 9) t23 rfl h) ?_
    refine pj_X_of (fun r h => pj_R_to (G1, 121, [(0, .ref 171), (1, .int w)], [.ref 171], 0, 0) 121 2 (fun _ => rfl) h) ?_
    refine pj_X_of (fun r h => pj_T_gi iG1 rfl rfl h) ?_
    show pj_X _ _ G1 124 [(0, .ref 171), (1, .int w)] [.int (pj_fi G1 171 48)] _
    obtain ⟨y24, hy24⟩ : ∃ z : Int32, z = pj_fi G1 171 48 := ⟨_, rfl⟩
    refine pj_X_eqi hy24.symm ?_
    have ey24 : (pj_fi G1 171 48).toInt = y24.toInt := by rw [hy24]
    have ry24 : (0 : Int) ≤ y24.toInt ∧ y24.toInt ≤ 12 := by rw [hy24]; exact iG1.2.1 171 48 (0, 12) rfl
    exact pj_X_rt rfl rfl ⟨_, rfl, iG1, kG1, pj_i32 _⟩
  by_cases t25 : w.toInt = 10
  · refine pj_X_of (fun r h => pj_R_tw 125 rfl (n := 10) t25 rfl h) ?_
    refine pj_X_of (fun r h => pj_R_to (G1, 126, [(0, .ref 171), (1, .int w)], [.ref 171], 0, 0) 126 2 (fun _ => rfl) h) ?_
    refine pj_X_of (fun r h => pj_T_gi iG1 rfl rfl h) ?_
    show pj_X _ _ G1 129 [(0, .ref 171), (1, .int w)] [.int (pj_fi G1 171 30)] _
    obtain ⟨y26, hy26⟩ : ∃ z : Int32, z = pj_fi G1 171 30 := ⟨_, rfl⟩
    refine pj_X_eqi hy26.symm ?_
    have ey26 : (pj_fi G1 171 30).toInt = y26.toInt := by rw [hy26]
    have ry26 : (0 : Int) ≤ y26.toInt ∧ y26.toInt ≤ 16 := by rw [hy26]; exact iG1.2.1 171 30 (0, 16) rfl
    exact pj_X_rt rfl rfl ⟨_, rfl, iG1, kG1, pj_i32 _⟩
  by_cases t27 : w.toInt = 11
  · refine pj_X_of (fun r h => pj_R_tw 130 rfl (n := 11) t27 rfl h) ?_
    refine pj_X_of (fun r h => pj_R_to (G1, 131, [(0, .ref 171), (1, .int w)], [.ref 171], 0, 0) 131 2 (fun _ => rfl) h) ?_
    refine pj_X_of (fun r h => pj_T_gi iG1 rfl rfl h) ?_
    show pj_X _ _ G1 134 [(0, .ref 171), (1, .int w)] [.int (pj_fi G1 171 1)] _
    obtain ⟨y28, hy28⟩ : ∃ z : Int32, z = pj_fi G1 171 1 := ⟨_, rfl⟩
    refine pj_X_eqi hy28.symm ?_
    have ey28 : (pj_fi G1 171 1).toInt = y28.toInt := by rw [hy28]
    have ry28 : (0 : Int) ≤ y28.toInt ∧ y28.toInt ≤ 24 := by rw [hy28]; exact iG1.2.1 171 1 (0, 24) rfl
    exact pj_X_rt rfl rfl ⟨_, rfl, iG1, kG1, pj_i32 _⟩
  by_cases t29 : w.toInt = 12
  · refine pj_X_of (fun r h => pj_R_tw 135 rfl (n := 12) t29 rfl h) ?_
    refine pj_X_of (fun r h => pj_R_to (G1, 136, [(0, .ref 171), (1, .int w)], [.ref 171], 0, 0) 136 2 (fun _ => rfl) h) ?_
    refine pj_X_of (fun r h => pj_T_gi iG1 rfl rfl h) ?_
    show pj_X _ _ G1 139 [(0, .ref 171), (1, .int w)] [.int (pj_fi G1 171 16)] _
    obtain ⟨y30, hy30⟩ : ∃ z : Int32, z = pj_fi G1 171 16 := ⟨_, rfl⟩
    refine pj_X_eqi hy30.symm ?_
    have ey30 : (pj_fi G1 171 16).toInt = y30.toInt := by rw [hy30]
    have ry30 : (0 : Int) ≤ y30.toInt ∧ y30.toInt ≤ 80 := by rw [hy30]; exact iG1.2.1 171 16 (0, 80) rfl
    exact pj_X_rt rfl rfl ⟨_, rfl, iG1, kG1, pj_i32 _⟩
  by_cases t31 : w.toInt = 13
  · refine pj_X_of (fun r h => pj_R_tw 140 rfl (n := 13) t31 rfl h) ?_
    refine pj_X_of (fun r h => pj_R_to (G1, 144, [(0, .ref 171), (1, .int w)], [.int (Int32.ofInt 0), .int (Int32.ofInt 0), .ref 171, .ref 171], 0, 0) 144 5 (fun _ => rfl) h) ?_
    refine pj_X_ca (vs := [.ref 171, .int (Int32.ofInt 0), .int (Int32.ofInt 0)]) rfl (fun _ => rfl) ⟨Nat.le_of_ble_eq_true rfl, Nat.le_of_ble_eq_true rfl, pj_T_rcv iG1 rfl⟩ ⟨rfl, rfl⟩ (pj_Y_up (by decide) (ct_206x G1 iG1 (Int32.ofInt 0) (Int32.ofInt 0))) ?_
    rintro _ _ ⟨y32, rfl, rfl, ry32, ey32, fy32⟩
    replace ey32 := ey32 _ rfl
    show pj_X _ _ G1 147 [(0, .ref 171), (1, .int w)] [.int y32, .ref 171] _
    refine pj_X_ca (vs := [.ref 171, .int y32]) rfl (fun _ => rfl) ⟨Nat.le_of_ble_eq_true rfl, Nat.le_of_ble_eq_true rfl, pj_T_rcv iG1 rfl⟩ ⟨rfl, rfl⟩ (pj_Y_up (by decide) (ct_209 G1 iG1 y32)) ?_
    rintro _ _ ⟨y33, rfl, rfl, ry33⟩
    show pj_X _ _ G1 150 [(0, .ref 171), (1, .int w)] [.int y33] _
    exact pj_X_rt rfl rfl ⟨_, rfl, iG1, kG1, pj_i32 _⟩
  refine pj_X_of (fun r h => pj_R_td 151 rfl (by omega) rfl h) ?_
  refine pj_X_of (fun r h => pj_R_to (G1, 153, [(0, .ref 171), (1, .int w)], [.int ((Int8.ofInt (-100)).toInt32)], 0, 0) 153 2 (fun _ => rfl) h) ?_
  exact pj_X_rt rfl rfl ⟨_, rfl, iG1, kG1, pj_i32 _⟩
def kc_285 : pj_KT := ([(171, 0)], [171], [])
theorem ct_285 (G0 : pj_G) (hI : pj_Inv G0) (i : Int32) : pj_Y 3 285 [.ref 171, .int i] G0 (fun v G' => ∃ y : Int64, v = some (.long y) ∧ pj_Inv G' ∧ pj_kpt kc_285 G0 G') := by
  have c0_ : (Int32.ofInt 0).toInt = 0 := by decide
  have c1_ : (Int32.ofInt 1).toInt = 1 := by decide
  refine pj_Y_X (M := pj_m285) rfl rfl (Nat.le_of_ble_eq_true rfl) ?_
  have hK : pj_kpt kc_285 G0 G0 := pj_kpt_r _ _
  show pj_X _ _ G0 0 [(0, .ref 171), (1, .int i)] [] _
  obtain ⟨y1, hy1⟩ : ∃ z : Int32, z = pj_fi G0 171 1 := ⟨_, rfl⟩
  have ey1 : (pj_fi G0 171 1).toInt = y1.toInt := by rw [hy1]
  have ry1 : (0 : Int) ≤ y1.toInt ∧ y1.toInt ≤ 24 := by rw [hy1]; exact hI.2.1 171 1 (0, 24) rfl
  refine pj_X_of (fun r h => pj_R_to (G0, 2, [(0, .ref 171), (1, .int i)], [.int (Int32.ofInt 0), .ref 171], 0, 0) 2 3 (fun _ => rfl) h) ?_
  refine pj_X_of (fun r h => pj_T_pf hI rfl rfl rfl h) ?_
  show pj_X _ _ (pj_wv G0 171 0 (.int (Int32.ofInt 0))) 5 [(0, .ref 171), (1, .int i)] [] _
  obtain ⟨G2, hG2⟩ : ∃ H, H = pj_wv G0 171 0 (.int (Int32.ofInt 0)) := ⟨_, rfl⟩
  have iG2 : pj_Inv G2 := by rw [hG2]; exact pj_Inv_wi hI (ci := 12) rfl (fun q hq => by cases hq)
  have kG2 : pj_kpt kc_285 G0 G2 := by rw [hG2]; exact pj_kpt_v hK rfl
  rw [← hG2]
  refine pj_X_of (fun r h => pj_R_to (G2, 9, [(0, .ref 171), (1, .int i)], [.ref 171, .long (Int64.ofNat 0), .long i.toInt64], 0, 0) 9 5 (fun _ => rfl) h) ?_
  refine pj_X_of (fun r h => pj_T_gi iG2 rfl rfl h) ?_
  show pj_X _ _ G2 12 [(0, .ref 171), (1, .int i)] [.int (pj_fi G2 171 1), .long (Int64.ofNat 0), .long i.toInt64] _
  refine pj_X_eqi (show pj_fi G2 171 1 = y1 from by rw [hG2, pj_fi_wv_ne _ _ _ _ _ _ (by decide)]; exact hy1.symm) ?_
  refine pj_X_of (fun r h => pj_R_to (G2, 14, [(0, .ref 171), (1, .int i)], [.int (y1 - (Int32.ofInt 1)), .long (Int64.ofNat 0), .long i.toInt64], 0, 0) 14 3 (fun _ => rfl) h) ?_
  obtain ⟨z3, hz3⟩ : ∃ z : Int32, z = y1 - (Int32.ofInt 1) := ⟨_, rfl⟩
  refine pj_X_eqi hz3.symm ?_
  have fz3_0 : z3.toInt = y1.toInt - (Int32.ofInt 1).toInt := by rw [hz3]; exact pj_subI (by have := pj_i32 y1; have := pj_i32 (Int32.ofInt 1); omega) (by have := pj_i32 y1; have := pj_i32 (Int32.ofInt 1); omega)
  refine pj_X_of (fun r h => pj_R_to (G2, 15, [(0, .ref 171), (1, .int i)], [.long z3.toInt64, .long (Int64.ofNat 0), .long i.toInt64], 0, 0) 15 2 (fun _ => rfl) h) ?_
  have q4 : (pj_fi G2 171 1).toInt = y1.toInt := by rw [show pj_fi G2 171 1 = y1 from by rw [hG2, pj_fi_wv_ne _ _ _ _ _ _ (by decide)]; exact hy1.symm]
  have lc5 : (i.toInt64).toInt = i.toInt := Int32.toInt_toInt64 _
  have lc6 : (Int64.ofNat 0).toInt = 0 := by decide
  have lc7 : (z3.toInt64).toInt = z3.toInt := Int32.toInt_toInt64 _
  refine pj_X_ca (vs := [.long i.toInt64, .long (Int64.ofNat 0), .long z3.toInt64]) rfl (fun _ => rfl) ⟨Nat.le_of_ble_eq_true rfl, Nat.le_of_ble_eq_true rfl, rfl⟩ ⟨rfl, rfl⟩ (pj_Y_up (by decide) (ct_170x G2 iG2 i.toInt64 (Int64.ofNat 0) z3.toInt64)) ?_
  rintro _ _ ⟨y8, rfl, rfl, ry8, ey8, fy8⟩
  show pj_X _ _ G2 18 [(0, .ref 171), (1, .int i)] [.int y8] _
  cases b9 : pj_c1 .ne y8 0 with
  | true =>
    have ub9 := pj_u0_neT b9
    refine pj_X_of (fun r h => pj_R_ifT 28 rfl rfl b9 h) ?_
    refine pj_X_of (fun r h => pj_R_to (G2, 29, [(0, .ref 171), (1, .int i)], [.ref 171], 0, 0) 29 2 (fun _ => rfl) h) ?_
    refine pj_X_of (fun r h => pj_T_gr iG2 rfl rfl rfl h) ?_
    refine pj_X_of (fun r h => pj_R_to (G2, 33, [(0, .ref 171), (1, .int i)], [.int i, .ref 172], 0, 0) 33 2 (fun _ => rfl) h) ?_
    refine pj_X_ll iG2 rfl rfl (by omega) (by omega) (fun w10 => ?_)
    show pj_X _ _ G2 34 [(0, .ref 171), (1, .int i)] [.long w10] _
    have q11 : (pj_fi G2 171 1).toInt = y1.toInt := by rw [show pj_fi G2 171 1 = y1 from by rw [hG2, pj_fi_wv_ne _ _ _ _ _ _ (by decide)]; exact hy1.symm]
    exact pj_X_rt rfl rfl ⟨_, rfl, iG2, kG2⟩
  | false =>
    have ub9 := pj_u0_neF b9
    refine pj_X_of (fun r h => pj_R_ifF rfl b9 h) ?_
    refine pj_X_of (fun r h => pj_R_to (G2, 23, [(0, .ref 171), (1, .int i)], [.int (Int32.ofInt 1), .ref 171], 0, 0) 23 3 (fun _ => rfl) h) ?_
    refine pj_X_of (fun r h => pj_T_pf iG2 rfl rfl rfl h) ?_
    show pj_X _ _ (pj_wv G2 171 0 (.int (Int32.ofInt 1))) 26 [(0, .ref 171), (1, .int i)] [] _
    obtain ⟨G12, hG12⟩ : ∃ H, H = pj_wv G2 171 0 (.int (Int32.ofInt 1)) := ⟨_, rfl⟩
    have iG12 : pj_Inv G12 := by rw [hG12]; exact pj_Inv_wi iG2 (ci := 12) rfl (fun q hq => by cases hq)
    have kG12 : pj_kpt kc_285 G0 G12 := by rw [hG12]; exact pj_kpt_v kG2 rfl
    rw [← hG12]
    refine pj_X_of (fun r h => pj_R_to (G12, 27, [(0, .ref 171), (1, .int i)], [.long (Int64.ofNat 0)], 0, 0) 27 2 (fun _ => rfl) h) ?_
    have q13 : (pj_fi G12 171 1).toInt = y1.toInt := by rw [show pj_fi G12 171 1 = y1 from by rw [hG12, pj_fi_wv_ne _ _ _ _ _ _ (by decide)]; exact (by rw [hG2, pj_fi_wv_ne _ _ _ _ _ _ (by decide)]; exact hy1.symm)]
    exact pj_X_rt rfl rfl ⟨_, rfl, iG12, kG12⟩
