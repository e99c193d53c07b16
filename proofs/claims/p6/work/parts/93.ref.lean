def kc_169 : pj_KT := ([(171, 0)], [171], [])
theorem ct_169 (G0 : pj_G) (hI : pj_Inv G0) : pj_Y 1 169 [.ref 171] G0 (fun v G' => ∃ y : Int32, v = some (.int y) ∧ pj_Inv G' ∧ pj_kpt kc_169 G0 G' ∧ ((-2147483648 : Int) ≤ y.toInt ∧ y.toInt ≤ 2147483647)) := by
  have c0_ : (Int32.ofInt 0).toInt = 0 := by decide
  have c1_ : (Int32.ofInt 1).toInt = 1 := by decide
  refine pj_Y_X (M := pj_m169) rfl rfl (Nat.le_of_ble_eq_true rfl) ?_
  have hK : pj_kpt kc_169 G0 G0 := pj_kpt_r _ _
  show pj_X _ _ G0 0 [(0, .ref 171)] [] _
  refine pj_X_of (fun r h => pj_R_to (G0, 2, [(0, .ref 171)], [.int (Int32.ofInt 1), .ref 171], 0, 0) 2 3 (fun _ => rfl) h) ?_
  refine pj_X_of (fun r h => pj_T_pf hI rfl rfl rfl h) ?_
  show pj_X _ _ (pj_wv G0 171 0 (.int (Int32.ofInt 1))) 5 [(0, .ref 171)] [] _
  obtain ⟨G1, hG1⟩ : ∃ H, H = pj_wv G0 171 0 (.int (Int32.ofInt 1)) := ⟨_, rfl⟩
  have iG1 : pj_Inv G1 := by rw [hG1]; exact pj_Inv_wi hI (ci := 12) rfl (fun q hq => by cases hq)
  have kG1 : pj_kpt kc_169 G0 G1 := by rw [hG1]; exact pj_kpt_v hK rfl
  rw [← hG1]
  refine pj_X_of (fun r h => pj_R_to (G1, 6, [(0, .ref 171)], [.int (Int32.ofInt 0)], 0, 0) 6 2 (fun _ => rfl) h) ?_
  exact pj_X_rt rfl rfl ⟨_, rfl, iG1, kG1, pj_i32 _⟩
theorem lp_ct_207 (G0 : pj_G) (hI : pj_Inv G0) (so : Int32) (op : Int32) : ∀ mn : Nat, (∀ (v3 : Int32) (v4 : Int32), ((-2147483648 : Int) ≤ v3.toInt ∧ v3.toInt ≤ 2147483647) → ((0 : Int) ≤ v4.toInt ∧ v4.toInt ≤ 10) → 10 - v4.toInt < (mn : Int) → pj_X 1 pj_m207 G0 5 [(0, .ref 171), (1, .int so), (2, .int op), (3, .int v3), (4, .int v4)] [] (fun v G' => ∃ y : Int32, v = some (.int y) ∧ G0 = G' ∧ ((-2147483648 : Int) ≤ y.toInt ∧ y.toInt ≤ 2147483647))) := by
  have c0_ : (Int32.ofInt 0).toInt = 0 := by decide
  have c1_ : (Int32.ofInt 1).toInt = 1 := by decide
  have hK : pj_kpt ([], [], []) G0 G0 := pj_kpt_r _ _
  intro mn
  induction mn with
  | zero =>
    intro v3 v4 rv3 rv4 hm
    exfalso
    omega
  | succ mn ih =>
    intro v3 v4 rv3 rv4 hm
    refine pj_X_of (fun r h => pj_R_to (G0, 8, [(0, .ref 171), (1, .int so), (2, .int op), (3, .int v3), (4, .int v4)], [.ref 171, .int v4], 0, 0) 8 3 (fun _ => rfl) h) ?_
    refine pj_X_of (fun r h => pj_T_gi hI rfl rfl h) ?_
    show pj_X _ _ G0 11 [(0, .ref 171), (1, .int so), (2, .int op), (3, .int v3), (4, .int v4)] [.int (pj_fi G0 171 4), .int v4] _
    obtain ⟨y1, hy1⟩ : ∃ z : Int32, z = pj_fi G0 171 4 := ⟨_, rfl⟩
    refine pj_X_eqi hy1.symm ?_
    have ey1 : (pj_fi G0 171 4).toInt = y1.toInt := by rw [hy1]
    have ry1 : (0 : Int) ≤ y1.toInt ∧ y1.toInt ≤ 10 := by rw [hy1]; exact hI.2.1 171 4 (0, 10) rfl
    cases b2 : pj_c1 .ge v4 y1 with
    | true =>
      have ub2 := pj_u_geT b2
      refine pj_X_of (fun r h => pj_R_icT 89 rfl rfl b2 h) ?_
      refine pj_X_of (fun r h => pj_R_to (G0, 90, [(0, .ref 171), (1, .int so), (2, .int op), (3, .int v3), (4, .int v4)], [.int v3], 0, 0) 90 2 (fun _ => rfl) h) ?_
      exact pj_X_rt rfl rfl ⟨_, rfl, rfl, pj_i32 _⟩
    | false =>
      have ub2 := pj_u_geF b2
      refine pj_X_of (fun r h => pj_R_icF rfl b2 h) ?_
      refine pj_X_of (fun r h => pj_R_to (G0, 17, [(0, .ref 171), (1, .int so), (2, .int op), (3, .int v3), (4, .int v4)], [.int v4, .int op], 0, 0) 17 3 (fun _ => rfl) h) ?_
      refine pj_X_ca (vs := [.int op, .int v4]) rfl (fun _ => rfl) ⟨Nat.le_of_ble_eq_true rfl, Nat.le_of_ble_eq_true rfl, rfl⟩ ⟨rfl, rfl⟩ (pj_Y_up (by decide) (ct_171b G0 hI op v4)) ?_
      rintro _ _ ⟨y3, rfl, rfl, ry3, ey3⟩
      show pj_X _ _ G0 20 [(0, .ref 171), (1, .int so), (2, .int op), (3, .int v3), (4, .int v4)] [.int y3] _
      cases b4 : pj_c1 .eq y3 0 with
      | true =>
        have ub4 := pj_u0_eqT b4
        refine pj_X_of (fun r h => pj_R_ifT 83 rfl rfl b4 h) ?_
        refine pj_X_of (fun r h => pj_R_to (G0, 86, [(4, .int (v4 + Int32.ofInt 1)), (0, .ref 171), (1, .int so), (2, .int op), (3, .int v3)], [], 0, 0) 86 2 (fun _ => rfl) h) ?_
        obtain ⟨z5, hz5⟩ : ∃ z : Int32, z = v4 + Int32.ofInt 1 := ⟨_, rfl⟩
        rw [← hz5]
        have fz5_0 : z5.toInt = v4.toInt + (Int32.ofInt 1).toInt := by rw [hz5]; exact pj_addI (by have := pj_i32 v4; have := pj_i32 (Int32.ofInt 1); omega) (by have := pj_i32 v4; have := pj_i32 (Int32.ofInt 1); omega)
        refine pj_X_of (fun r h => pj_R_to (G0, 5, [(4, .int z5), (0, .ref 171), (1, .int so), (2, .int op), (3, .int v3)], [], 0, 0) 5 2 (fun _ => rfl) h) ?_
        exact pj_X_sub [(0, .ref 171), (1, .int so), (2, .int op), (3, .int v3), (4, .int z5)] (show List.Nodup [0, 1, 2, 3, 4] by decide) ⟨rfl, rfl, rfl, rfl, rfl, trivial⟩ (ih v3 z5 (pj_i32 _) ⟨by omega, by omega⟩ (by omega))
      | false =>
        have ub4 := pj_u0_eqF b4
        refine pj_X_of (fun r h => pj_R_ifF rfl b4 h) ?_
        refine pj_X_of (fun r h => pj_R_to (G0, 26, [(0, .ref 171), (1, .int so), (2, .int op), (3, .int v3), (4, .int v4)], [.ref 171, .int so, .int v3], 0, 0) 26 4 (fun _ => rfl) h) ?_
        refine pj_X_of (fun r h => pj_T_gr hI rfl rfl rfl h) ?_
        refine pj_X_of (fun r h => pj_R_to (G0, 31, [(0, .ref 171), (1, .int so), (2, .int op), (3, .int v3), (4, .int v4)], [.int v4, .ref 173, .int so, .int v3], 0, 0) 31 2 (fun _ => rfl) h) ?_
        refine pj_X_of (fun r h => pj_T_il hI rfl rfl (by omega) (by omega) h) ?_
        show pj_X _ _ G0 32 [(0, .ref 171), (1, .int so), (2, .int op), (3, .int v3), (4, .int v4)] [.int (pj_ai G0 173 v4.toInt.toNat), .int so, .int v3] _
        obtain ⟨z6, hz6⟩ : ∃ z : Int32, z = pj_ai G0 173 v4.toInt.toNat := ⟨_, rfl⟩
        refine pj_X_eqi hz6.symm ?_
        have ez6 : (pj_ai G0 173 v4.toInt.toNat).toInt = z6.toInt := by rw [hz6]
        have fz6_0 : (0 : Int) ≤ z6.toInt ∧ z6.toInt ≤ 7 ∧ (z6.toInt ≤ 0 ∨ 0 ≤ z6.toInt) := by rw [hz6]; exact hI.2.2.1 173 (10, 0, 7, 0, 0) rfl _ (by show _ < 10; omega)
        refine pj_X_ca (vs := [.int so, .int z6]) rfl (fun _ => rfl) ⟨Nat.le_of_ble_eq_true rfl, Nat.le_of_ble_eq_true rfl, rfl⟩ ⟨rfl, rfl⟩ (pj_Y_up (by decide) (ct_171b G0 hI so z6)) ?_
        rintro _ _ ⟨y7, rfl, rfl, ry7, ey7⟩
        show pj_X _ _ G0 35 [(0, .ref 171), (1, .int so), (2, .int op), (3, .int v3), (4, .int v4)] [.int y7, .int v3] _
        cases b8 : pj_c1 .eq y7 0 with
        | true =>
          have ub8 := pj_u0_eqT b8
          refine pj_X_of (fun r h => pj_R_ifT 50 rfl rfl b8 h) ?_
          refine pj_X_of (fun r h => pj_R_to (G0, 52, [(0, .ref 171), (1, .int so), (2, .int op), (3, .int v3), (4, .int v4)], [.int (v3 ||| (Int32.ofInt 0))], 0, 0) 52 3 (fun _ => rfl) h) ?_
          obtain ⟨z9, hz9⟩ : ∃ z : Int32, z = v3 ||| (Int32.ofInt 0) := ⟨_, rfl⟩
          refine pj_X_eqi hz9.symm ?_
          refine pj_X_of (fun r h => pj_R_to (G0, 56, [(3, .int z9), (0, .ref 171), (1, .int so), (2, .int op), (4, .int v4)], [.ref 171, .int so, .int z9], 0, 0) 56 5 (fun _ => rfl) h) ?_
          refine pj_X_of (fun r h => pj_T_gr hI rfl rfl rfl h) ?_
          refine pj_X_of (fun r h => pj_R_to (G0, 61, [(3, .int z9), (0, .ref 171), (1, .int so), (2, .int op), (4, .int v4)], [.int v4, .ref 174, .int so, .int z9], 0, 0) 61 2 (fun _ => rfl) h) ?_
          refine pj_X_of (fun r h => pj_T_il hI rfl rfl (by omega) (by omega) h) ?_
          show pj_X _ _ G0 62 [(3, .int z9), (0, .ref 171), (1, .int so), (2, .int op), (4, .int v4)] [.int (pj_ai G0 174 v4.toInt.toNat), .int so, .int z9] _
          obtain ⟨z10, hz10⟩ : ∃ z : Int32, z = pj_ai G0 174 v4.toInt.toNat := ⟨_, rfl⟩
          refine pj_X_eqi hz10.symm ?_
          have ez10 : (pj_ai G0 174 v4.toInt.toNat).toInt = z10.toInt := by rw [hz10]
          have fz10_0 : (0 : Int) ≤ z10.toInt ∧ z10.toInt ≤ 7 ∧ (z10.toInt ≤ 0 ∨ 0 ≤ z10.toInt) := by rw [hz10]; exact hI.2.2.1 174 (10, 0, 7, 0, 0) rfl _ (by show _ < 10; omega)
          refine pj_X_ca (vs := [.int so, .int z10]) rfl (fun _ => rfl) ⟨Nat.le_of_ble_eq_true rfl, Nat.le_of_ble_eq_true rfl, rfl⟩ ⟨rfl, rfl⟩ (pj_Y_up (by decide) (ct_171b G0 hI so z10)) ?_
          rintro _ _ ⟨y11, rfl, rfl, ry11, ey11⟩
          show pj_X _ _ G0 65 [(3, .int z9), (0, .ref 171), (1, .int so), (2, .int op), (4, .int v4)] [.int y11, .int z9] _
          cases b12 : pj_c1 .eq y11 0 with
          | true =>
            have ub12 := pj_u0_eqT b12
            refine pj_X_of (fun r h => pj_R_ifT 80 rfl rfl b12 h) ?_
            refine pj_X_of (fun r h => pj_R_to (G0, 82, [(3, .int z9), (0, .ref 171), (1, .int so), (2, .int op), (4, .int v4)], [.int (z9 ||| (Int32.ofInt 0))], 0, 0) 82 3 (fun _ => rfl) h) ?_
            obtain ⟨z13, hz13⟩ : ∃ z : Int32, z = z9 ||| (Int32.ofInt 0) := ⟨_, rfl⟩
            refine pj_X_eqi hz13.symm ?_
            refine pj_X_of (fun r h => pj_R_to (G0, 86, [(4, .int (v4 + Int32.ofInt 1)), (3, .int z13), (0, .ref 171), (1, .int so), (2, .int op)], [], 0, 0) 86 3 (fun _ => rfl) h) ?_
            obtain ⟨z14, hz14⟩ : ∃ z : Int32, z = v4 + Int32.ofInt 1 := ⟨_, rfl⟩
            rw [← hz14]
            have fz14_0 : z14.toInt = v4.toInt + (Int32.ofInt 1).toInt := by rw [hz14]; exact pj_addI (by have := pj_i32 v4; have := pj_i32 (Int32.ofInt 1); omega) (by have := pj_i32 v4; have := pj_i32 (Int32.ofInt 1); omega)
            refine pj_X_of (fun r h => pj_R_to (G0, 5, [(4, .int z14), (3, .int z13), (0, .ref 171), (1, .int so), (2, .int op)], [], 0, 0) 5 2 (fun _ => rfl) h) ?_
            exact pj_X_sub [(0, .ref 171), (1, .int so), (2, .int op), (3, .int z13), (4, .int z14)] (show List.Nodup [0, 1, 2, 3, 4] by decide) ⟨rfl, rfl, rfl, rfl, rfl, trivial⟩ (ih z13 z14 (pj_i32 _) ⟨by omega, by omega⟩ (by omega))
          | false =>
            have ub12 := pj_u0_eqF b12
            refine pj_X_of (fun r h => pj_R_ifF rfl b12 h) ?_
            refine pj_X_of (fun r h => pj_R_to (G0, 70, [(3, .int z9), (0, .ref 171), (1, .int so), (2, .int op), (4, .int v4)], [.ref 171, .int (Int32.ofInt 1), .int z9], 0, 0) 70 3 (fun _ => rfl) h) ?_
            refine pj_X_of (fun r h => pj_T_gr hI rfl rfl rfl h) ?_
            refine pj_X_of (fun r h => pj_R_to (G0, 75, [(3, .int z9), (0, .ref 171), (1, .int so), (2, .int op), (4, .int v4)], [.int v4, .ref 173, .int (Int32.ofInt 1), .int z9], 0, 0) 75 2 (fun _ => rfl) h) ?_
            refine pj_X_of (fun r h => pj_T_il hI rfl rfl (by omega) (by omega) h) ?_
            show pj_X _ _ G0 76 [(3, .int z9), (0, .ref 171), (1, .int so), (2, .int op), (4, .int v4)] [.int (pj_ai G0 173 v4.toInt.toNat), .int (Int32.ofInt 1), .int z9] _
            refine pj_X_eqi hz6.symm ?_
            refine pj_X_of (fun r h => pj_R_to (G0, 77, [(3, .int z9), (0, .ref 171), (1, .int so), (2, .int op), (4, .int v4)], [.int ((Int32.ofInt 1) <<< (z6 &&& 31)), .int z9], 0, 0) 77 2 (fun _ => rfl) h) ?_
            obtain ⟨z15, hz15⟩ : ∃ z : Int32, z = (Int32.ofInt 1) <<< (z6 &&& 31) := ⟨_, rfl⟩
            refine pj_X_eqi hz15.symm ?_
            have fz15_0 : 1 ≤ z15.toInt ∧ z15.toInt ≤ 128 := by rw [hz15]; exact pj_shlI7 (by omega) (by omega)
            refine pj_X_of (fun r h => pj_R_to (G0, 82, [(3, .int z9), (0, .ref 171), (1, .int so), (2, .int op), (4, .int v4)], [.int (z9 ||| z15)], 0, 0) 82 3 (fun _ => rfl) h) ?_
            obtain ⟨z16, hz16⟩ : ∃ z : Int32, z = z9 ||| z15 := ⟨_, rfl⟩
            refine pj_X_eqi hz16.symm ?_
            refine pj_X_of (fun r h => pj_R_to (G0, 86, [(4, .int (v4 + Int32.ofInt 1)), (3, .int z16), (0, .ref 171), (1, .int so), (2, .int op)], [], 0, 0) 86 3 (fun _ => rfl) h) ?_
            obtain ⟨z17, hz17⟩ : ∃ z : Int32, z = v4 + Int32.ofInt 1 := ⟨_, rfl⟩
            rw [← hz17]
            have fz17_0 : z17.toInt = v4.toInt + (Int32.ofInt 1).toInt := by rw [hz17]; exact pj_addI (by have := pj_i32 v4; have := pj_i32 (Int32.ofInt 1); omega) (by have := pj_i32 v4; have := pj_i32 (Int32.ofInt 1); omega)
            refine pj_X_of (fun r h => pj_R_to (G0, 5, [(4, .int z17), (3, .int z16), (0, .ref 171), (1, .int so), (2, .int op)], [], 0, 0) 5 2 (fun _ => rfl) h) ?_
            exact pj_X_sub [(0, .ref 171), (1, .int so), (2, .int op), (3, .int z16), (4, .int z17)] (show List.Nodup [0, 1, 2, 3, 4] by decide) ⟨rfl, rfl, rfl, rfl, rfl, trivial⟩ (ih z16 z17 (pj_i32 _) ⟨by omega, by omega⟩ (by omega))
        | false =>
          have ub8 := pj_u0_eqF b8
          refine pj_X_of (fun r h => pj_R_ifF rfl b8 h) ?_
          refine pj_X_of (fun r h => pj_R_to (G0, 40, [(0, .ref 171), (1, .int so), (2, .int op), (3, .int v3), (4, .int v4)], [.ref 171, .int (Int32.ofInt 1), .int v3], 0, 0) 40 3 (fun _ => rfl) h) ?_
          refine pj_X_of (fun r h => pj_T_gr hI rfl rfl rfl h) ?_
          refine pj_X_of (fun r h => pj_R_to (G0, 45, [(0, .ref 171), (1, .int so), (2, .int op), (3, .int v3), (4, .int v4)], [.int v4, .ref 174, .int (Int32.ofInt 1), .int v3], 0, 0) 45 2 (fun _ => rfl) h) ?_
          refine pj_X_of (fun r h => pj_T_il hI rfl rfl (by omega) (by omega) h) ?_
          show pj_X _ _ G0 46 [(0, .ref 171), (1, .int so), (2, .int op), (3, .int v3), (4, .int v4)] [.int (pj_ai G0 174 v4.toInt.toNat), .int (Int32.ofInt 1), .int v3] _
          obtain ⟨z18, hz18⟩ : ∃ z : Int32, z = pj_ai G0 174 v4.toInt.toNat := ⟨_, rfl⟩
          refine pj_X_eqi hz18.symm ?_
          have ez18 : (pj_ai G0 174 v4.toInt.toNat).toInt = z18.toInt := by rw [hz18]
          have fz18_0 : (0 : Int) ≤ z18.toInt ∧ z18.toInt ≤ 7 ∧ (z18.toInt ≤ 0 ∨ 0 ≤ z18.toInt) := by rw [hz18]; exact hI.2.2.1 174 (10, 0, 7, 0, 0) rfl _ (by show _ < 10; omega)
          refine pj_X_of (fun r h => pj_R_to (G0, 47, [(0, .ref 171), (1, .int so), (2, .int op), (3, .int v3), (4, .int v4)], [.int ((Int32.ofInt 1) <<< (z18 &&& 31)), .int v3], 0, 0) 47 2 (fun _ => rfl) h) ?_
          obtain ⟨z19, hz19⟩ : ∃ z : Int32, z = (Int32.ofInt 1) <<< (z18 &&& 31) := ⟨_, rfl⟩
          refine pj_X_eqi hz19.symm ?_
          have fz19_0 : 1 ≤ z19.toInt ∧ z19.toInt ≤ 128 := by rw [hz19]; exact pj_shlI7 (by omega) (by omega)
          refine pj_X_of (fun r h => pj_R_to (G0, 52, [(0, .ref 171), (1, .int so), (2, .int op), (3, .int v3), (4, .int v4)], [.int (v3 ||| z19)], 0, 0) 52 3 (fun _ => rfl) h) ?_
          obtain ⟨z20, hz20⟩ : ∃ z : Int32, z = v3 ||| z19 := ⟨_, rfl⟩
          refine pj_X_eqi hz20.symm ?_
          refine pj_X_of (fun r h => pj_R_to (G0, 56, [(3, .int z20), (0, .ref 171), (1, .int so), (2, .int op), (4, .int v4)], [.ref 171, .int so, .int z20], 0, 0) 56 5 (fun _ => rfl) h) ?_
          refine pj_X_of (fun r h => pj_T_gr hI rfl rfl rfl h) ?_
          refine pj_X_of (fun r h => pj_R_to (G0, 61, [(3, .int z20), (0, .ref 171), (1, .int so), (2, .int op), (4, .int v4)], [.int v4, .ref 174, .int so, .int z20], 0, 0) 61 2 (fun _ => rfl) h) ?_
          refine pj_X_of (fun r h => pj_T_il hI rfl rfl (by omega) (by omega) h) ?_
          show pj_X _ _ G0 62 [(3, .int z20), (0, .ref 171), (1, .int so), (2, .int op), (4, .int v4)] [.int (pj_ai G0 174 v4.toInt.toNat), .int so, .int z20] _
          refine pj_X_eqi hz18.symm ?_
          refine pj_X_ca (vs := [.int so, .int z18]) rfl (fun _ => rfl) ⟨Nat.le_of_ble_eq_true rfl, Nat.le_of_ble_eq_true rfl, rfl⟩ ⟨rfl, rfl⟩ (pj_Y_up (by decide) (ct_171b G0 hI so z18)) ?_
          rintro _ _ ⟨y21, rfl, rfl, ry21, ey21⟩
          show pj_X _ _ G0 65 [(3, .int z20), (0, .ref 171), (1, .int so), (2, .int op), (4, .int v4)] [.int y21, .int z20] _
          cases b22 : pj_c1 .eq y21 0 with
          | true =>
            have ub22 := pj_u0_eqT b22
            refine pj_X_of (fun r h => pj_R_ifT 80 rfl rfl b22 h) ?_
            refine pj_X_of (fun r h => pj_R_to (G0, 82, [(3, .int z20), (0, .ref 171), (1, .int so), (2, .int op), (4, .int v4)], [.int (z20 ||| (Int32.ofInt 0))], 0, 0) 82 3 (fun _ => rfl) h) ?_
            obtain ⟨z23, hz23⟩ : ∃ z : Int32, z = z20 ||| (Int32.ofInt 0) := ⟨_, rfl⟩
            refine pj_X_eqi hz23.symm ?_
            refine pj_X_of (fun r h => pj_R_to (G0, 86, [(4, .int (v4 + Int32.ofInt 1)), (3, .int z23), (0, .ref 171), (1, .int so), (2, .int op)], [], 0, 0) 86 3 (fun _ => rfl) h) ?_
            obtain ⟨z24, hz24⟩ : ∃ z : Int32, z = v4 + Int32.ofInt 1 := ⟨_, rfl⟩
            rw [← hz24]
            have fz24_0 : z24.toInt = v4.toInt + (Int32.ofInt 1).toInt := by rw [hz24]; exact pj_addI (by have := pj_i32 v4; have := pj_i32 (Int32.ofInt 1); omega) (by have := pj_i32 v4; have := pj_i32 (Int32.ofInt 1); omega)
            refine pj_X_of (fun r h => pj_R_to (G0, 5, [(4, .int z24), (3, .int z23), (0, .ref 171), (1, .int so), (2, .int op)], [], 0, 0) 5 2 (fun _ => rfl) h) ?_
            exact pj_X_sub [(0, .ref 171), (1, .int so), (2, .int op), (3, .int z23), (4, .int z24)] (show List.Nodup [0, 1, 2, 3, 4] by decide) ⟨rfl, rfl, rfl, rfl, rfl, trivial⟩ (ih z23 z24 (pj_i32 _) ⟨by omega, by omega⟩ (by omega))
          | false =>
            have ub22 := pj_u0_eqF b22
            refine pj_X_of (fun r h => pj_R_ifF rfl b22 h) ?_
            refine pj_X_of (fun r h => pj_R_to (G0, 70, [(3, .int z20), (0, .ref 171), (1, .int so), (2, .int op), (4, .int v4)], [.ref 171, .int (Int32.ofInt 1), .int z20], 0, 0) 70 3 (fun _ => rfl) h) ?_
            refine pj_X_of (fun r h => pj_T_gr hI rfl rfl rfl h) ?_
            refine pj_X_of (fun r h => pj_R_to (G0, 75, [(3, .int z20), (0, .ref 171), (1, .int so), (2, .int op), (4, .int v4)], [.int v4, .ref 173, .int (Int32.ofInt 1), .int z20], 0, 0) 75 2 (fun _ => rfl) h) ?_
            refine pj_X_of (fun r h => pj_T_il hI rfl rfl (by omega) (by omega) h) ?_
            show pj_X _ _ G0 76 [(3, .int z20), (0, .ref 171), (1, .int so), (2, .int op), (4, .int v4)] [.int (pj_ai G0 173 v4.toInt.toNat), .int (Int32.ofInt 1), .int z20] _
            refine pj_X_eqi hz6.symm ?_
            refine pj_X_of (fun r h => pj_R_to (G0, 77, [(3, .int z20), (0, .ref 171), (1, .int so), (2, .int op), (4, .int v4)], [.int ((Int32.ofInt 1) <<< (z6 &&& 31)), .int z20], 0, 0) 77 2 (fun _ => rfl) h) ?_
            obtain ⟨z25, hz25⟩ : ∃ z : Int32, z = (Int32.ofInt 1) <<< (z6 &&& 31) := ⟨_, rfl⟩
            refine pj_X_eqi hz25.symm ?_
            have fz25_0 : 1 ≤ z25.toInt ∧ z25.toInt ≤ 128 := by rw [hz25]; exact pj_shlI7 (by omega) (by omega)
            refine pj_X_of (fun r h => pj_R_to (G0, 82, [(3, .int z20), (0, .ref 171), (1, .int so), (2, .int op), (4, .int v4)], [.int (z20 ||| z25)], 0, 0) 82 3 (fun _ => rfl) h) ?_
            obtain ⟨z26, hz26⟩ : ∃ z : Int32, z = z20 ||| z25 := ⟨_, rfl⟩
            refine pj_X_eqi hz26.symm ?_
            refine pj_X_of (fun r h => pj_R_to (G0, 86, [(4, .int (v4 + Int32.ofInt 1)), (3, .int z26), (0, .ref 171), (1, .int so), (2, .int op)], [], 0, 0) 86 3 (fun _ => rfl) h) ?_
            obtain ⟨z27, hz27⟩ : ∃ z : Int32, z = v4 + Int32.ofInt 1 := ⟨_, rfl⟩
            rw [← hz27]
            have fz27_0 : z27.toInt = v4.toInt + (Int32.ofInt 1).toInt := by rw [hz27]; exact pj_addI (by have := pj_i32 v4; have := pj_i32 (Int32.ofInt 1); omega) (by have := pj_i32 v4; have := pj_i32 (Int32.ofInt 1); omega)
            refine pj_X_of (fun r h => pj_R_to (G0, 5, [(4, .int z27), (3, .int z26), (0, .ref 171), (1, .int so), (2, .int op)], [], 0, 0) 5 2 (fun _ => rfl) h) ?_
            exact pj_X_sub [(0, .ref 171), (1, .int so), (2, .int op), (3, .int z26), (4, .int z27)] (show List.Nodup [0, 1, 2, 3, 4] by decide) ⟨rfl, rfl, rfl, rfl, rfl, trivial⟩ (ih z26 z27 (pj_i32 _) ⟨by omega, by omega⟩ (by omega))
theorem ct_207 (G0 : pj_G) (hI : pj_Inv G0) (so : Int32) (op : Int32) : pj_Y 2 207 [.ref 171, .int so, .int op] G0 (fun v G' => ∃ y : Int32, v = some (.int y) ∧ G0 = G' ∧ ((-2147483648 : Int) ≤ y.toInt ∧ y.toInt ≤ 2147483647)) := by
  have c0_ : (Int32.ofInt 0).toInt = 0 := by decide
  have c1_ : (Int32.ofInt 1).toInt = 1 := by decide
  refine pj_Y_X (M := pj_m207) rfl rfl (Nat.le_of_ble_eq_true rfl) ?_
  have hK : pj_kpt ([], [], []) G0 G0 := pj_kpt_r _ _
  show pj_X _ _ G0 0 [(0, .ref 171), (1, .int so), (2, .int op)] [] _
  refine pj_X_of (fun r h => pj_R_to (G0, 5, [(4, .int (Int32.ofInt 0)), (3, .int so), (0, .ref 171), (1, .int so), (2, .int op)], [], 0, 0) 5 5 (fun _ => rfl) h) ?_
  exact pj_X_sub [(0, .ref 171), (1, .int so), (2, .int op), (3, .int so), (4, .int (Int32.ofInt 0))] (show List.Nodup [0, 1, 2, 3, 4] by decide) ⟨rfl, rfl, rfl, rfl, rfl, trivial⟩ ((lp_ct_207 G0 hI so op  11) so (Int32.ofInt 0) (pj_i32 _) ⟨by omega, by omega⟩ (by omega))
theorem lp_ct_208 (G0 : pj_G) (hI : pj_Inv G0) (so : Int32) (op : Int32) : ∀ mn : Nat, (∀ (v3 : Int32) (v4 : Int32), ((-2147483648 : Int) ≤ v3.toInt ∧ v3.toInt ≤ 2147483647) → ((0 : Int) ≤ v4.toInt ∧ v4.toInt ≤ 8) → 8 - v4.toInt < (mn : Int) → pj_X 2 pj_m208 G0 5 [(0, .ref 171), (1, .int so), (2, .int op), (3, .int v3), (4, .int v4)] [] (fun v G' => ∃ y : Int32, v = some (.int y) ∧ G0 = G' ∧ ((-2147483648 : Int) ≤ y.toInt ∧ y.toInt ≤ 2147483647))) := by
  have c0_ : (Int32.ofInt 0).toInt = 0 := by decide
  have c1_ : (Int32.ofInt 1).toInt = 1 := by decide
  have hK : pj_kpt ([], [], []) G0 G0 := pj_kpt_r _ _
  intro mn
  induction mn with
  | zero =>
    intro v3 v4 rv3 rv4 hm
    exfalso
    omega
  | succ mn ih =>
    intro v3 v4 rv3 rv4 hm
    refine pj_X_of (fun r h => pj_R_to (G0, 8, [(0, .ref 171), (1, .int so), (2, .int op), (3, .int v3), (4, .int v4)], [.ref 171, .int v4], 0, 0) 8 3 (fun _ => rfl) h) ?_
    refine pj_X_of (fun r h => pj_T_gi hI rfl rfl h) ?_
    show pj_X _ _ G0 11 [(0, .ref 171), (1, .int so), (2, .int op), (3, .int v3), (4, .int v4)] [.int (pj_fi G0 171 3), .int v4] _
    obtain ⟨y1, hy1⟩ : ∃ z : Int32, z = pj_fi G0 171 3 := ⟨_, rfl⟩
    refine pj_X_eqi hy1.symm ?_
    have ey1 : (pj_fi G0 171 3).toInt = y1.toInt := by rw [hy1]
    have ry1 : (0 : Int) ≤ y1.toInt ∧ y1.toInt ≤ 8 := by rw [hy1]; exact hI.2.1 171 3 (0, 8) rfl
    cases b2 : pj_c1 .ge v4 y1 with
    | true =>
      have ub2 := pj_u_geT b2
      refine pj_X_of (fun r h => pj_R_icT 27 rfl rfl b2 h) ?_
      refine pj_X_of (fun r h => pj_R_to (G0, 28, [(0, .ref 171), (1, .int so), (2, .int op), (3, .int v3), (4, .int v4)], [.int v3], 0, 0) 28 2 (fun _ => rfl) h) ?_
      exact pj_X_rt rfl rfl ⟨_, rfl, rfl, pj_i32 _⟩
    | false =>
      have ub2 := pj_u_geF b2
      refine pj_X_of (fun r h => pj_R_icF rfl b2 h) ?_
      refine pj_X_of (fun r h => pj_R_to (G0, 17, [(0, .ref 171), (1, .int so), (2, .int op), (3, .int v3), (4, .int v4)], [.int op, .int v3, .ref 171], 0, 0) 17 4 (fun _ => rfl) h) ?_
      refine pj_X_ca (vs := [.ref 171, .int v3, .int op]) rfl (fun _ => rfl) ⟨Nat.le_of_ble_eq_true rfl, Nat.le_of_ble_eq_true rfl, pj_T_rcv hI rfl⟩ ⟨rfl, rfl⟩ (pj_Y_up (by decide) (ct_207 G0 hI v3 op)) ?_
      rintro _ _ ⟨y3, rfl, rfl, ry3⟩
      show pj_X _ _ G0 20 [(0, .ref 171), (1, .int so), (2, .int op), (3, .int v3), (4, .int v4)] [.int y3] _
      refine pj_X_of (fun r h => pj_R_to (G0, 24, [(4, .int (v4 + Int32.ofInt 1)), (3, .int y3), (0, .ref 171), (1, .int so), (2, .int op)], [], 0, 0) 24 3 (fun _ => rfl) h) ?_
      obtain ⟨z4, hz4⟩ : ∃ z : Int32, z = v4 + Int32.ofInt 1 := ⟨_, rfl⟩
      rw [← hz4]
      have fz4_0 : z4.toInt = v4.toInt + (Int32.ofInt 1).toInt := by rw [hz4]; exact pj_addI (by have := pj_i32 v4; have := pj_i32 (Int32.ofInt 1); omega) (by have := pj_i32 v4; have := pj_i32 (Int32.ofInt 1); omega)
      refine pj_X_of (fun r h => pj_R_to (G0, 5, [(4, .int z4), (3, .int y3), (0, .ref 171), (1, .int so), (2, .int op)], [], 0, 0) 5 2 (fun _ => rfl) h) ?_
      exact pj_X_sub [(0, .ref 171), (1, .int so), (2, .int op), (3, .int y3), (4, .int z4)] (show List.Nodup [0, 1, 2, 3, 4] by decide) ⟨rfl, rfl, rfl, rfl, rfl, trivial⟩ (ih y3 z4 (pj_i32 _) ⟨by omega, by omega⟩ (by omega))
theorem ct_208 (G0 : pj_G) (hI : pj_Inv G0) (so : Int32) (op : Int32) : pj_Y 3 208 [.ref 171, .int so, .int op] G0 (fun v G' => ∃ y : Int32, v = some (.int y) ∧ G0 = G' ∧ ((-2147483648 : Int) ≤ y.toInt ∧ y.toInt ≤ 2147483647)) := by
  have c0_ : (Int32.ofInt 0).toInt = 0 := by decide
  have c1_ : (Int32.ofInt 1).toInt = 1 := by decide
  refine pj_Y_X (M := pj_m208) rfl rfl (Nat.le_of_ble_eq_true rfl) ?_
  have hK : pj_kpt ([], [], []) G0 G0 := pj_kpt_r _ _
  show pj_X _ _ G0 0 [(0, .ref 171), (1, .int so), (2, .int op)] [] _
  refine pj_X_of (fun r h => pj_R_to (G0, 5, [(4, .int (Int32.ofInt 0)), (3, .int so), (0, .ref 171), (1, .int so), (2, .int op)], [], 0, 0) 5 5 (fun _ => rfl) h) ?_
  exact pj_X_sub [(0, .ref 171), (1, .int so), (2, .int op), (3, .int so), (4, .int (Int32.ofInt 0))] (show List.Nodup [0, 1, 2, 3, 4] by decide) ⟨rfl, rfl, rfl, rfl, rfl, trivial⟩ ((lp_ct_208 G0 hI so op  9) so (Int32.ofInt 0) (pj_i32 _) ⟨by omega, by omega⟩ (by omega))
theorem lp_ct_209 (G0 : pj_G) (hI : pj_Inv G0) (op : Int32) : ∀ mn : Nat, (∀ (v2 : Int32) (v3 : Int32), ((-2147483648 : Int) ≤ v2.toInt ∧ v2.toInt ≤ 2147483647) → ((0 : Int) ≤ v3.toInt ∧ v3.toInt ≤ 8) → 8 - v3.toInt < (mn : Int) → pj_X 3 pj_m209 G0 4 [(0, .ref 171), (1, .int op), (2, .int v2), (3, .int v3)] [] (fun v G' => ∃ y : Int32, v = some (.int y) ∧ G0 = G' ∧ ((-2147483648 : Int) ≤ y.toInt ∧ y.toInt ≤ 2147483647))) := by
  have c0_ : (Int32.ofInt 0).toInt = 0 := by decide
  have c1_ : (Int32.ofInt 1).toInt = 1 := by decide
  have c2_ : (Int32.ofInt 2).toInt = 2 := by decide
  have hK : pj_kpt ([], [], []) G0 G0 := pj_kpt_r _ _
  intro mn
  induction mn with
  | zero =>
    intro v2 v3 rv2 rv3 hm
    exfalso
    omega
  | succ mn ih =>
    intro v2 v3 rv2 rv3 hm
    refine pj_X_of (fun r h => pj_R_to (G0, 6, [(0, .ref 171), (1, .int op), (2, .int v2), (3, .int v3)], [.ref 171, .int v3], 0, 0) 6 3 (fun _ => rfl) h) ?_
    refine pj_X_of (fun r h => pj_T_gi hI rfl rfl h) ?_
    show pj_X _ _ G0 9 [(0, .ref 171), (1, .int op), (2, .int v2), (3, .int v3)] [.int (pj_fi G0 171 3), .int v3] _
    obtain ⟨y1, hy1⟩ : ∃ z : Int32, z = pj_fi G0 171 3 := ⟨_, rfl⟩
    refine pj_X_eqi hy1.symm ?_
    have ey1 : (pj_fi G0 171 3).toInt = y1.toInt := by rw [hy1]
    have ry1 : (0 : Int) ≤ y1.toInt ∧ y1.toInt ≤ 8 := by rw [hy1]; exact hI.2.1 171 3 (0, 8) rfl
    cases b2 : pj_c1 .ge v3 y1 with
    | true =>
      have ub2 := pj_u_geT b2
      refine pj_X_of (fun r h => pj_R_icT 34 rfl rfl b2 h) ?_
      refine pj_X_of (fun r h => pj_R_to (G0, 36, [(0, .ref 171), (1, .int op), (2, .int v2), (3, .int v3)], [.int (Int32.ofInt 2), .int v2], 0, 0) 36 3 (fun _ => rfl) h) ?_
      refine pj_X_of (fun r h => pj_R_dv rfl (pj_nz (by omega)) h) ?_
      show pj_X _ _ G0 37 [(0, .ref 171), (1, .int op), (2, .int v2), (3, .int v3)] [.int (v2 / (Int32.ofInt 2))] _
      obtain ⟨z3, hz3⟩ : ∃ z : Int32, z = v2 / (Int32.ofInt 2) := ⟨_, rfl⟩
      refine pj_X_eqi hz3.symm ?_
      exact pj_X_rt rfl rfl ⟨_, rfl, rfl, pj_i32 _⟩
    | false =>
      have ub2 := pj_u_geF b2
      refine pj_X_of (fun r h => pj_R_icF rfl b2 h) ?_
      refine pj_X_of (fun r h => pj_R_to (G0, 17, [(0, .ref 171), (1, .int op), (2, .int v2), (3, .int v3)], [.int ((Int32.ofInt 1) <<< (v3 &&& 31)), .ref 171, .int v2], 0, 0) 17 6 (fun _ => rfl) h) ?_
      obtain ⟨z4, hz4⟩ : ∃ z : Int32, z = (Int32.ofInt 1) <<< (v3 &&& 31) := ⟨_, rfl⟩
      refine pj_X_eqi hz4.symm ?_
      have fz4_0 : 1 ≤ z4.toInt ∧ z4.toInt ≤ 128 := by rw [hz4]; exact pj_shlI7 (by omega) (by omega)
      refine pj_X_of (fun r h => pj_R_to (G0, 18, [(0, .ref 171), (1, .int op), (2, .int v2), (3, .int v3)], [.int op, .int z4, .ref 171, .int v2], 0, 0) 18 2 (fun _ => rfl) h) ?_
      refine pj_X_ca (vs := [.ref 171, .int z4, .int op]) rfl (fun _ => rfl) ⟨Nat.le_of_ble_eq_true rfl, Nat.le_of_ble_eq_true rfl, pj_T_rcv hI rfl⟩ ⟨rfl, rfl⟩ (pj_Y_up (by decide) (ct_208 G0 hI z4 op)) ?_
      rintro _ _ ⟨y5, rfl, rfl, ry5⟩
      show pj_X _ _ G0 21 [(0, .ref 171), (1, .int op), (2, .int v2), (3, .int v3)] [.int y5, .int v2] _
      refine pj_X_ca (vs := [.int y5]) rfl (fun _ => rfl) ⟨Nat.le_of_ble_eq_true rfl, Nat.le_of_ble_eq_true rfl, rfl⟩ ⟨rfl, rfl⟩ (pj_Y_up (by decide) (ct_287 G0 hI y5)) ?_
      rintro _ _ ⟨y6, rfl, rfl, ry6⟩
      show pj_X _ _ G0 24 [(0, .ref 171), (1, .int op), (2, .int v2), (3, .int v3)] [.int y6, .int v2] _
      refine pj_X_of (fun r h => pj_R_to (G0, 26, [(0, .ref 171), (1, .int op), (2, .int v2), (3, .int v3)], [.int (y6 - (Int32.ofInt 1)), .int v2], 0, 0) 26 3 (fun _ => rfl) h) ?_
      obtain ⟨z7, hz7⟩ : ∃ z : Int32, z = y6 - (Int32.ofInt 1) := ⟨_, rfl⟩
      refine pj_X_eqi hz7.symm ?_
      refine pj_X_of (fun r h => pj_R_to (G0, 27, [(0, .ref 171), (1, .int op), (2, .int v2), (3, .int v3)], [.int (v2 + z7)], 0, 0) 27 2 (fun _ => rfl) h) ?_
      obtain ⟨z8, hz8⟩ : ∃ z : Int32, z = v2 + z7 := ⟨_, rfl⟩
      refine pj_X_eqi hz8.symm ?_
      refine pj_X_of (fun r h => pj_R_to (G0, 31, [(3, .int (v3 + Int32.ofInt 1)), (2, .int z8), (0, .ref 171), (1, .int op)], [], 0, 0) 31 3 (fun _ => rfl) h) ?_
      obtain ⟨z9, hz9⟩ : ∃ z : Int32, z = v3 + Int32.ofInt 1 := ⟨_, rfl⟩
      rw [← hz9]
      have fz9_0 : z9.toInt = v3.toInt + (Int32.ofInt 1).toInt := by rw [hz9]; exact pj_addI (by have := pj_i32 v3; have := pj_i32 (Int32.ofInt 1); omega) (by have := pj_i32 v3; have := pj_i32 (Int32.ofInt 1); omega)
      refine pj_X_of (fun r h => pj_R_to (G0, 4, [(3, .int z9), (2, .int z8), (0, .ref 171), (1, .int op)], [], 0, 0) 4 2 (fun _ => rfl) h) ?_
      exact pj_X_sub [(0, .ref 171), (1, .int op), (2, .int z8), (3, .int z9)] (show List.Nodup [0, 1, 2, 3] by decide) ⟨rfl, rfl, rfl, rfl, trivial⟩ (ih z8 z9 (pj_i32 _) ⟨by omega, by omega⟩ (by omega))
theorem ct_209 (G0 : pj_G) (hI : pj_Inv G0) (op : Int32) : pj_Y 4 209 [.ref 171, .int op] G0 (fun v G' => ∃ y : Int32, v = some (.int y) ∧ G0 = G' ∧ ((-2147483648 : Int) ≤ y.toInt ∧ y.toInt ≤ 2147483647)) := by
  have c0_ : (Int32.ofInt 0).toInt = 0 := by decide
  have c1_ : (Int32.ofInt 1).toInt = 1 := by decide
  have c2_ : (Int32.ofInt 2).toInt = 2 := by decide
  refine pj_Y_X (M := pj_m209) rfl rfl (Nat.le_of_ble_eq_true rfl) ?_
  have hK : pj_kpt ([], [], []) G0 G0 := pj_kpt_r _ _
  show pj_X _ _ G0 0 [(0, .ref 171), (1, .int op)] [] _
  refine pj_X_of (fun r h => pj_R_to (G0, 4, [(3, .int (Int32.ofInt 0)), (2, .int (Int32.ofInt 0)), (0, .ref 171), (1, .int op)], [], 0, 0) 4 5 (fun _ => rfl) h) ?_
  exact pj_X_sub [(0, .ref 171), (1, .int op), (2, .int (Int32.ofInt 0)), (3, .int (Int32.ofInt 0))] (show List.Nodup [0, 1, 2, 3] by decide) ⟨rfl, rfl, rfl, rfl, trivial⟩ ((lp_ct_209 G0 hI op  9) (Int32.ofInt 0) (Int32.ofInt 0) (pj_i32 _) ⟨by omega, by omega⟩ (by omega))
def kc_210 : pj_KT := ([(171, 0)], [171], [])
theorem ct_210 (G0 : pj_G) (hI : pj_Inv G0) (c : Int32) (w : Int32) : pj_Y 3 210 [.ref 171, .int c, .int w] G0 (fun v G' => ∃ y : Int32, v = some (.int y) ∧ pj_Inv G' ∧ pj_kpt kc_210 G0 G' ∧ ((-2147483648 : Int) ≤ y.toInt ∧ y.toInt ≤ 2147483647)) := by
  have c0_ : (Int32.ofInt 0).toInt = 0 := by decide
  have c1_ : (Int32.ofInt 1).toInt = 1 := by decide
  have c2_ : (Int32.ofInt 4).toInt = 4 := by decide
  refine pj_Y_X (M := pj_m210) rfl rfl (Nat.le_of_ble_eq_true rfl) ?_
  have hK : pj_kpt kc_210 G0 G0 := pj_kpt_r _ _
  show pj_X _ _ G0 0 [(0, .ref 171), (1, .int c), (2, .int w)] [] _
  refine pj_X_of (fun r h => pj_R_to (G0, 2, [(0, .ref 171), (1, .int c), (2, .int w)], [.int (Int32.ofInt 0), .ref 171], 0, 0) 2 3 (fun _ => rfl) h) ?_
  refine pj_X_of (fun r h => pj_T_pf hI rfl rfl rfl h) ?_
  show pj_X _ _ (pj_wv G0 171 0 (.int (Int32.ofInt 0))) 5 [(0, .ref 171), (1, .int c), (2, .int w)] [] _
  obtain ⟨G1, hG1⟩ : ∃ H, H = pj_wv G0 171 0 (.int (Int32.ofInt 0)) := ⟨_, rfl⟩
  have iG1 : pj_Inv G1 := by rw [hG1]; exact pj_Inv_wi hI (ci := 12) rfl (fun q hq => by cases hq)
  have kG1 : pj_kpt kc_210 G0 G1 := by rw [hG1]; exact pj_kpt_v hK rfl
  rw [← hG1]
  refine pj_X_of (fun r h => pj_R_to (G1, 7, [(0, .ref 171), (1, .int c), (2, .int w)], [.int c, .ref 171], 0, 0) 7 3 (fun _ => rfl) h) ?_
  refine pj_X_ca (vs := [.ref 171, .int c]) rfl (fun _ => rfl) ⟨Nat.le_of_ble_eq_true rfl, Nat.le_of_ble_eq_true rfl, pj_T_rcv iG1 rfl⟩ ⟨rfl, rfl⟩ (pj_Y_up (by decide) (ct_176 G1 iG1 c)) ?_
  rintro _ _ ⟨y2, rfl, rfl, ry2, ey2⟩
  show pj_X _ _ G1 10 [(0, .ref 171), (1, .int c), (2, .int w)] [.int y2] _
  cases b3 : pj_c1 .eq y2 0 with
  | true =>
    have ub3 := pj_u0_eqT b3
    refine pj_X_of (fun r h => pj_R_ifT 25 rfl rfl b3 h) ?_
    refine pj_X_of (fun r h => pj_R_to (G1, 26, [(0, .ref 171), (1, .int c), (2, .int w)], [.ref 171], 0, 0) 26 2 (fun _ => rfl) h) ?_
    refine pj_X_ca (vs := [.ref 171]) rfl (fun _ => rfl) ⟨Nat.le_of_ble_eq_true rfl, Nat.le_of_ble_eq_true rfl, pj_T_rcv iG1 rfl⟩ ⟨rfl, rfl⟩ (pj_Y_up (by decide) (ct_169 G1 iG1)) ?_
    rintro _ G5 ⟨y4, rfl, iG5, jG5, ry4⟩
    have kG5 : pj_kpt kc_210 G0 G5 := pj_kpt_t kG1 (pj_kpt_s jG5 rfl)
    show pj_X _ _ G5 29 [(0, .ref 171), (1, .int c), (2, .int w)] [.int y4] _
    exact pj_X_rt rfl rfl ⟨_, rfl, iG5, kG5, pj_i32 _⟩
  | false =>
    have ub3 := pj_u0_eqF b3
    refine pj_X_of (fun r h => pj_R_ifF rfl b3 h) ?_
    refine pj_X_of (fun r h => pj_R_to (G1, 19, [(0, .ref 171), (1, .int c), (2, .int w)], [.long (Int64.ofInt 5), .long (Int64.ofNat 0), .long w.toInt64], 0, 0) 19 5 (fun _ => rfl) h) ?_
    have lc6 : (w.toInt64).toInt = w.toInt := Int32.toInt_toInt64 _
    have lc7 : (Int64.ofNat 0).toInt = 0 := by decide
    have lc8 : (Int64.ofInt 5).toInt = 5 := by decide
    refine pj_X_ca (vs := [.long w.toInt64, .long (Int64.ofNat 0), .long (Int64.ofInt 5)]) rfl (fun _ => rfl) ⟨Nat.le_of_ble_eq_true rfl, Nat.le_of_ble_eq_true rfl, rfl⟩ ⟨rfl, rfl⟩ (pj_Y_up (by decide) (ct_170 G1 iG1 w.toInt64 (Int64.ofNat 0) (Int64.ofInt 5))) ?_
    rintro _ _ ⟨y9, rfl, rfl, ry9, ey9⟩
    show pj_X _ _ G1 22 [(0, .ref 171), (1, .int c), (2, .int w)] [.int y9] _
    cases b10 : pj_c1 .ne y9 0 with
    | true =>
      have ub10 := pj_u0_neT b10
      refine pj_X_of (fun r h => pj_R_ifT 30 rfl rfl b10 h) ?_
      refine pj_X_of (fun r h => pj_R_to (G1, 31, [(0, .ref 171), (1, .int c), (2, .int w)], [.int w], 0, 0) 31 2 (fun _ => rfl) h) ?_
      by_cases t11 : w.toInt = 0
      · refine pj_X_of (fun r h => pj_R_tw 60 rfl (n := 0) t11 rfl h) ?_
        refine pj_X_of (fun r h => pj_R_to (G1, 61, [(0, .ref 171), (1, .int c), (2, .int w)], [.ref 171], 0, 0) 61 2 (fun _ => rfl) h) ?_
        refine pj_X_of (fun r h => pj_T_gr iG1 rfl rfl rfl h) ?_
        refine pj_X_of (fun r h => pj_R_to (G1, 65, [(0, .ref 171), (1, .int c), (2, .int w)], [.int c, .ref 173], 0, 0) 65 2 (fun _ => rfl) h) ?_
        refine pj_X_of (fun r h => pj_T_il iG1 rfl rfl (by omega) (by omega) h) ?_
        show pj_X _ _ G1 66 [(0, .ref 171), (1, .int c), (2, .int w)] [.int (pj_ai G1 173 c.toInt.toNat)] _
        obtain ⟨z12, hz12⟩ : ∃ z : Int32, z = pj_ai G1 173 c.toInt.toNat := ⟨_, rfl⟩
        refine pj_X_eqi hz12.symm ?_
        have ez12 : (pj_ai G1 173 c.toInt.toNat).toInt = z12.toInt := by rw [hz12]
        have fz12_0 : (0 : Int) ≤ z12.toInt ∧ z12.toInt ≤ 7 ∧ (z12.toInt ≤ 0 ∨ 0 ≤ z12.toInt) := by rw [hz12]; exact iG1.2.2.1 173 (10, 0, 7, 0, 0) rfl _ (by show _ < 10; omega)
        exact pj_X_rt rfl rfl ⟨_, rfl, iG1, kG1, pj_i32 _⟩
      by_cases t13 : w.toInt = 1
      · refine pj_X_of (fun r h => pj_R_tw 67 rfl (n := 1) t13 rfl h) ?_
        refine pj_X_of (fun r h => pj_R_to (G1, 68, [(0, .ref 171), (1, .int c), (2, .int w)], [.ref 171], 0, 0) 68 2 (fun _ => rfl) h) ?_
        refine pj_X_of (fun r h => pj_T_gr iG1 rfl rfl rfl h) ?_
        refine pj_X_of (fun r h => pj_R_to (G1, 72, [(0, .ref 171), (1, .int c), (2, .int w)], [.int c, .ref 174], 0, 0) 72 2 (fun _ => rfl) h) ?_
        refine pj_X_of (fun r h => pj_T_il iG1 rfl rfl (by omega) (by omega) h) ?_
        show pj_X _ _ G1 73 [(0, .ref 171), (1, .int c), (2, .int w)] [.int (pj_ai G1 174 c.toInt.toNat)] _
        obtain ⟨z14, hz14⟩ : ∃ z : Int32, z = pj_ai G1 174 c.toInt.toNat := ⟨_, rfl⟩
        refine pj_X_eqi hz14.symm ?_
        have ez14 : (pj_ai G1 174 c.toInt.toNat).toInt = z14.toInt := by rw [hz14]
        have fz14_0 : (0 : Int) ≤ z14.toInt ∧ z14.toInt ≤ 7 ∧ (z14.toInt ≤ 0 ∨ 0 ≤ z14.toInt) := by rw [hz14]; exact iG1.2.2.1 174 (10, 0, 7, 0, 0) rfl _ (by show _ < 10; omega)
        exact pj_X_rt rfl rfl ⟨_, rfl, iG1, kG1, pj_i32 _⟩
      by_cases t15 : w.toInt = 2
      · refine pj_X_of (fun r h => pj_R_tw 74 rfl (n := 2) t15 rfl h) ?_
        refine pj_X_of (fun r h => pj_R_to (G1, 75, [(0, .ref 171), (1, .int c), (2, .int w)], [.ref 171], 0, 0) 75 2 (fun _ => rfl) h) ?_
        refine pj_X_of (fun r h => pj_T_gr iG1 rfl rfl rfl h) ?_
        refine pj_X_of (fun r h => pj_R_to (G1, 79, [(0, .ref 171), (1, .int c), (2, .int w)], [.int c, .ref 175], 0, 0) 79 2 (fun _ => rfl) h) ?_
        refine pj_X_of (fun r h => pj_T_il iG1 rfl rfl (by omega) (by omega) h) ?_
        show pj_X _ _ G1 80 [(0, .ref 171), (1, .int c), (2, .int w)] [.int (pj_ai G1 175 c.toInt.toNat)] _
        obtain ⟨z16, hz16⟩ : ∃ z : Int32, z = pj_ai G1 175 c.toInt.toNat := ⟨_, rfl⟩
        refine pj_X_eqi hz16.symm ?_
        have ez16 : (pj_ai G1 175 c.toInt.toNat).toInt = z16.toInt := by rw [hz16]
        have fz16_0 : (0 : Int) ≤ z16.toInt ∧ z16.toInt ≤ 99 ∧ (z16.toInt ≤ 0 ∨ 0 ≤ z16.toInt) := by rw [hz16]; exact iG1.2.2.1 175 (10, 0, 99, 0, 0) rfl _ (by show _ < 10; omega)
        exact pj_X_rt rfl rfl ⟨_, rfl, iG1, kG1, pj_i32 _⟩
      by_cases t17 : w.toInt = 3
      · refine pj_X_of (fun r h => pj_R_tw 81 rfl (n := 3) t17 rfl h) ?_
        refine pj_X_of (fun r h => pj_R_to (G1, 82, [(0, .ref 171), (1, .int c), (2, .int w)], [.ref 171], 0, 0) 82 2 (fun _ => rfl) h) ?_
        refine pj_X_of (fun r h => pj_T_gr iG1 rfl rfl rfl h) ?_
        refine pj_X_of (fun r h => pj_R_to (G1, 86, [(0, .ref 171), (1, .int c), (2, .int w)], [.int c, .ref 176], 0, 0) 86 2 (fun _ => rfl) h) ?_
        refine pj_X_of (fun r h => pj_T_il iG1 rfl rfl (by omega) (by omega) h) ?_
        show pj_X _ _ G1 87 [(0, .ref 171), (1, .int c), (2, .int w)] [.int (pj_ai G1 176 c.toInt.toNat)] _
        obtain ⟨z18, hz18⟩ : ∃ z : Int32, z = pj_ai G1 176 c.toInt.toNat := ⟨_, rfl⟩
        refine pj_X_eqi hz18.symm ?_
        have ez18 : (pj_ai G1 176 c.toInt.toNat).toInt = z18.toInt := by rw [hz18]
        exact pj_X_rt rfl rfl ⟨_, rfl, iG1, kG1, pj_i32 _⟩
      refine pj_X_of (fun r h => pj_R_td 88 rfl (by omega) rfl h) ?_
      refine pj_X_of (fun r h => pj_R_to (G1, 92, [(0, .ref 171), (1, .int c), (2, .int w)], [.int (Int32.ofInt 4), .int w, .int c, .ref 171], 0, 0) 92 5 (fun _ => rfl) h) ?_
      cases b19 : pj_c1 .ne w (Int32.ofInt 4) with
      | true =>
        have ub19 := pj_u_neT b19
        refine pj_X_of (fun r h => pj_R_icT 99 rfl rfl b19 h) ?_
        refine pj_X_of (fun r h => pj_R_to (G1, 100, [(0, .ref 171), (1, .int c), (2, .int w)], [.int (Int32.ofInt 0), .int c, .ref 171], 0, 0) 100 2 (fun _ => rfl) h) ?_
        refine pj_X_ca (vs := [.ref 171, .int c, .int (Int32.ofInt 0)]) rfl (fun _ => rfl) ⟨Nat.le_of_ble_eq_true rfl, Nat.le_of_ble_eq_true rfl, pj_T_rcv iG1 rfl⟩ ⟨rfl, rfl⟩ (pj_Y_up (by decide) (ct_205 G1 iG1 c (Int32.ofInt 0) ⟨by omega, by omega⟩)) ?_
        rintro _ _ ⟨y20, rfl, rfl, ry20, ey20⟩
        show pj_X _ _ G1 103 [(0, .ref 171), (1, .int c), (2, .int w)] [.int y20] _
        exact pj_X_rt rfl rfl ⟨_, rfl, iG1, kG1, pj_i32 _⟩
      | false =>
        have ub19 := pj_u_neF b19
        refine pj_X_of (fun r h => pj_R_icF rfl b19 h) ?_
        refine pj_X_of (fun r h => pj_R_to (G1, 100, [(0, .ref 171), (1, .int c), (2, .int w)], [.int (Int32.ofInt 1), .int c, .ref 171], 0, 0) 100 3 (fun _ => rfl) h) ?_
        refine pj_X_ca (vs := [.ref 171, .int c, .int (Int32.ofInt 1)]) rfl (fun _ => rfl) ⟨Nat.le_of_ble_eq_true rfl, Nat.le_of_ble_eq_true rfl, pj_T_rcv iG1 rfl⟩ ⟨rfl, rfl⟩ (pj_Y_up (by decide) (ct_205 G1 iG1 c (Int32.ofInt 1) ⟨by omega, by omega⟩)) ?_
        rintro _ _ ⟨y21, rfl, rfl, ry21, ey21⟩
        show pj_X _ _ G1 103 [(0, .ref 171), (1, .int c), (2, .int w)] [.int y21] _
        exact pj_X_rt rfl rfl ⟨_, rfl, iG1, kG1, pj_i32 _⟩
    | false =>
      have ub10 := pj_u0_neF b10
      refine pj_X_of (fun r h => pj_R_ifF rfl b10 h) ?_
      refine pj_X_of (fun r h => pj_R_to (G1, 26, [(0, .ref 171), (1, .int c), (2, .int w)], [.ref 171], 0, 0) 26 2 (fun _ => rfl) h) ?_
      refine pj_X_ca (vs := [.ref 171]) rfl (fun _ => rfl) ⟨Nat.le_of_ble_eq_true rfl, Nat.le_of_ble_eq_true rfl, pj_T_rcv iG1 rfl⟩ ⟨rfl, rfl⟩ (pj_Y_up (by decide) (ct_169 G1 iG1)) ?_
      rintro _ G23 ⟨y22, rfl, iG23, jG23, ry22⟩
      have kG23 : pj_kpt kc_210 G0 G23 := pj_kpt_t kG1 (pj_kpt_s jG23 rfl)
      show pj_X _ _ G23 29 [(0, .ref 171), (1, .int c), (2, .int w)] [.int y22] _
      exact pj_X_rt rfl rfl ⟨_, rfl, iG23, kG23, pj_i32 _⟩
def kc_211 : pj_KT := ([(171, 0)], [171], [])
theorem ct_211 (G0 : pj_G) (hI : pj_Inv G0) (b : Int32) (w : Int32) : pj_Y 3 211 [.ref 171, .int b, .int w] G0 (fun v G' => ∃ y : Int32, v = some (.int y) ∧ pj_Inv G' ∧ pj_kpt kc_211 G0 G' ∧ ((-2147483648 : Int) ≤ y.toInt ∧ y.toInt ≤ 2147483647)) := by
  have c0_ : (Int32.ofInt 0).toInt = 0 := by decide
  have c1_ : (Int32.ofInt 1).toInt = 1 := by decide
  have c2_ : (Int32.ofInt 2).toInt = 2 := by decide
  have c3_ : (Int32.ofInt 3).toInt = 3 := by decide
  have c4_ : (Int32.ofInt 4).toInt = 4 := by decide
  refine pj_Y_X (M := pj_m211) rfl rfl (Nat.le_of_ble_eq_true rfl) ?_
  have hK : pj_kpt kc_211 G0 G0 := pj_kpt_r _ _
  show pj_X _ _ G0 0 [(0, .ref 171), (1, .int b), (2, .int w)] [] _
  refine pj_X_of (fun r h => pj_R_to (G0, 2, [(0, .ref 171), (1, .int b), (2, .int w)], [.int (Int32.ofInt 0), .ref 171], 0, 0) 2 3 (fun _ => rfl) h) ?_
  refine pj_X_of (fun r h => pj_T_pf hI rfl rfl rfl h) ?_
  show pj_X _ _ (pj_wv G0 171 0 (.int (Int32.ofInt 0))) 5 [(0, .ref 171), (1, .int b), (2, .int w)] [] _
  obtain ⟨G1, hG1⟩ : ∃ H, H = pj_wv G0 171 0 (.int (Int32.ofInt 0)) := ⟨_, rfl⟩
  have iG1 : pj_Inv G1 := by rw [hG1]; exact pj_Inv_wi hI (ci := 12) rfl (fun q hq => by cases hq)
  have kG1 : pj_kpt kc_211 G0 G1 := by rw [hG1]; exact pj_kpt_v hK rfl
  rw [← hG1]
  refine pj_X_of (fun r h => pj_R_to (G1, 7, [(0, .ref 171), (1, .int b), (2, .int w)], [.int b, .ref 171], 0, 0) 7 3 (fun _ => rfl) h) ?_
  refine pj_X_ca (vs := [.ref 171, .int b]) rfl (fun _ => rfl) ⟨Nat.le_of_ble_eq_true rfl, Nat.le_of_ble_eq_true rfl, pj_T_rcv iG1 rfl⟩ ⟨rfl, rfl⟩ (pj_Y_up (by decide) (ct_177 G1 iG1 b)) ?_
  rintro _ _ ⟨y2, rfl, rfl, ry2, ey2⟩
  show pj_X _ _ G1 10 [(0, .ref 171), (1, .int b), (2, .int w)] [.int y2] _
  cases b3 : pj_c1 .eq y2 0 with
  | true =>
    have ub3 := pj_u0_eqT b3
    refine pj_X_of (fun r h => pj_R_ifT 25 rfl rfl b3 h) ?_
    refine pj_X_of (fun r h => pj_R_to (G1, 26, [(0, .ref 171), (1, .int b), (2, .int w)], [.ref 171], 0, 0) 26 2 (fun _ => rfl) h) ?_
    refine pj_X_ca (vs := [.ref 171]) rfl (fun _ => rfl) ⟨Nat.le_of_ble_eq_true rfl, Nat.le_of_ble_eq_true rfl, pj_T_rcv iG1 rfl⟩ ⟨rfl, rfl⟩ (pj_Y_up (by decide) (ct_169 G1 iG1)) ?_
    rintro _ G5 ⟨y4, rfl, iG5, jG5, ry4⟩
    have kG5 : pj_kpt kc_211 G0 G5 := pj_kpt_t kG1 (pj_kpt_s jG5 rfl)
    show pj_X _ _ G5 29 [(0, .ref 171), (1, .int b), (2, .int w)] [.int y4] _
    exact pj_X_rt rfl rfl ⟨_, rfl, iG5, kG5, pj_i32 _⟩
  | false =>
    have ub3 := pj_u0_eqF b3
    refine pj_X_of (fun r h => pj_R_ifF rfl b3 h) ?_
    refine pj_X_of (fun r h => pj_R_to (G1, 19, [(0, .ref 171), (1, .int b), (2, .int w)], [.long (Int64.ofInt 4), .long (Int64.ofNat 0), .long w.toInt64], 0, 0) 19 5 (fun _ => rfl) h) ?_
    have lc6 : (w.toInt64).toInt = w.toInt := Int32.toInt_toInt64 _
    have lc7 : (Int64.ofNat 0).toInt = 0 := by decide
    have lc8 : (Int64.ofInt 4).toInt = 4 := by decide
    refine pj_X_ca (vs := [.long w.toInt64, .long (Int64.ofNat 0), .long (Int64.ofInt 4)]) rfl (fun _ => rfl) ⟨Nat.le_of_ble_eq_true rfl, Nat.le_of_ble_eq_true rfl, rfl⟩ ⟨rfl, rfl⟩ (pj_Y_up (by decide) (ct_170 G1 iG1 w.toInt64 (Int64.ofNat 0) (Int64.ofInt 4))) ?_
    rintro _ _ ⟨y9, rfl, rfl, ry9, ey9⟩
    show pj_X _ _ G1 22 [(0, .ref 171), (1, .int b), (2, .int w)] [.int y9] _
    cases b10 : pj_c1 .ne y9 0 with
    | true =>
      have ub10 := pj_u0_neT b10
      refine pj_X_of (fun r h => pj_R_ifT 30 rfl rfl b10 h) ?_
      refine pj_X_of (fun r h => pj_R_to (G1, 31, [(0, .ref 171), (1, .int b), (2, .int w)], [.int w], 0, 0) 31 2 (fun _ => rfl) h) ?_
      by_cases t11 : w.toInt = 0
      · refine pj_X_of (fun r h => pj_R_tw 60 rfl (n := 0) t11 rfl h) ?_
        refine pj_X_of (fun r h => pj_R_to (G1, 61, [(0, .ref 171), (1, .int b), (2, .int w)], [.ref 171], 0, 0) 61 2 (fun _ => rfl) h) ?_
        refine pj_X_of (fun r h => pj_T_gr iG1 rfl rfl rfl h) ?_
        refine pj_X_of (fun r h => pj_R_to (G1, 65, [(0, .ref 171), (1, .int b), (2, .int w)], [.int b, .ref 177], 0, 0) 65 2 (fun _ => rfl) h) ?_
        refine pj_X_of (fun r h => pj_T_il iG1 rfl rfl (by omega) (by omega) h) ?_
        show pj_X _ _ G1 66 [(0, .ref 171), (1, .int b), (2, .int w)] [.int (pj_ai G1 177 b.toInt.toNat)] _
        obtain ⟨z12, hz12⟩ : ∃ z : Int32, z = pj_ai G1 177 b.toInt.toNat := ⟨_, rfl⟩
        refine pj_X_eqi hz12.symm ?_
        have ez12 : (pj_ai G1 177 b.toInt.toNat).toInt = z12.toInt := by rw [hz12]
        exact pj_X_rt rfl rfl ⟨_, rfl, iG1, kG1, pj_i32 _⟩
      by_cases t13 : w.toInt = 1
      · refine pj_X_of (fun r h => pj_R_tw 67 rfl (n := 1) t13 rfl h) ?_
        refine pj_X_of (fun r h => pj_R_to (G1, 68, [(0, .ref 171), (1, .int b), (2, .int w)], [.ref 171], 0, 0) 68 2 (fun _ => rfl) h) ?_
        refine pj_X_of (fun r h => pj_T_gr iG1 rfl rfl rfl h) ?_
        refine pj_X_of (fun r h => pj_R_to (G1, 74, [(0, .ref 171), (1, .int b), (2, .int w)], [.int ((Int32.ofInt 4) * b), .ref 179], 0, 0) 74 4 (fun _ => rfl) h) ?_
        obtain ⟨z14, hz14⟩ : ∃ z : Int32, z = (Int32.ofInt 4) * b := ⟨_, rfl⟩
        refine pj_X_eqi hz14.symm ?_
        have fz14_0 : z14.toInt = 4 * b.toInt := by rw [hz14]; exact pj_mulL (by decide) (by omega) (by omega)
        refine pj_X_of (fun r h => pj_R_to (G1, 76, [(0, .ref 171), (1, .int b), (2, .int w)], [.int (z14 + (Int32.ofInt 3)), .ref 179], 0, 0) 76 3 (fun _ => rfl) h) ?_
        obtain ⟨z15, hz15⟩ : ∃ z : Int32, z = z14 + (Int32.ofInt 3) := ⟨_, rfl⟩
        refine pj_X_eqi hz15.symm ?_
        have fz15_0 : z15.toInt = z14.toInt + (Int32.ofInt 3).toInt := by rw [hz15]; exact pj_addI (by have := pj_i32 z14; have := pj_i32 (Int32.ofInt 3); omega) (by have := pj_i32 z14; have := pj_i32 (Int32.ofInt 3); omega)
        refine pj_X_of (fun r h => pj_T_il iG1 rfl rfl (by omega) (by omega) h) ?_
        show pj_X _ _ G1 77 [(0, .ref 171), (1, .int b), (2, .int w)] [.int (pj_ai G1 179 z15.toInt.toNat)] _
        obtain ⟨z16, hz16⟩ : ∃ z : Int32, z = pj_ai G1 179 z15.toInt.toNat := ⟨_, rfl⟩
        refine pj_X_eqi hz16.symm ?_
        have ez16 : (pj_ai G1 179 z15.toInt.toNat).toInt = z16.toInt := by rw [hz16]
        exact pj_X_rt rfl rfl ⟨_, rfl, iG1, kG1, pj_i32 _⟩
      by_cases t17 : w.toInt = 2
      · refine pj_X_of (fun r h => pj_R_tw 78 rfl (n := 2) t17 rfl h) ?_
        refine pj_X_of (fun r h => pj_R_to (G1, 79, [(0, .ref 171), (1, .int b), (2, .int w)], [.ref 171], 0, 0) 79 2 (fun _ => rfl) h) ?_
        refine pj_X_of (fun r h => pj_T_gr iG1 rfl rfl rfl h) ?_
        refine pj_X_of (fun r h => pj_R_to (G1, 85, [(0, .ref 171), (1, .int b), (2, .int w)], [.int ((Int32.ofInt 4) * b), .ref 179], 0, 0) 85 4 (fun _ => rfl) h) ?_
        obtain ⟨z18, hz18⟩ : ∃ z : Int32, z = (Int32.ofInt 4) * b := ⟨_, rfl⟩
        refine pj_X_eqi hz18.symm ?_
        have fz18_0 : z18.toInt = 4 * b.toInt := by rw [hz18]; exact pj_mulL (by decide) (by omega) (by omega)
        refine pj_X_of (fun r h => pj_R_to (G1, 87, [(0, .ref 171), (1, .int b), (2, .int w)], [.int (z18 + (Int32.ofInt 0)), .ref 179], 0, 0) 87 3 (fun _ => rfl) h) ?_
        obtain ⟨z19, hz19⟩ : ∃ z : Int32, z = z18 + (Int32.ofInt 0) := ⟨_, rfl⟩
        refine pj_X_eqi hz19.symm ?_
        have fz19_0 : z19.toInt = z18.toInt + (Int32.ofInt 0).toInt := by rw [hz19]; exact pj_addI (by have := pj_i32 z18; have := pj_i32 (Int32.ofInt 0); omega) (by have := pj_i32 z18; have := pj_i32 (Int32.ofInt 0); omega)
        refine pj_X_of (fun r h => pj_T_il iG1 rfl rfl (by omega) (by omega) h) ?_
        show pj_X _ _ G1 88 [(0, .ref 171), (1, .int b), (2, .int w)] [.int (pj_ai G1 179 z19.toInt.toNat)] _
        obtain ⟨z20, hz20⟩ : ∃ z : Int32, z = pj_ai G1 179 z19.toInt.toNat := ⟨_, rfl⟩
        refine pj_X_eqi hz20.symm ?_
        have ez20 : (pj_ai G1 179 z19.toInt.toNat).toInt = z20.toInt := by rw [hz20]
        have fz20_0 : -1 ≤ z20.toInt ∧ z20.toInt ≤ 9 := by rw [hz20]; exact ((iG1.2.2.2 179 32 rfl _ (by show _ < 32; omega)).1 (by omega)).1 (by omega)
        exact pj_X_rt rfl rfl ⟨_, rfl, iG1, kG1, pj_i32 _⟩
      by_cases t21 : w.toInt = 3
      · refine pj_X_of (fun r h => pj_R_tw 89 rfl (n := 3) t21 rfl h) ?_
        refine pj_X_of (fun r h => pj_R_to (G1, 90, [(0, .ref 171), (1, .int b), (2, .int w)], [.ref 171], 0, 0) 90 2 (fun _ => rfl) h) ?_
        refine pj_X_of (fun r h => pj_T_gr iG1 rfl rfl rfl h) ?_
        refine pj_X_of (fun r h => pj_R_to (G1, 96, [(0, .ref 171), (1, .int b), (2, .int w)], [.int ((Int32.ofInt 4) * b), .ref 179], 0, 0) 96 4 (fun _ => rfl) h) ?_
        obtain ⟨z22, hz22⟩ : ∃ z : Int32, z = (Int32.ofInt 4) * b := ⟨_, rfl⟩
        refine pj_X_eqi hz22.symm ?_
        have fz22_0 : z22.toInt = 4 * b.toInt := by rw [hz22]; exact pj_mulL (by decide) (by omega) (by omega)
        refine pj_X_of (fun r h => pj_R_to (G1, 98, [(0, .ref 171), (1, .int b), (2, .int w)], [.int (z22 + (Int32.ofInt 1)), .ref 179], 0, 0) 98 3 (fun _ => rfl) h) ?_
        obtain ⟨z23, hz23⟩ : ∃ z : Int32, z = z22 + (Int32.ofInt 1) := ⟨_, rfl⟩
        refine pj_X_eqi hz23.symm ?_
        have fz23_0 : z23.toInt = z22.toInt + (Int32.ofInt 1).toInt := by rw [hz23]; exact pj_addI (by have := pj_i32 z22; have := pj_i32 (Int32.ofInt 1); omega) (by have := pj_i32 z22; have := pj_i32 (Int32.ofInt 1); omega)
        refine pj_X_of (fun r h => pj_T_il iG1 rfl rfl (by omega) (by omega) h) ?_
        show pj_X _ _ G1 99 [(0, .ref 171), (1, .int b), (2, .int w)] [.int (pj_ai G1 179 z23.toInt.toNat)] _
        obtain ⟨z24, hz24⟩ : ∃ z : Int32, z = pj_ai G1 179 z23.toInt.toNat := ⟨_, rfl⟩
        refine pj_X_eqi hz24.symm ?_
        have ez24 : (pj_ai G1 179 z23.toInt.toNat).toInt = z24.toInt := by rw [hz24]
        have fz24_0 : 0 ≤ z24.toInt := by rw [hz24]; exact ((iG1.2.2.2 179 32 rfl _ (by show _ < 32; omega)).1 (by omega)).2 (by omega)
        exact pj_X_rt rfl rfl ⟨_, rfl, iG1, kG1, pj_i32 _⟩
      refine pj_X_of (fun r h => pj_R_td 100 rfl (by omega) rfl h) ?_
      refine pj_X_of (fun r h => pj_R_to (G1, 101, [(0, .ref 171), (1, .int b), (2, .int w)], [.ref 171], 0, 0) 101 2 (fun _ => rfl) h) ?_
      refine pj_X_of (fun r h => pj_T_gr iG1 rfl rfl rfl h) ?_
      refine pj_X_of (fun r h => pj_R_to (G1, 107, [(0, .ref 171), (1, .int b), (2, .int w)], [.int ((Int32.ofInt 4) * b), .ref 179], 0, 0) 107 4 (fun _ => rfl) h) ?_
      obtain ⟨z25, hz25⟩ : ∃ z : Int32, z = (Int32.ofInt 4) * b := ⟨_, rfl⟩
      refine pj_X_eqi hz25.symm ?_
      have fz25_0 : z25.toInt = 4 * b.toInt := by rw [hz25]; exact pj_mulL (by decide) (by omega) (by omega)
      refine pj_X_of (fun r h => pj_R_to (G1, 109, [(0, .ref 171), (1, .int b), (2, .int w)], [.int (z25 + (Int32.ofInt 2)), .ref 179], 0, 0) 109 3 (fun _ => rfl) h) ?_
      obtain ⟨z26, hz26⟩ : ∃ z : Int32, z = z25 + (Int32.ofInt 2) := ⟨_, rfl⟩
      refine pj_X_eqi hz26.symm ?_
      have fz26_0 : z26.toInt = z25.toInt + (Int32.ofInt 2).toInt := by rw [hz26]; exact pj_addI (by have := pj_i32 z25; have := pj_i32 (Int32.ofInt 2); omega) (by have := pj_i32 z25; have := pj_i32 (Int32.ofInt 2); omega)
      refine pj_X_of (fun r h => pj_T_il iG1 rfl rfl (by omega) (by omega) h) ?_
      show pj_X _ _ G1 110 [(0, .ref 171), (1, .int b), (2, .int w)] [.int (pj_ai G1 179 z26.toInt.toNat)] _
      obtain ⟨z27, hz27⟩ : ∃ z : Int32, z = pj_ai G1 179 z26.toInt.toNat := ⟨_, rfl⟩
      refine pj_X_eqi hz27.symm ?_
      have ez27 : (pj_ai G1 179 z26.toInt.toNat).toInt = z27.toInt := by rw [hz27]
      exact pj_X_rt rfl rfl ⟨_, rfl, iG1, kG1, pj_i32 _⟩
    | false =>
      have ub10 := pj_u0_neF b10
      refine pj_X_of (fun r h => pj_R_ifF rfl b10 h) ?_
      refine pj_X_of (fun r h => pj_R_to (G1, 26, [(0, .ref 171), (1, .int b), (2, .int w)], [.ref 171], 0, 0) 26 2 (fun _ => rfl) h) ?_
      refine pj_X_ca (vs := [.ref 171]) rfl (fun _ => rfl) ⟨Nat.le_of_ble_eq_true rfl, Nat.le_of_ble_eq_true rfl, pj_T_rcv iG1 rfl⟩ ⟨rfl, rfl⟩ (pj_Y_up (by decide) (ct_169 G1 iG1)) ?_
      rintro _ G29 ⟨y28, rfl, iG29, jG29, ry28⟩
      have kG29 : pj_kpt kc_211 G0 G29 := pj_kpt_t kG1 (pj_kpt_s jG29 rfl)
      show pj_X _ _ G29 29 [(0, .ref 171), (1, .int b), (2, .int w)] [.int y28] _
      exact pj_X_rt rfl rfl ⟨_, rfl, iG29, kG29, pj_i32 _⟩
def kc_212 : pj_KT := ([(171, 0)], [171], [])
theorem ct_212 (G0 : pj_G) (hI : pj_Inv G0) (p : Int32) (w : Int32) : pj_Y 3 212 [.ref 171, .int p, .int w] G0 (fun v G' => ∃ y : Int32, v = some (.int y) ∧ pj_Inv G' ∧ pj_kpt kc_212 G0 G' ∧ ((-2147483648 : Int) ≤ y.toInt ∧ y.toInt ≤ 2147483647)) := by
  have c0_ : ((Int8.ofInt 24).toInt32).toInt = 24 := by decide
  have c1_ : (Int32.ofInt 0).toInt = 0 := by decide
  refine pj_Y_X (M := pj_m212) rfl rfl (Nat.le_of_ble_eq_true rfl) ?_
  have hK : pj_kpt kc_212 G0 G0 := pj_kpt_r _ _
  show pj_X _ _ G0 0 [(0, .ref 171), (1, .int p), (2, .int w)] [] _
  refine pj_X_of (fun r h => pj_R_to (G0, 2, [(0, .ref 171), (1, .int p), (2, .int w)], [.int (Int32.ofInt 0), .ref 171], 0, 0) 2 3 (fun _ => rfl) h) ?_
  refine pj_X_of (fun r h => pj_T_pf hI rfl rfl rfl h) ?_
  show pj_X _ _ (pj_wv G0 171 0 (.int (Int32.ofInt 0))) 5 [(0, .ref 171), (1, .int p), (2, .int w)] [] _
  obtain ⟨G1, hG1⟩ : ∃ H, H = pj_wv G0 171 0 (.int (Int32.ofInt 0)) := ⟨_, rfl⟩
  have iG1 : pj_Inv G1 := by rw [hG1]; exact pj_Inv_wi hI (ci := 12) rfl (fun q hq => by cases hq)
  have kG1 : pj_kpt kc_212 G0 G1 := by rw [hG1]; exact pj_kpt_v hK rfl
  rw [← hG1]
  refine pj_X_of (fun r h => pj_R_to (G1, 7, [(0, .ref 171), (1, .int p), (2, .int w)], [.int p, .ref 171], 0, 0) 7 3 (fun _ => rfl) h) ?_
  refine pj_X_ca (vs := [.ref 171, .int p]) rfl (fun _ => rfl) ⟨Nat.le_of_ble_eq_true rfl, Nat.le_of_ble_eq_true rfl, pj_T_rcv iG1 rfl⟩ ⟨rfl, rfl⟩ (pj_Y_up (by decide) (ct_178 G1 iG1 p)) ?_
  rintro _ _ ⟨y2, rfl, rfl, ry2, ey2⟩
  show pj_X _ _ G1 10 [(0, .ref 171), (1, .int p), (2, .int w)] [.int y2] _
  cases b3 : pj_c1 .eq y2 0 with
  | true =>
    have ub3 := pj_u0_eqT b3
    refine pj_X_of (fun r h => pj_R_ifT 23 rfl rfl b3 h) ?_
    refine pj_X_of (fun r h => pj_R_to (G1, 24, [(0, .ref 171), (1, .int p), (2, .int w)], [.ref 171], 0, 0) 24 2 (fun _ => rfl) h) ?_
    refine pj_X_ca (vs := [.ref 171]) rfl (fun _ => rfl) ⟨Nat.le_of_ble_eq_true rfl, Nat.le_of_ble_eq_true rfl, pj_T_rcv iG1 rfl⟩ ⟨rfl, rfl⟩ (pj_Y_up (by decide) (ct_169 G1 iG1)) ?_
    rintro _ G5 ⟨y4, rfl, iG5, jG5, ry4⟩
    have kG5 : pj_kpt kc_212 G0 G5 := pj_kpt_t kG1 (pj_kpt_s jG5 rfl)
    show pj_X _ _ G5 27 [(0, .ref 171), (1, .int p), (2, .int w)] [.int y4] _
    exact pj_X_rt rfl rfl ⟨_, rfl, iG5, kG5, pj_i32 _⟩
  | false =>
    have ub3 := pj_u0_eqF b3
    refine pj_X_of (fun r h => pj_R_ifF rfl b3 h) ?_
    refine pj_X_of (fun r h => pj_R_to (G1, 17, [(0, .ref 171), (1, .int p), (2, .int w)], [.long (Int64.ofNat 1), .long (Int64.ofNat 0), .long w.toInt64], 0, 0) 17 5 (fun _ => rfl) h) ?_
    have lc6 : (w.toInt64).toInt = w.toInt := Int32.toInt_toInt64 _
    have lc7 : (Int64.ofNat 0).toInt = 0 := by decide
    have lc8 : (Int64.ofNat 1).toInt = 1 := by decide
    refine pj_X_ca (vs := [.long w.toInt64, .long (Int64.ofNat 0), .long (Int64.ofNat 1)]) rfl (fun _ => rfl) ⟨Nat.le_of_ble_eq_true rfl, Nat.le_of_ble_eq_true rfl, rfl⟩ ⟨rfl, rfl⟩ (pj_Y_up (by decide) (ct_170 G1 iG1 w.toInt64 (Int64.ofNat 0) (Int64.ofNat 1))) ?_
    rintro _ _ ⟨y9, rfl, rfl, ry9, ey9⟩
    show pj_X _ _ G1 20 [(0, .ref 171), (1, .int p), (2, .int w)] [.int y9] _
    cases b10 : pj_c1 .ne y9 0 with
    | true =>
      have ub10 := pj_u0_neT b10
      refine pj_X_of (fun r h => pj_R_ifT 28 rfl rfl b10 h) ?_
      refine pj_X_of (fun r h => pj_R_to (G1, 29, [(0, .ref 171), (1, .int p), (2, .int w)], [.int w], 0, 0) 29 2 (fun _ => rfl) h) ?_
      cases b11 : pj_c1 .ne w 0 with
      | true =>
        have ub11 := pj_u0_neT b11
        refine pj_X_of (fun r h => pj_R_ifT 44 rfl rfl b11 h) ?_
        refine pj_X_of (fun r h => pj_R_to (G1, 45, [(0, .ref 171), (1, .int p), (2, .int w)], [.ref 171], 0, 0) 45 2 (fun _ => rfl) h) ?_
        refine pj_X_of (fun r h => pj_T_gr iG1 rfl rfl rfl h) ?_
        refine pj_X_of (fun r h => pj_R_to (G1, 49, [(0, .ref 171), (1, .int p), (2, .int w)], [.int p, .ref 178], 0, 0) 49 2 (fun _ => rfl) h) ?_
        refine pj_X_of (fun r h => pj_T_il iG1 rfl rfl (by omega) (by omega) h) ?_
        show pj_X _ _ G1 50 [(0, .ref 171), (1, .int p), (2, .int w)] [.int (pj_ai G1 178 p.toInt.toNat)] _
        obtain ⟨z12, hz12⟩ : ∃ z : Int32, z = pj_ai G1 178 p.toInt.toNat := ⟨_, rfl⟩
        refine pj_X_eqi hz12.symm ?_
        have ez12 : (pj_ai G1 178 p.toInt.toNat).toInt = z12.toInt := by rw [hz12]
        exact pj_X_rt rfl rfl ⟨_, rfl, iG1, kG1, pj_i32 _⟩
      | false =>
        have ub11 := pj_u0_neF b11
        refine pj_X_of (fun r h => pj_R_ifF rfl b11 h) ?_
        refine pj_X_of (fun r h => pj_R_to (G1, 33, [(0, .ref 171), (1, .int p), (2, .int w)], [.ref 171], 0, 0) 33 2 (fun _ => rfl) h) ?_
        refine pj_X_of (fun r h => pj_T_gr iG1 rfl rfl rfl h) ?_
        refine pj_X_of (fun r h => pj_R_to (G1, 40, [(0, .ref 171), (1, .int p), (2, .int w)], [.int (((Int8.ofInt 24).toInt32) + p), .ref 179], 0, 0) 40 4 (fun _ => rfl) h) ?_
        obtain ⟨z13, hz13⟩ : ∃ z : Int32, z = ((Int8.ofInt 24).toInt32) + p := ⟨_, rfl⟩
        refine pj_X_eqi hz13.symm ?_
        have fz13_0 : z13.toInt = ((Int8.ofInt 24).toInt32).toInt + p.toInt := by rw [hz13]; exact pj_addI (by have := pj_i32 ((Int8.ofInt 24).toInt32); have := pj_i32 p; omega) (by have := pj_i32 ((Int8.ofInt 24).toInt32); have := pj_i32 p; omega)
        refine pj_X_of (fun r h => pj_T_il iG1 rfl rfl (by omega) (by omega) h) ?_
        show pj_X _ _ G1 41 [(0, .ref 171), (1, .int p), (2, .int w)] [.int (pj_ai G1 179 z13.toInt.toNat)] _
        obtain ⟨z14, hz14⟩ : ∃ z : Int32, z = pj_ai G1 179 z13.toInt.toNat := ⟨_, rfl⟩
        refine pj_X_eqi hz14.symm ?_
        have ez14 : (pj_ai G1 179 z13.toInt.toNat).toInt = z14.toInt := by rw [hz14]
        have fz14_0 : 0 ≤ z14.toInt ∧ z14.toInt ≤ 7 := by rw [hz14]; exact (iG1.2.2.2 179 32 rfl _ (by show _ < 32; omega)).2 ⟨by omega, by omega⟩
        refine pj_X_of (fun r h => pj_R_to (G1, 50, [(0, .ref 171), (1, .int p), (2, .int w)], [.int z14], 0, 0) 50 2 (fun _ => rfl) h) ?_
        exact pj_X_rt rfl rfl ⟨_, rfl, iG1, kG1, pj_i32 _⟩
    | false =>
      have ub10 := pj_u0_neF b10
      refine pj_X_of (fun r h => pj_R_ifF rfl b10 h) ?_
      refine pj_X_of (fun r h => pj_R_to (G1, 24, [(0, .ref 171), (1, .int p), (2, .int w)], [.ref 171], 0, 0) 24 2 (fun _ => rfl) h) ?_
      refine pj_X_ca (vs := [.ref 171]) rfl (fun _ => rfl) ⟨Nat.le_of_ble_eq_true rfl, Nat.le_of_ble_eq_true rfl, pj_T_rcv iG1 rfl⟩ ⟨rfl, rfl⟩ (pj_Y_up (by decide) (ct_169 G1 iG1)) ?_
      rintro _ G16 ⟨y15, rfl, iG16, jG16, ry15⟩
      have kG16 : pj_kpt kc_212 G0 G16 := pj_kpt_t kG1 (pj_kpt_s jG16 rfl)
      show pj_X _ _ G16 27 [(0, .ref 171), (1, .int p), (2, .int w)] [.int y15] _
      exact pj_X_rt rfl rfl ⟨_, rfl, iG16, kG16, pj_i32 _⟩
def kc_213 : pj_KT := ([(171, 0)], [171, 179], [179])
theorem lp_ct_213 (G0 : pj_G) (hI0 : pj_Inv G0) (kd : Int32) (n : Int32) (f : Int32) (sp : Int32) : ∀ mn : Nat, (∀ (G : pj_G) (hI : pj_Inv G) (hK : pj_kpt kc_213 G0 G) (v5 : Int32) (v6 : Int32) (v7 : Int32), ((-2147483648 : Int) ≤ v5.toInt ∧ v5.toInt ≤ 2147483647) → ((-2147483648 : Int) ≤ v6.toInt ∧ v6.toInt ≤ 2147483647) → ((0 : Int) ≤ v7.toInt ∧ v7.toInt ≤ 6) → 6 - v7.toInt < (mn : Int) → pj_X 1 pj_m213 G 46 [(0, .ref 171), (1, .int kd), (2, .int n), (3, .int f), (4, .int sp), (5, .int v5), (6, .int v6), (7, .int v7)] [] (fun v G' => ∃ y : Int32, v = some (.int y) ∧ pj_Inv G' ∧ pj_kpt kc_213 G0 G' ∧ ((-2147483648 : Int) ≤ y.toInt ∧ y.toInt ≤ 2147483647))) := by
  have c0_ : ((Int8.ofInt (-2)).toInt32).toInt = -2 := by decide
  have c1_ : ((Int8.ofInt (-3)).toInt32).toInt = -3 := by decide
  have c2_ : ((Int8.ofInt 6).toInt32).toInt = 6 := by decide
  have c3_ : ((Int8.ofInt 9).toInt32).toInt = 9 := by decide
  have c4_ : (Int32.ofInt (-1)).toInt = -1 := by decide
  have c5_ : (Int32.ofInt 0).toInt = 0 := by decide
  have c6_ : (Int32.ofInt 1).toInt = 1 := by decide
  have c7_ : (Int32.ofInt 3).toInt = 3 := by decide
  have c8_ : (Int32.ofInt 4).toInt = 4 := by decide
  intro mn
  induction mn with
  | zero =>
    intro G hI hK v5 v6 v7 rv5 rv6 rv7 hm
    exfalso
    omega
  | succ mn ih =>
    intro G hI hK v5 v6 v7 rv5 rv6 rv7 hm
    refine pj_X_of (fun r h => pj_R_to (G, 49, [(0, .ref 171), (1, .int kd), (2, .int n), (3, .int f), (4, .int sp), (5, .int v5), (6, .int v6), (7, .int v7)], [.ref 171, .int v7], 0, 0) 49 3 (fun _ => rfl) h) ?_
    refine pj_X_of (fun r h => pj_T_gi hI rfl rfl h) ?_
    show pj_X _ _ G 52 [(0, .ref 171), (1, .int kd), (2, .int n), (3, .int f), (4, .int sp), (5, .int v5), (6, .int v6), (7, .int v7)] [.int (pj_fi G 171 5), .int v7] _
    obtain ⟨y1, hy1⟩ : ∃ z : Int32, z = pj_fi G 171 5 := ⟨_, rfl⟩
    refine pj_X_eqi hy1.symm ?_
    have ey1 : (pj_fi G 171 5).toInt = y1.toInt := by rw [hy1]
    have ry1 : (0 : Int) ≤ y1.toInt ∧ y1.toInt ≤ 6 := by rw [hy1]; exact hI.2.1 171 5 (0, 6) rfl
    cases b2 : pj_c1 .ge v7 y1 with
    | true =>
      have ub2 := pj_u_geT b2
      refine pj_X_of (fun r h => pj_R_icT 146 rfl rfl b2 h) ?_
      refine pj_X_of (fun r h => pj_R_to (G, 148, [(0, .ref 171), (1, .int kd), (2, .int n), (3, .int f), (4, .int sp), (5, .int v5), (6, .int v6), (7, .int v7)], [.int (Int32.ofInt 3), .int kd], 0, 0) 148 3 (fun _ => rfl) h) ?_
      cases b3 : pj_c1 .ne kd (Int32.ofInt 3) with
      | true =>
        have ub3 := pj_u_neT b3
        refine pj_X_of (fun r h => pj_R_icT 156 rfl rfl b3 h) ?_
        refine pj_X_of (fun r h => pj_R_to (G, 158, [(0, .ref 171), (1, .int kd), (2, .int n), (3, .int f), (4, .int sp), (5, .int v5), (6, .int v6), (7, .int v7)], [.int v5], 0, 0) 158 2 (fun _ => rfl) h) ?_
        exact pj_X_rt rfl rfl ⟨_, rfl, hI, hK, pj_i32 _⟩
      | false =>
        have ub3 := pj_u_neF b3
        refine pj_X_of (fun r h => pj_R_icF rfl b3 h) ?_
        refine pj_X_of (fun r h => pj_R_to (G, 158, [(0, .ref 171), (1, .int kd), (2, .int n), (3, .int f), (4, .int sp), (5, .int v5), (6, .int v6), (7, .int v7)], [.int ((Int8.ofInt (-3)).toInt32)], 0, 0) 158 3 (fun _ => rfl) h) ?_
        exact pj_X_rt rfl rfl ⟨_, rfl, hI, hK, pj_i32 _⟩
    | false =>
      have ub2 := pj_u_geF b2
      refine pj_X_of (fun r h => pj_R_icF rfl b2 h) ?_
      refine pj_X_of (fun r h => pj_R_to (G, 56, [(0, .ref 171), (1, .int kd), (2, .int n), (3, .int f), (4, .int sp), (5, .int v5), (6, .int v6), (7, .int v7)], [.int kd], 0, 0) 56 2 (fun _ => rfl) h) ?_
      cases b4 : pj_c1 .ne kd 0 with
      | true =>
        have ub4 := pj_u0_neT b4
        refine pj_X_of (fun r h => pj_R_ifT 65 rfl rfl b4 h) ?_
        refine pj_X_of (fun r h => pj_R_to (G, 67, [(0, .ref 171), (1, .int kd), (2, .int n), (3, .int f), (4, .int sp), (5, .int v5), (6, .int v6), (7, .int v7)], [.int (Int32.ofInt 1), .int kd], 0, 0) 67 3 (fun _ => rfl) h) ?_
        cases b5 : pj_c1 .ne kd (Int32.ofInt 1) with
        | true =>
          have ub5 := pj_u_neT b5
          refine pj_X_of (fun r h => pj_R_icT 76 rfl rfl b5 h) ?_
          refine pj_X_of (fun r h => pj_R_to (G, 81, [(8, .int v6), (0, .ref 171), (1, .int kd), (2, .int n), (3, .int f), (4, .int sp), (5, .int v5), (6, .int v6), (7, .int v7)], [.ref 171], 0, 0) 81 4 (fun _ => rfl) h) ?_
          refine pj_X_of (fun r h => pj_T_gr hI rfl rfl rfl h) ?_
          refine pj_X_of (fun r h => pj_R_to (G, 88, [(8, .int v6), (0, .ref 171), (1, .int kd), (2, .int n), (3, .int f), (4, .int sp), (5, .int v5), (6, .int v6), (7, .int v7)], [.int ((Int32.ofInt 4) * v7), .ref 179], 0, 0) 88 4 (fun _ => rfl) h) ?_
          obtain ⟨z6, hz6⟩ : ∃ z : Int32, z = (Int32.ofInt 4) * v7 := ⟨_, rfl⟩
          refine pj_X_eqi hz6.symm ?_
          have fz6_0 : z6.toInt = 4 * v7.toInt := by rw [hz6]; exact pj_mulL (by decide) (by omega) (by omega)
          refine pj_X_of (fun r h => pj_R_to (G, 90, [(8, .int v6), (0, .ref 171), (1, .int kd), (2, .int n), (3, .int f), (4, .int sp), (5, .int v5), (6, .int v6), (7, .int v7)], [.int (z6 + (Int32.ofInt 3)), .ref 179], 0, 0) 90 3 (fun _ => rfl) h) ?_
          obtain ⟨z7, hz7⟩ : ∃ z : Int32, z = z6 + (Int32.ofInt 3) := ⟨_, rfl⟩
          refine pj_X_eqi hz7.symm ?_
          have fz7_0 : z7.toInt = z6.toInt + (Int32.ofInt 3).toInt := by rw [hz7]; exact pj_addI (by have := pj_i32 z6; have := pj_i32 (Int32.ofInt 3); omega) (by have := pj_i32 z6; have := pj_i32 (Int32.ofInt 3); omega)
          refine pj_X_of (fun r h => pj_R_to (G, 92, [(8, .int v6), (0, .ref 171), (1, .int kd), (2, .int n), (3, .int f), (4, .int sp), (5, .int v5), (6, .int v6), (7, .int v7)], [.int (Int32.ofInt 3), .int kd, .int z7, .ref 179], 0, 0) 92 3 (fun _ => rfl) h) ?_
          cases b8 : pj_c1 .eq kd (Int32.ofInt 3) with
          | true =>
            have ub8 := pj_u_eqT b8
            refine pj_X_of (fun r h => pj_R_icT 101 rfl rfl b8 h) ?_
            refine pj_X_of (fun r h => pj_R_to (G, 116, [(8, .int v6), (0, .ref 171), (1, .int kd), (2, .int n), (3, .int f), (4, .int sp), (5, .int v5), (6, .int v6), (7, .int v7)], [.int (Int32.ofInt 0), .int z7, .ref 179], 0, 0) 116 3 (fun _ => rfl) h) ?_
            refine pj_X_of (fun r h => pj_T_is hI rfl rfl (by omega) (by omega) h) ?_
            show pj_X _ _ (pj_wa G 179 z7.toInt.toNat (Int32.ofInt 0)) 117 [(8, .int v6), (0, .ref 171), (1, .int kd), (2, .int n), (3, .int f), (4, .int sp), (5, .int v5), (6, .int v6), (7, .int v7)] [] _
            obtain ⟨G9, hG9⟩ : ∃ H, H = pj_wa G 179 z7.toInt.toNat (Int32.ofInt 0) := ⟨_, rfl⟩
            have iG9 : pj_Inv G9 := by rw [hG9]; exact pj_Inv_wa hI rfl (fun q hq => by cases hq) (fun n hn => ⟨fun h1 => ⟨fun h2 => by omega, fun h2 => by omega⟩, fun h1 => by omega⟩)
            have kG9 : pj_kpt kc_213 G0 G9 := by rw [hG9]; exact pj_kpt_a hK rfl
            rw [← hG9]
            refine pj_X_of (fun r h => pj_R_to (G9, 120, [(8, .int v6), (0, .ref 171), (1, .int kd), (2, .int n), (3, .int f), (4, .int sp), (5, .int v5), (6, .int v6), (7, .int v7)], [.ref 171, .int v5], 0, 0) 120 3 (fun _ => rfl) h) ?_
            refine pj_X_of (fun r h => pj_T_gr iG9 rfl rfl rfl h) ?_
            refine pj_X_of (fun r h => pj_R_to (G9, 127, [(8, .int v6), (0, .ref 171), (1, .int kd), (2, .int n), (3, .int f), (4, .int sp), (5, .int v5), (6, .int v6), (7, .int v7)], [.int ((Int32.ofInt 4) * v7), .ref 179, .int v5], 0, 0) 127 4 (fun _ => rfl) h) ?_
            obtain ⟨z10, hz10⟩ : ∃ z : Int32, z = (Int32.ofInt 4) * v7 := ⟨_, rfl⟩
            refine pj_X_eqi hz10.symm ?_
            have fz10_0 : z10.toInt = 4 * v7.toInt := by rw [hz10]; exact pj_mulL (by decide) (by omega) (by omega)
            refine pj_X_of (fun r h => pj_R_to (G9, 129, [(8, .int v6), (0, .ref 171), (1, .int kd), (2, .int n), (3, .int f), (4, .int sp), (5, .int v5), (6, .int v6), (7, .int v7)], [.int (z10 + (Int32.ofInt 3)), .ref 179, .int v5], 0, 0) 129 3 (fun _ => rfl) h) ?_
            obtain ⟨z11, hz11⟩ : ∃ z : Int32, z = z10 + (Int32.ofInt 3) := ⟨_, rfl⟩
            refine pj_X_eqi hz11.symm ?_
            have fz11_0 : z11.toInt = z10.toInt + (Int32.ofInt 3).toInt := by rw [hz11]; exact pj_addI (by have := pj_i32 z10; have := pj_i32 (Int32.ofInt 3); omega) (by have := pj_i32 z10; have := pj_i32 (Int32.ofInt 3); omega)
            refine pj_X_of (fun r h => pj_T_il iG9 rfl rfl (by omega) (by omega) h) ?_
            show pj_X _ _ G9 130 [(8, .int v6), (0, .ref 171), (1, .int kd), (2, .int n), (3, .int f), (4, .int sp), (5, .int v5), (6, .int v6), (7, .int v7)] [.int (pj_ai G9 179 z11.toInt.toNat), .int v5] _
            obtain ⟨z12, hz12⟩ : ∃ z : Int32, z = pj_ai G9 179 z11.toInt.toNat := ⟨_, rfl⟩
            refine pj_X_eqi hz12.symm ?_
            have ez12 : (pj_ai G9 179 z11.toInt.toNat).toInt = z12.toInt := by rw [hz12]
            refine pj_X_of (fun r h => pj_R_to (G9, 131, [(8, .int v6), (0, .ref 171), (1, .int kd), (2, .int n), (3, .int f), (4, .int sp), (5, .int v5), (6, .int v6), (7, .int v7)], [.int (v5 + z12)], 0, 0) 131 2 (fun _ => rfl) h) ?_
            obtain ⟨z13, hz13⟩ : ∃ z : Int32, z = v5 + z12 := ⟨_, rfl⟩
            refine pj_X_eqi hz13.symm ?_
            refine pj_X_of (fun r h => pj_R_to (G9, 138, [(5, .int z13), (8, .int v6), (0, .ref 171), (1, .int kd), (2, .int n), (3, .int f), (4, .int sp), (6, .int v6), (7, .int v7)], [.int (v6 + sp)], 0, 0) 138 5 (fun _ => rfl) h) ?_
            obtain ⟨z14, hz14⟩ : ∃ z : Int32, z = v6 + sp := ⟨_, rfl⟩
            refine pj_X_eqi hz14.symm ?_
            refine pj_X_of (fun r h => pj_R_to (G9, 143, [(7, .int (v7 + Int32.ofInt 1)), (6, .int z14), (5, .int z13), (8, .int v6), (0, .ref 171), (1, .int kd), (2, .int n), (3, .int f), (4, .int sp)], [], 0, 0) 143 3 (fun _ => rfl) h) ?_
            obtain ⟨z15, hz15⟩ : ∃ z : Int32, z = v7 + Int32.ofInt 1 := ⟨_, rfl⟩
            rw [← hz15]
            have fz15_0 : z15.toInt = v7.toInt + (Int32.ofInt 1).toInt := by rw [hz15]; exact pj_addI (by have := pj_i32 v7; have := pj_i32 (Int32.ofInt 1); omega) (by have := pj_i32 v7; have := pj_i32 (Int32.ofInt 1); omega)
            refine pj_X_of (fun r h => pj_R_to (G9, 46, [(7, .int z15), (6, .int z14), (5, .int z13), (8, .int v6), (0, .ref 171), (1, .int kd), (2, .int n), (3, .int f), (4, .int sp)], [], 0, 0) 46 2 (fun _ => rfl) h) ?_
            exact pj_X_sub [(0, .ref 171), (1, .int kd), (2, .int n), (3, .int f), (4, .int sp), (5, .int z13), (6, .int z14), (7, .int z15)] (show List.Nodup [0, 1, 2, 3, 4, 5, 6, 7] by decide) ⟨rfl, rfl, rfl, rfl, rfl, rfl, rfl, rfl, trivial⟩ (ih G9 iG9 kG9 z13 z14 z15 (pj_i32 _) (pj_i32 _) ⟨by omega, by omega⟩ (by omega))
          | false =>
            have ub8 := pj_u_eqF b8
            refine pj_X_of (fun r h => pj_R_icF rfl b8 h) ?_
            refine pj_X_of (fun r h => pj_R_to (G, 98, [(8, .int v6), (0, .ref 171), (1, .int kd), (2, .int n), (3, .int f), (4, .int sp), (5, .int v5), (6, .int v6), (7, .int v7)], [.int n, .int v7, .int z7, .ref 179], 0, 0) 98 3 (fun _ => rfl) h) ?_
            cases b16 : pj_c1 .lt v7 n with
            | true =>
              have ub16 := pj_u_ltT b16
              refine pj_X_of (fun r h => pj_R_icT 105 rfl rfl b16 h) ?_
              refine pj_X_of (fun r h => pj_R_to (G, 110, [(8, .int v6), (0, .ref 171), (1, .int kd), (2, .int n), (3, .int f), (4, .int sp), (5, .int v5), (6, .int v6), (7, .int v7)], [.int v6, .int ((Int8.ofInt 9).toInt32), .int (Int32.ofInt 0), .int z7, .ref 179], 0, 0) 110 4 (fun _ => rfl) h) ?_
              refine pj_X_of (fun r h => pj_R_mn (v := (if v6 < ((Int8.ofInt 9).toInt32) then v6 else ((Int8.ofInt 9).toInt32))) rfl rfl rfl (Nat.le_of_ble_eq_true rfl) h) ?_
              show pj_X _ _ G 113 [(8, .int v6), (0, .ref 171), (1, .int kd), (2, .int n), (3, .int f), (4, .int sp), (5, .int v5), (6, .int v6), (7, .int v7)] [.int (if v6 < ((Int8.ofInt 9).toInt32) then v6 else ((Int8.ofInt 9).toInt32)), .int (Int32.ofInt 0), .int z7, .ref 179] _
              obtain ⟨z17, hz17⟩ : ∃ z : Int32, z = (if v6 < ((Int8.ofInt 9).toInt32) then v6 else ((Int8.ofInt 9).toInt32)) := ⟨_, rfl⟩
              refine pj_X_eqi hz17.symm ?_
              have fz17_0 : z17.toInt ≤ ((Int8.ofInt 9).toInt32).toInt ∧ z17.toInt ≤ v6.toInt ∧ (z17.toInt = ((Int8.ofInt 9).toInt32).toInt ∨ z17.toInt = v6.toInt) := by rw [hz17]; exact pj_minI
              refine pj_X_of (fun r h => pj_R_mx (v := (if (Int32.ofInt 0) < z17 then z17 else (Int32.ofInt 0))) rfl rfl rfl (Nat.le_of_ble_eq_true rfl) h) ?_
              show pj_X _ _ G 116 [(8, .int v6), (0, .ref 171), (1, .int kd), (2, .int n), (3, .int f), (4, .int sp), (5, .int v5), (6, .int v6), (7, .int v7)] [.int (if (Int32.ofInt 0) < z17 then z17 else (Int32.ofInt 0)), .int z7, .ref 179] _
              obtain ⟨z18, hz18⟩ : ∃ z : Int32, z = (if (Int32.ofInt 0) < z17 then z17 else (Int32.ofInt 0)) := ⟨_, rfl⟩
              refine pj_X_eqi hz18.symm ?_
              have fz18_0 : (Int32.ofInt 0).toInt ≤ z18.toInt ∧ z17.toInt ≤ z18.toInt ∧ (z18.toInt = (Int32.ofInt 0).toInt ∨ z18.toInt = z17.toInt) := by rw [hz18]; exact pj_maxI
              refine pj_X_of (fun r h => pj_T_is hI rfl rfl (by omega) (by omega) h) ?_
              show pj_X _ _ (pj_wa G 179 z7.toInt.toNat z18) 117 [(8, .int v6), (0, .ref 171), (1, .int kd), (2, .int n), (3, .int f), (4, .int sp), (5, .int v5), (6, .int v6), (7, .int v7)] [] _
              obtain ⟨G19, hG19⟩ : ∃ H, H = pj_wa G 179 z7.toInt.toNat z18 := ⟨_, rfl⟩
              have iG19 : pj_Inv G19 := by rw [hG19]; exact pj_Inv_wa hI rfl (fun q hq => by cases hq) (fun n hn => ⟨fun h1 => ⟨fun h2 => by omega, fun h2 => by omega⟩, fun h1 => by omega⟩)
              have kG19 : pj_kpt kc_213 G0 G19 := by rw [hG19]; exact pj_kpt_a hK rfl
              rw [← hG19]
              refine pj_X_of (fun r h => pj_R_to (G19, 120, [(8, .int v6), (0, .ref 171), (1, .int kd), (2, .int n), (3, .int f), (4, .int sp), (5, .int v5), (6, .int v6), (7, .int v7)], [.ref 171, .int v5], 0, 0) 120 3 (fun _ => rfl) h) ?_
              refine pj_X_of (fun r h => pj_T_gr iG19 rfl rfl rfl h) ?_
              refine pj_X_of (fun r h => pj_R_to (G19, 127, [(8, .int v6), (0, .ref 171), (1, .int kd), (2, .int n), (3, .int f), (4, .int sp), (5, .int v5), (6, .int v6), (7, .int v7)], [.int ((Int32.ofInt 4) * v7), .ref 179, .int v5], 0, 0) 127 4 (fun _ => rfl) h) ?_
              obtain ⟨z20, hz20⟩ : ∃ z : Int32, z = (Int32.ofInt 4) * v7 := ⟨_, rfl⟩
              refine pj_X_eqi hz20.symm ?_
              have fz20_0 : z20.toInt = 4 * v7.toInt := by rw [hz20]; exact pj_mulL (by decide) (by omega) (by omega)
              refine pj_X_of (fun r h => pj_R_to (G19, 129, [(8, .int v6), (0, .ref 171), (1, .int kd), (2, .int n), (3, .int f), (4, .int sp), (5, .int v5), (6, .int v6), (7, .int v7)], [.int (z20 + (Int32.ofInt 3)), .ref 179, .int v5], 0, 0) 129 3 (fun _ => rfl) h) ?_
              obtain ⟨z21, hz21⟩ : ∃ z : Int32, z = z20 + (Int32.ofInt 3) := ⟨_, rfl⟩
              refine pj_X_eqi hz21.symm ?_
              have fz21_0 : z21.toInt = z20.toInt + (Int32.ofInt 3).toInt := by rw [hz21]; exact pj_addI (by have := pj_i32 z20; have := pj_i32 (Int32.ofInt 3); omega) (by have := pj_i32 z20; have := pj_i32 (Int32.ofInt 3); omega)
              refine pj_X_of (fun r h => pj_T_il iG19 rfl rfl (by omega) (by omega) h) ?_
              show pj_X _ _ G19 130 [(8, .int v6), (0, .ref 171), (1, .int kd), (2, .int n), (3, .int f), (4, .int sp), (5, .int v5), (6, .int v6), (7, .int v7)] [.int (pj_ai G19 179 z21.toInt.toNat), .int v5] _
              obtain ⟨z22, hz22⟩ : ∃ z : Int32, z = pj_ai G19 179 z21.toInt.toNat := ⟨_, rfl⟩
              refine pj_X_eqi hz22.symm ?_
              have ez22 : (pj_ai G19 179 z21.toInt.toNat).toInt = z22.toInt := by rw [hz22]
              refine pj_X_of (fun r h => pj_R_to (G19, 131, [(8, .int v6), (0, .ref 171), (1, .int kd), (2, .int n), (3, .int f), (4, .int sp), (5, .int v5), (6, .int v6), (7, .int v7)], [.int (v5 + z22)], 0, 0) 131 2 (fun _ => rfl) h) ?_
              obtain ⟨z23, hz23⟩ : ∃ z : Int32, z = v5 + z22 := ⟨_, rfl⟩
              refine pj_X_eqi hz23.symm ?_
              refine pj_X_of (fun r h => pj_R_to (G19, 138, [(5, .int z23), (8, .int v6), (0, .ref 171), (1, .int kd), (2, .int n), (3, .int f), (4, .int sp), (6, .int v6), (7, .int v7)], [.int (v6 + sp)], 0, 0) 138 5 (fun _ => rfl) h) ?_
              obtain ⟨z24, hz24⟩ : ∃ z : Int32, z = v6 + sp := ⟨_, rfl⟩
              refine pj_X_eqi hz24.symm ?_
              refine pj_X_of (fun r h => pj_R_to (G19, 143, [(7, .int (v7 + Int32.ofInt 1)), (6, .int z24), (5, .int z23), (8, .int v6), (0, .ref 171), (1, .int kd), (2, .int n), (3, .int f), (4, .int sp)], [], 0, 0) 143 3 (fun _ => rfl) h) ?_
              obtain ⟨z25, hz25⟩ : ∃ z : Int32, z = v7 + Int32.ofInt 1 := ⟨_, rfl⟩
              rw [← hz25]
              have fz25_0 : z25.toInt = v7.toInt + (Int32.ofInt 1).toInt := by rw [hz25]; exact pj_addI (by have := pj_i32 v7; have := pj_i32 (Int32.ofInt 1); omega) (by have := pj_i32 v7; have := pj_i32 (Int32.ofInt 1); omega)
              refine pj_X_of (fun r h => pj_R_to (G19, 46, [(7, .int z25), (6, .int z24), (5, .int z23), (8, .int v6), (0, .ref 171), (1, .int kd), (2, .int n), (3, .int f), (4, .int sp)], [], 0, 0) 46 2 (fun _ => rfl) h) ?_
              exact pj_X_sub [(0, .ref 171), (1, .int kd), (2, .int n), (3, .int f), (4, .int sp), (5, .int z23), (6, .int z24), (7, .int z25)] (show List.Nodup [0, 1, 2, 3, 4, 5, 6, 7] by decide) ⟨rfl, rfl, rfl, rfl, rfl, rfl, rfl, rfl, trivial⟩ (ih G19 iG19 kG19 z23 z24 z25 (pj_i32 _) (pj_i32 _) ⟨by omega, by omega⟩ (by omega))
            | false =>
              have ub16 := pj_u_ltF b16
              refine pj_X_of (fun r h => pj_R_icF rfl b16 h) ?_
              refine pj_X_of (fun r h => pj_R_to (G, 116, [(8, .int v6), (0, .ref 171), (1, .int kd), (2, .int n), (3, .int f), (4, .int sp), (5, .int v5), (6, .int v6), (7, .int v7)], [.int (Int32.ofInt 0), .int z7, .ref 179], 0, 0) 116 3 (fun _ => rfl) h) ?_
              refine pj_X_of (fun r h => pj_T_is hI rfl rfl (by omega) (by omega) h) ?_
              show pj_X _ _ (pj_wa G 179 z7.toInt.toNat (Int32.ofInt 0)) 117 [(8, .int v6), (0, .ref 171), (1, .int kd), (2, .int n), (3, .int f), (4, .int sp), (5, .int v5), (6, .int v6), (7, .int v7)] [] _
              obtain ⟨G26, hG26⟩ : ∃ H, H = pj_wa G 179 z7.toInt.toNat (Int32.ofInt 0) := ⟨_, rfl⟩
              have iG26 : pj_Inv G26 := by rw [hG26]; exact pj_Inv_wa hI rfl (fun q hq => by cases hq) (fun n hn => ⟨fun h1 => ⟨fun h2 => by omega, fun h2 => by omega⟩, fun h1 => by omega⟩)
              have kG26 : pj_kpt kc_213 G0 G26 := by rw [hG26]; exact pj_kpt_a hK rfl
              rw [← hG26]
              refine pj_X_of (fun r h => pj_R_to (G26, 120, [(8, .int v6), (0, .ref 171), (1, .int kd), (2, .int n), (3, .int f), (4, .int sp), (5, .int v5), (6, .int v6), (7, .int v7)], [.ref 171, .int v5], 0, 0) 120 3 (fun _ => rfl) h) ?_
              refine pj_X_of (fun r h => pj_T_gr iG26 rfl rfl rfl h) ?_
              refine pj_X_of (fun r h => pj_R_to (G26, 127, [(8, .int v6), (0, .ref 171), (1, .int kd), (2, .int n), (3, .int f), (4, .int sp), (5, .int v5), (6, .int v6), (7, .int v7)], [.int ((Int32.ofInt 4) * v7), .ref 179, .int v5], 0, 0) 127 4 (fun _ => rfl) h) ?_
              obtain ⟨z27, hz27⟩ : ∃ z : Int32, z = (Int32.ofInt 4) * v7 := ⟨_, rfl⟩
              refine pj_X_eqi hz27.symm ?_
              have fz27_0 : z27.toInt = 4 * v7.toInt := by rw [hz27]; exact pj_mulL (by decide) (by omega) (by omega)
              refine pj_X_of (fun r h => pj_R_to (G26, 129, [(8, .int v6), (0, .ref 171), (1, .int kd), (2, .int n), (3, .int f), (4, .int sp), (5, .int v5), (6, .int v6), (7, .int v7)], [.int (z27 + (Int32.ofInt 3)), .ref 179, .int v5], 0, 0) 129 3 (fun _ => rfl) h) ?_
              obtain ⟨z28, hz28⟩ : ∃ z : Int32, z = z27 + (Int32.ofInt 3) := ⟨_, rfl⟩
              refine pj_X_eqi hz28.symm ?_
              have fz28_0 : z28.toInt = z27.toInt + (Int32.ofInt 3).toInt := by rw [hz28]; exact pj_addI (by have := pj_i32 z27; have := pj_i32 (Int32.ofInt 3); omega) (by have := pj_i32 z27; have := pj_i32 (Int32.ofInt 3); omega)
              refine pj_X_of (fun r h => pj_T_il iG26 rfl rfl (by omega) (by omega) h) ?_
              show pj_X _ _ G26 130 [(8, .int v6), (0, .ref 171), (1, .int kd), (2, .int n), (3, .int f), (4, .int sp), (5, .int v5), (6, .int v6), (7, .int v7)] [.int (pj_ai G26 179 z28.toInt.toNat), .int v5] _
              obtain ⟨z29, hz29⟩ : ∃ z : Int32, z = pj_ai G26 179 z28.toInt.toNat := ⟨_, rfl⟩
              refine pj_X_eqi hz29.symm ?_
              have ez29 : (pj_ai G26 179 z28.toInt.toNat).toInt = z29.toInt := by rw [hz29]
              refine pj_X_of (fun r h => pj_R_to (G26, 131, [(8, .int v6), (0, .ref 171), (1, .int kd), (2, .int n), (3, .int f), (4, .int sp), (5, .int v5), (6, .int v6), (7, .int v7)], [.int (v5 + z29)], 0, 0) 131 2 (fun _ => rfl) h) ?_
              obtain ⟨z30, hz30⟩ : ∃ z : Int32, z = v5 + z29 := ⟨_, rfl⟩
              refine pj_X_eqi hz30.symm ?_
              refine pj_X_of (fun r h => pj_R_to (G26, 138, [(5, .int z30), (8, .int v6), (0, .ref 171), (1, .int kd), (2, .int n), (3, .int f), (4, .int sp), (6, .int v6), (7, .int v7)], [.int (v6 + sp)], 0, 0) 138 5 (fun _ => rfl) h) ?_
              obtain ⟨z31, hz31⟩ : ∃ z : Int32, z = v6 + sp := ⟨_, rfl⟩
              refine pj_X_eqi hz31.symm ?_
              refine pj_X_of (fun r h => pj_R_to (G26, 143, [(7, .int (v7 + Int32.ofInt 1)), (6, .int z31), (5, .int z30), (8, .int v6), (0, .ref 171), (1, .int kd), (2, .int n), (3, .int f), (4, .int sp)], [], 0, 0) 143 3 (fun _ => rfl) h) ?_
              obtain ⟨z32, hz32⟩ : ∃ z : Int32, z = v7 + Int32.ofInt 1 := ⟨_, rfl⟩
              rw [← hz32]
              have fz32_0 : z32.toInt = v7.toInt + (Int32.ofInt 1).toInt := by rw [hz32]; exact pj_addI (by have := pj_i32 v7; have := pj_i32 (Int32.ofInt 1); omega) (by have := pj_i32 v7; have := pj_i32 (Int32.ofInt 1); omega)
              refine pj_X_of (fun r h => pj_R_to (G26, 46, [(7, .int z32), (6, .int z31), (5, .int z30), (8, .int v6), (0, .ref 171), (1, .int kd), (2, .int n), (3, .int f), (4, .int sp)], [], 0, 0) 46 2 (fun _ => rfl) h) ?_
              exact pj_X_sub [(0, .ref 171), (1, .int kd), (2, .int n), (3, .int f), (4, .int sp), (5, .int z30), (6, .int z31), (7, .int z32)] (show List.Nodup [0, 1, 2, 3, 4, 5, 6, 7] by decide) ⟨rfl, rfl, rfl, rfl, rfl, rfl, rfl, rfl, trivial⟩ (ih G26 iG26 kG26 z30 z31 z32 (pj_i32 _) (pj_i32 _) ⟨by omega, by omega⟩ (by omega))
        | false =>
          have ub5 := pj_u_neF b5
          refine pj_X_of (fun r h => pj_R_icF rfl b5 h) ?_
          refine pj_X_of (fun r h => pj_R_to (G, 73, [(0, .ref 171), (1, .int kd), (2, .int n), (3, .int f), (4, .int sp), (5, .int v5), (6, .int v6), (7, .int v7)], [.int v6.toInt16.toInt32], 0, 0) 73 3 (fun _ => rfl) h) ?_
          obtain ⟨z33, hz33⟩ : ∃ z : Int32, z = v6.toInt16.toInt32 := ⟨_, rfl⟩
          refine pj_X_eqi hz33.symm ?_
          refine pj_X_of (fun r h => pj_R_to (G, 81, [(8, .int z33), (0, .ref 171), (1, .int kd), (2, .int n), (3, .int f), (4, .int sp), (5, .int v5), (6, .int v6), (7, .int v7)], [.ref 171], 0, 0) 81 4 (fun _ => rfl) h) ?_
          refine pj_X_of (fun r h => pj_T_gr hI rfl rfl rfl h) ?_
          refine pj_X_of (fun r h => pj_R_to (G, 88, [(8, .int z33), (0, .ref 171), (1, .int kd), (2, .int n), (3, .int f), (4, .int sp), (5, .int v5), (6, .int v6), (7, .int v7)], [.int ((Int32.ofInt 4) * v7), .ref 179], 0, 0) 88 4 (fun _ => rfl) h) ?_
          obtain ⟨z34, hz34⟩ : ∃ z : Int32, z = (Int32.ofInt 4) * v7 := ⟨_, rfl⟩
          refine pj_X_eqi hz34.symm ?_
          have fz34_0 : z34.toInt = 4 * v7.toInt := by rw [hz34]; exact pj_mulL (by decide) (by omega) (by omega)
          refine pj_X_of (fun r h => pj_R_to (G, 90, [(8, .int z33), (0, .ref 171), (1, .int kd), (2, .int n), (3, .int f), (4, .int sp), (5, .int v5), (6, .int v6), (7, .int v7)], [.int (z34 + (Int32.ofInt 3)), .ref 179], 0, 0) 90 3 (fun _ => rfl) h) ?_
          obtain ⟨z35, hz35⟩ : ∃ z : Int32, z = z34 + (Int32.ofInt 3) := ⟨_, rfl⟩
          refine pj_X_eqi hz35.symm ?_
          have fz35_0 : z35.toInt = z34.toInt + (Int32.ofInt 3).toInt := by rw [hz35]; exact pj_addI (by have := pj_i32 z34; have := pj_i32 (Int32.ofInt 3); omega) (by have := pj_i32 z34; have := pj_i32 (Int32.ofInt 3); omega)
          refine pj_X_of (fun r h => pj_R_to (G, 92, [(8, .int z33), (0, .ref 171), (1, .int kd), (2, .int n), (3, .int f), (4, .int sp), (5, .int v5), (6, .int v6), (7, .int v7)], [.int (Int32.ofInt 3), .int kd, .int z35, .ref 179], 0, 0) 92 3 (fun _ => rfl) h) ?_
          refine pj_X_of (fun r h => pj_R_icF rfl (pj_b_eqF (by omega)) h) ?_
          refine pj_X_of (fun r h => pj_R_to (G, 98, [(8, .int z33), (0, .ref 171), (1, .int kd), (2, .int n), (3, .int f), (4, .int sp), (5, .int v5), (6, .int v6), (7, .int v7)], [.int n, .int v7, .int z35, .ref 179], 0, 0) 98 3 (fun _ => rfl) h) ?_
          cases b36 : pj_c1 .lt v7 n with
          | true =>
            have ub36 := pj_u_ltT b36
            refine pj_X_of (fun r h => pj_R_icT 105 rfl rfl b36 h) ?_
            refine pj_X_of (fun r h => pj_R_to (G, 110, [(8, .int z33), (0, .ref 171), (1, .int kd), (2, .int n), (3, .int f), (4, .int sp), (5, .int v5), (6, .int v6), (7, .int v7)], [.int z33, .int ((Int8.ofInt 9).toInt32), .int (Int32.ofInt 0), .int z35, .ref 179], 0, 0) 110 4 (fun _ => rfl) h) ?_
            refine pj_X_of (fun r h => pj_R_mn (v := (if z33 < ((Int8.ofInt 9).toInt32) then z33 else ((Int8.ofInt 9).toInt32))) rfl rfl rfl (Nat.le_of_ble_eq_true rfl) h) ?_
            show pj_X _ _ G 113 [(8, .int z33), (0, .ref 171), (1, .int kd), (2, .int n), (3, .int f), (4, .int sp), (5, .int v5), (6, .int v6), (7, .int v7)] [.int (if z33 < ((Int8.ofInt 9).toInt32) then z33 else ((Int8.ofInt 9).toInt32)), .int (Int32.ofInt 0), .int z35, .ref 179] _
            obtain ⟨z37, hz37⟩ : ∃ z : Int32, z = (if z33 < ((Int8.ofInt 9).toInt32) then z33 else ((Int8.ofInt 9).toInt32)) := ⟨_, rfl⟩
            refine pj_X_eqi hz37.symm ?_
            have fz37_0 : z37.toInt ≤ ((Int8.ofInt 9).toInt32).toInt ∧ z37.toInt ≤ z33.toInt ∧ (z37.toInt = ((Int8.ofInt 9).toInt32).toInt ∨ z37.toInt = z33.toInt) := by rw [hz37]; exact pj_minI
            refine pj_X_of (fun r h => pj_R_mx (v := (if (Int32.ofInt 0) < z37 then z37 else (Int32.ofInt 0))) rfl rfl rfl (Nat.le_of_ble_eq_true rfl) h) ?_
            show pj_X _ _ G 116 [(8, .int z33), (0, .ref 171), (1, .int kd), (2, .int n), (3, .int f), (4, .int sp), (5, .int v5), (6, .int v6), (7, .int v7)] [.int (if (Int32.ofInt 0) < z37 then z37 else (Int32.ofInt 0)), .int z35, .ref 179] _
            obtain ⟨z38, hz38⟩ : ∃ z : Int32, z = (if (Int32.ofInt 0) < z37 then z37 else (Int32.ofInt 0)) := ⟨_, rfl⟩
            refine pj_X_eqi hz38.symm ?_
            have fz38_0 : (Int32.ofInt 0).toInt ≤ z38.toInt ∧ z37.toInt ≤ z38.toInt ∧ (z38.toInt = (Int32.ofInt 0).toInt ∨ z38.toInt = z37.toInt) := by rw [hz38]; exact pj_maxI
            refine pj_X_of (fun r h => pj_T_is hI rfl rfl (by omega) (by omega) h) ?_
            show pj_X _ _ (pj_wa G 179 z35.toInt.toNat z38) 117 [(8, .int z33), (0, .ref 171), (1, .int kd), (2, .int n), (3, .int f), (4, .int sp), (5, .int v5), (6, .int v6), (7, .int v7)] [] _
            obtain ⟨G39, hG39⟩ : ∃ H, H = pj_wa G 179 z35.toInt.toNat z38 := ⟨_, rfl⟩
            have iG39 : pj_Inv G39 := by rw [hG39]; exact pj_Inv_wa hI rfl (fun q hq => by cases hq) (fun n hn => ⟨fun h1 => ⟨fun h2 => by omega, fun h2 => by omega⟩, fun h1 => by omega⟩)
            have kG39 : pj_kpt kc_213 G0 G39 := by rw [hG39]; exact pj_kpt_a hK rfl
            rw [← hG39]
            refine pj_X_of (fun r h => pj_R_to (G39, 120, [(8, .int z33), (0, .ref 171), (1, .int kd), (2, .int n), (3, .int f), (4, .int sp), (5, .int v5), (6, .int v6), (7, .int v7)], [.ref 171, .int v5], 0, 0) 120 3 (fun _ => rfl) h) ?_
            refine pj_X_of (fun r h => pj_T_gr iG39 rfl rfl rfl h) ?_
            refine pj_X_of (fun r h => pj_R_to (G39, 127, [(8, .int z33), (0, .ref 171), (1, .int kd), (2, .int n), (3, .int f), (4, .int sp), (5, .int v5), (6, .int v6), (7, .int v7)], [.int ((Int32.ofInt 4) * v7), .ref 179, .int v5], 0, 0) 127 4 (fun _ => rfl) h) ?_
            obtain ⟨z40, hz40⟩ : ∃ z : Int32, z = (Int32.ofInt 4) * v7 := ⟨_, rfl⟩
            refine pj_X_eqi hz40.symm ?_
            have fz40_0 : z40.toInt = 4 * v7.toInt := by rw [hz40]; exact pj_mulL (by decide) (by omega) (by omega)
            refine pj_X_of (fun r h => pj_R_to (G39, 129, [(8, .int z33), (0, .ref 171), (1, .int kd), (2, .int n), (3, .int f), (4, .int sp), (5, .int v5), (6, .int v6), (7, .int v7)], [.int (z40 + (Int32.ofInt 3)), .ref 179, .int v5], 0, 0) 129 3 (fun _ => rfl) h) ?_
            obtain ⟨z41, hz41⟩ : ∃ z : Int32, z = z40 + (Int32.ofInt 3) := ⟨_, rfl⟩
            refine pj_X_eqi hz41.symm ?_
            have fz41_0 : z41.toInt = z40.toInt + (Int32.ofInt 3).toInt := by rw [hz41]; exact pj_addI (by have := pj_i32 z40; have := pj_i32 (Int32.ofInt 3); omega) (by have := pj_i32 z40; have := pj_i32 (Int32.ofInt 3); omega)
            refine pj_X_of (fun r h => pj_T_il iG39 rfl rfl (by omega) (by omega) h) ?_
            show pj_X _ _ G39 130 [(8, .int z33), (0, .ref 171), (1, .int kd), (2, .int n), (3, .int f), (4, .int sp), (5, .int v5), (6, .int v6), (7, .int v7)] [.int (pj_ai G39 179 z41.toInt.toNat), .int v5] _
            obtain ⟨z42, hz42⟩ : ∃ z : Int32, z = pj_ai G39 179 z41.toInt.toNat := ⟨_, rfl⟩
            refine pj_X_eqi hz42.symm ?_
            have ez42 : (pj_ai G39 179 z41.toInt.toNat).toInt = z42.toInt := by rw [hz42]
            refine pj_X_of (fun r h => pj_R_to (G39, 131, [(8, .int z33), (0, .ref 171), (1, .int kd), (2, .int n), (3, .int f), (4, .int sp), (5, .int v5), (6, .int v6), (7, .int v7)], [.int (v5 + z42)], 0, 0) 131 2 (fun _ => rfl) h) ?_
            obtain ⟨z43, hz43⟩ : ∃ z : Int32, z = v5 + z42 := ⟨_, rfl⟩
            refine pj_X_eqi hz43.symm ?_
            refine pj_X_of (fun r h => pj_R_to (G39, 138, [(5, .int z43), (8, .int z33), (0, .ref 171), (1, .int kd), (2, .int n), (3, .int f), (4, .int sp), (6, .int v6), (7, .int v7)], [.int (v6 + sp)], 0, 0) 138 5 (fun _ => rfl) h) ?_
            obtain ⟨z44, hz44⟩ : ∃ z : Int32, z = v6 + sp := ⟨_, rfl⟩
            refine pj_X_eqi hz44.symm ?_
            refine pj_X_of (fun r h => pj_R_to (G39, 143, [(7, .int (v7 + Int32.ofInt 1)), (6, .int z44), (5, .int z43), (8, .int z33), (0, .ref 171), (1, .int kd), (2, .int n), (3, .int f), (4, .int sp)], [], 0, 0) 143 3 (fun _ => rfl) h) ?_
            obtain ⟨z45, hz45⟩ : ∃ z : Int32, z = v7 + Int32.ofInt 1 := ⟨_, rfl⟩
            rw [← hz45]
            have fz45_0 : z45.toInt = v7.toInt + (Int32.ofInt 1).toInt := by rw [hz45]; exact pj_addI (by have := pj_i32 v7; have := pj_i32 (Int32.ofInt 1); omega) (by have := pj_i32 v7; have := pj_i32 (Int32.ofInt 1); omega)
            refine pj_X_of (fun r h => pj_R_to (G39, 46, [(7, .int z45), (6, .int z44), (5, .int z43), (8, .int z33), (0, .ref 171), (1, .int kd), (2, .int n), (3, .int f), (4, .int sp)], [], 0, 0) 46 2 (fun _ => rfl) h) ?_
            exact pj_X_sub [(0, .ref 171), (1, .int kd), (2, .int n), (3, .int f), (4, .int sp), (5, .int z43), (6, .int z44), (7, .int z45)] (show List.Nodup [0, 1, 2, 3, 4, 5, 6, 7] by decide) ⟨rfl, rfl, rfl, rfl, rfl, rfl, rfl, rfl, trivial⟩ (ih G39 iG39 kG39 z43 z44 z45 (pj_i32 _) (pj_i32 _) ⟨by omega, by omega⟩ (by omega))
          | false =>
            have ub36 := pj_u_ltF b36
            refine pj_X_of (fun r h => pj_R_icF rfl b36 h) ?_
            refine pj_X_of (fun r h => pj_R_to (G, 116, [(8, .int z33), (0, .ref 171), (1, .int kd), (2, .int n), (3, .int f), (4, .int sp), (5, .int v5), (6, .int v6), (7, .int v7)], [.int (Int32.ofInt 0), .int z35, .ref 179], 0, 0) 116 3 (fun _ => rfl) h) ?_
            refine pj_X_of (fun r h => pj_T_is hI rfl rfl (by omega) (by omega) h) ?_
            show pj_X _ _ (pj_wa G 179 z35.toInt.toNat (Int32.ofInt 0)) 117 [(8, .int z33), (0, .ref 171), (1, .int kd), (2, .int n), (3, .int f), (4, .int sp), (5, .int v5), (6, .int v6), (7, .int v7)] [] _
            obtain ⟨G46, hG46⟩ : ∃ H, H = pj_wa G 179 z35.toInt.toNat (Int32.ofInt 0) := ⟨_, rfl⟩
            have iG46 : pj_Inv G46 := by rw [hG46]; exact pj_Inv_wa hI rfl (fun q hq => by cases hq) (fun n hn => ⟨fun h1 => ⟨fun h2 => by omega, fun h2 => by omega⟩, fun h1 => by omega⟩)
            have kG46 : pj_kpt kc_213 G0 G46 := by rw [hG46]; exact pj_kpt_a hK rfl
            rw [← hG46]
            refine pj_X_of (fun r h => pj_R_to (G46, 120, [(8, .int z33), (0, .ref 171), (1, .int kd), (2, .int n), (3, .int f), (4, .int sp), (5, .int v5), (6, .int v6), (7, .int v7)], [.ref 171, .int v5], 0, 0) 120 3 (fun _ => rfl) h) ?_
            refine pj_X_of (fun r h => pj_T_gr iG46 rfl rfl rfl h) ?_
            refine pj_X_of (fun r h => pj_R_to (G46, 127, [(8, .int z33), (0, .ref 171), (1, .int kd), (2, .int n), (3, .int f), (4, .int sp), (5, .int v5), (6, .int v6), (7, .int v7)], [.int ((Int32.ofInt 4) * v7), .ref 179, .int v5], 0, 0) 127 4 (fun _ => rfl) h) ?_
            obtain ⟨z47, hz47⟩ : ∃ z : Int32, z = (Int32.ofInt 4) * v7 := ⟨_, rfl⟩
            refine pj_X_eqi hz47.symm ?_
            have fz47_0 : z47.toInt = 4 * v7.toInt := by rw [hz47]; exact pj_mulL (by decide) (by omega) (by omega)
            refine pj_X_of (fun r h => pj_R_to (G46, 129, [(8, .int z33), (0, .ref 171), (1, .int kd), (2, .int n), (3, .int f), (4, .int sp), (5, .int v5), (6, .int v6), (7, .int v7)], [.int (z47 + (Int32.ofInt 3)), .ref 179, .int v5], 0, 0) 129 3 (fun _ => rfl) h) ?_
            obtain ⟨z48, hz48⟩ : ∃ z : Int32, z = z47 + (Int32.ofInt 3) := ⟨_, rfl⟩
            refine pj_X_eqi hz48.symm ?_
            have fz48_0 : z48.toInt = z47.toInt + (Int32.ofInt 3).toInt := by rw [hz48]; exact pj_addI (by have := pj_i32 z47; have := pj_i32 (Int32.ofInt 3); omega) (by have := pj_i32 z47; have := pj_i32 (Int32.ofInt 3); omega)
            refine pj_X_of (fun r h => pj_T_il iG46 rfl rfl (by omega) (by omega) h) ?_
            show pj_X _ _ G46 130 [(8, .int z33), (0, .ref 171), (1, .int kd), (2, .int n), (3, .int f), (4, .int sp), (5, .int v5), (6, .int v6), (7, .int v7)] [.int (pj_ai G46 179 z48.toInt.toNat), .int v5] _
            obtain ⟨z49, hz49⟩ : ∃ z : Int32, z = pj_ai G46 179 z48.toInt.toNat := ⟨_, rfl⟩
            refine pj_X_eqi hz49.symm ?_
            have ez49 : (pj_ai G46 179 z48.toInt.toNat).toInt = z49.toInt := by rw [hz49]
            refine pj_X_of (fun r h => pj_R_to (G46, 131, [(8, .int z33), (0, .ref 171), (1, .int kd), (2, .int n), (3, .int f), (4, .int sp), (5, .int v5), (6, .int v6), (7, .int v7)], [.int (v5 + z49)], 0, 0) 131 2 (fun _ => rfl) h) ?_
            obtain ⟨z50, hz50⟩ : ∃ z : Int32, z = v5 + z49 := ⟨_, rfl⟩
            refine pj_X_eqi hz50.symm ?_
            refine pj_X_of (fun r h => pj_R_to (G46, 138, [(5, .int z50), (8, .int z33), (0, .ref 171), (1, .int kd), (2, .int n), (3, .int f), (4, .int sp), (6, .int v6), (7, .int v7)], [.int (v6 + sp)], 0, 0) 138 5 (fun _ => rfl) h) ?_
            obtain ⟨z51, hz51⟩ : ∃ z : Int32, z = v6 + sp := ⟨_, rfl⟩
            refine pj_X_eqi hz51.symm ?_
            refine pj_X_of (fun r h => pj_R_to (G46, 143, [(7, .int (v7 + Int32.ofInt 1)), (6, .int z51), (5, .int z50), (8, .int z33), (0, .ref 171), (1, .int kd), (2, .int n), (3, .int f), (4, .int sp)], [], 0, 0) 143 3 (fun _ => rfl) h) ?_
            obtain ⟨z52, hz52⟩ : ∃ z : Int32, z = v7 + Int32.ofInt 1 := ⟨_, rfl⟩
            rw [← hz52]
            have fz52_0 : z52.toInt = v7.toInt + (Int32.ofInt 1).toInt := by rw [hz52]; exact pj_addI (by have := pj_i32 v7; have := pj_i32 (Int32.ofInt 1); omega) (by have := pj_i32 v7; have := pj_i32 (Int32.ofInt 1); omega)
            refine pj_X_of (fun r h => pj_R_to (G46, 46, [(7, .int z52), (6, .int z51), (5, .int z50), (8, .int z33), (0, .ref 171), (1, .int kd), (2, .int n), (3, .int f), (4, .int sp)], [], 0, 0) 46 2 (fun _ => rfl) h) ?_
            exact pj_X_sub [(0, .ref 171), (1, .int kd), (2, .int n), (3, .int f), (4, .int sp), (5, .int z50), (6, .int z51), (7, .int z52)] (show List.Nodup [0, 1, 2, 3, 4, 5, 6, 7] by decide) ⟨rfl, rfl, rfl, rfl, rfl, rfl, rfl, rfl, trivial⟩ (ih G46 iG46 kG46 z50 z51 z52 (pj_i32 _) (pj_i32 _) ⟨by omega, by omega⟩ (by omega))
      | false =>
        have ub4 := pj_u0_neF b4
        refine pj_X_of (fun r h => pj_R_ifF rfl b4 h) ?_
        refine pj_X_of (fun r h => pj_R_to (G, 62, [(0, .ref 171), (1, .int kd), (2, .int n), (3, .int f), (4, .int sp), (5, .int v5), (6, .int v6), (7, .int v7)], [.int v6.toInt8.toInt32], 0, 0) 62 3 (fun _ => rfl) h) ?_
        obtain ⟨z53, hz53⟩ : ∃ z : Int32, z = v6.toInt8.toInt32 := ⟨_, rfl⟩
        refine pj_X_eqi hz53.symm ?_
        refine pj_X_of (fun r h => pj_R_to (G, 81, [(8, .int z53), (0, .ref 171), (1, .int kd), (2, .int n), (3, .int f), (4, .int sp), (5, .int v5), (6, .int v6), (7, .int v7)], [.ref 171], 0, 0) 81 4 (fun _ => rfl) h) ?_
        refine pj_X_of (fun r h => pj_T_gr hI rfl rfl rfl h) ?_
        refine pj_X_of (fun r h => pj_R_to (G, 88, [(8, .int z53), (0, .ref 171), (1, .int kd), (2, .int n), (3, .int f), (4, .int sp), (5, .int v5), (6, .int v6), (7, .int v7)], [.int ((Int32.ofInt 4) * v7), .ref 179], 0, 0) 88 4 (fun _ => rfl) h) ?_
        obtain ⟨z54, hz54⟩ : ∃ z : Int32, z = (Int32.ofInt 4) * v7 := ⟨_, rfl⟩
        refine pj_X_eqi hz54.symm ?_
        have fz54_0 : z54.toInt = 4 * v7.toInt := by rw [hz54]; exact pj_mulL (by decide) (by omega) (by omega)
        refine pj_X_of (fun r h => pj_R_to (G, 90, [(8, .int z53), (0, .ref 171), (1, .int kd), (2, .int n), (3, .int f), (4, .int sp), (5, .int v5), (6, .int v6), (7, .int v7)], [.int (z54 + (Int32.ofInt 3)), .ref 179], 0, 0) 90 3 (fun _ => rfl) h) ?_
        obtain ⟨z55, hz55⟩ : ∃ z : Int32, z = z54 + (Int32.ofInt 3) := ⟨_, rfl⟩
        refine pj_X_eqi hz55.symm ?_
        have fz55_0 : z55.toInt = z54.toInt + (Int32.ofInt 3).toInt := by rw [hz55]; exact pj_addI (by have := pj_i32 z54; have := pj_i32 (Int32.ofInt 3); omega) (by have := pj_i32 z54; have := pj_i32 (Int32.ofInt 3); omega)
        refine pj_X_of (fun r h => pj_R_to (G, 92, [(8, .int z53), (0, .ref 171), (1, .int kd), (2, .int n), (3, .int f), (4, .int sp), (5, .int v5), (6, .int v6), (7, .int v7)], [.int (Int32.ofInt 3), .int kd, .int z55, .ref 179], 0, 0) 92 3 (fun _ => rfl) h) ?_
        refine pj_X_of (fun r h => pj_R_icF rfl (pj_b_eqF (by omega)) h) ?_
        refine pj_X_of (fun r h => pj_R_to (G, 98, [(8, .int z53), (0, .ref 171), (1, .int kd), (2, .int n), (3, .int f), (4, .int sp), (5, .int v5), (6, .int v6), (7, .int v7)], [.int n, .int v7, .int z55, .ref 179], 0, 0) 98 3 (fun _ => rfl) h) ?_
        cases b56 : pj_c1 .lt v7 n with
        | true =>
          have ub56 := pj_u_ltT b56
          refine pj_X_of (fun r h => pj_R_icT 105 rfl rfl b56 h) ?_
          refine pj_X_of (fun r h => pj_R_to (G, 110, [(8, .int z53), (0, .ref 171), (1, .int kd), (2, .int n), (3, .int f), (4, .int sp), (5, .int v5), (6, .int v6), (7, .int v7)], [.int z53, .int ((Int8.ofInt 9).toInt32), .int (Int32.ofInt 0), .int z55, .ref 179], 0, 0) 110 4 (fun _ => rfl) h) ?_
          refine pj_X_of (fun r h => pj_R_mn (v := (if z53 < ((Int8.ofInt 9).toInt32) then z53 else ((Int8.ofInt 9).toInt32))) rfl rfl rfl (Nat.le_of_ble_eq_true rfl) h) ?_
          show pj_X _ _ G 113 [(8, .int z53), (0, .ref 171), (1, .int kd), (2, .int n), (3, .int f), (4, .int sp), (5, .int v5), (6, .int v6), (7, .int v7)] [.int (if z53 < ((Int8.ofInt 9).toInt32) then z53 else ((Int8.ofInt 9).toInt32)), .int (Int32.ofInt 0), .int z55, .ref 179] _
          obtain ⟨z57, hz57⟩ : ∃ z : Int32, z = (if z53 < ((Int8.ofInt 9).toInt32) then z53 else ((Int8.ofInt 9).toInt32)) := ⟨_, rfl⟩
          refine pj_X_eqi hz57.symm ?_
          have fz57_0 : z57.toInt ≤ ((Int8.ofInt 9).toInt32).toInt ∧ z57.toInt ≤ z53.toInt ∧ (z57.toInt = ((Int8.ofInt 9).toInt32).toInt ∨ z57.toInt = z53.toInt) := by rw [hz57]; exact pj_minI
          refine pj_X_of (fun r h => pj_R_mx (v := (if (Int32.ofInt 0) < z57 then z57 else (Int32.ofInt 0))) rfl rfl rfl (Nat.le_of_ble_eq_true rfl) h) ?_
          show pj_X _ _ G 116 [(8, .int z53), (0, .ref 171), (1, .int kd), (2, .int n), (3, .int f), (4, .int sp), (5, .int v5), (6, .int v6), (7, .int v7)] [.int (if (Int32.ofInt 0) < z57 then z57 else (Int32.ofInt 0)), .int z55, .ref 179] _
          obtain ⟨z58, hz58⟩ : ∃ z : Int32, z = (if (Int32.ofInt 0) < z57 then z57 else (Int32.ofInt 0)) := ⟨_, rfl⟩
          refine pj_X_eqi hz58.symm ?_
          have fz58_0 : (Int32.ofInt 0).toInt ≤ z58.toInt ∧ z57.toInt ≤ z58.toInt ∧ (z58.toInt = (Int32.ofInt 0).toInt ∨ z58.toInt = z57.toInt) := by rw [hz58]; exact pj_maxI
          refine pj_X_of (fun r h => pj_T_is hI rfl rfl (by omega) (by omega) h) ?_
          show pj_X _ _ (pj_wa G 179 z55.toInt.toNat z58) 117 [(8, .int z53), (0, .ref 171), (1, .int kd), (2, .int n), (3, .int f), (4, .int sp), (5, .int v5), (6, .int v6), (7, .int v7)] [] _
          obtain ⟨G59, hG59⟩ : ∃ H, H = pj_wa G 179 z55.toInt.toNat z58 := ⟨_, rfl⟩
          have iG59 : pj_Inv G59 := by rw [hG59]; exact pj_Inv_wa hI rfl (fun q hq => by cases hq) (fun n hn => ⟨fun h1 => ⟨fun h2 => by omega, fun h2 => by omega⟩, fun h1 => by omega⟩)
          have kG59 : pj_kpt kc_213 G0 G59 := by rw [hG59]; exact pj_kpt_a hK rfl
          rw [← hG59]
          refine pj_X_of (fun r h => pj_R_to (G59, 120, [(8, .int z53), (0, .ref 171), (1, .int kd), (2, .int n), (3, .int f), (4, .int sp), (5, .int v5), (6, .int v6), (7, .int v7)], [.ref 171, .int v5], 0, 0) 120 3 (fun _ => rfl) h) ?_
          refine pj_X_of (fun r h => pj_T_gr iG59 rfl rfl rfl h) ?_
          refine pj_X_of (fun r h => pj_R_to (G59, 127, [(8, .int z53), (0, .ref 171), (1, .int kd), (2, .int n), (3, .int f), (4, .int sp), (5, .int v5), (6, .int v6), (7, .int v7)], [.int ((Int32.ofInt 4) * v7), .ref 179, .int v5], 0, 0) 127 4 (fun _ => rfl) h) ?_
          obtain ⟨z60, hz60⟩ : ∃ z : Int32, z = (Int32.ofInt 4) * v7 := ⟨_, rfl⟩
          refine pj_X_eqi hz60.symm ?_
          have fz60_0 : z60.toInt = 4 * v7.toInt := by rw [hz60]; exact pj_mulL (by decide) (by omega) (by omega)
          refine pj_X_of (fun r h => pj_R_to (G59, 129, [(8, .int z53), (0, .ref 171), (1, .int kd), (2, .int n), (3, .int f), (4, .int sp), (5, .int v5), (6, .int v6), (7, .int v7)], [.int (z60 + (Int32.ofInt 3)), .ref 179, .int v5], 0, 0) 129 3 (fun _ => rfl) h) ?_
          obtain ⟨z61, hz61⟩ : ∃ z : Int32, z = z60 + (Int32.ofInt 3) := ⟨_, rfl⟩
          refine pj_X_eqi hz61.symm ?_
          have fz61_0 : z61.toInt = z60.toInt + (Int32.ofInt 3).toInt := by rw [hz61]; exact pj_addI (by have := pj_i32 z60; have := pj_i32 (Int32.ofInt 3); omega) (by have := pj_i32 z60; have := pj_i32 (Int32.ofInt 3); omega)
          refine pj_X_of (fun r h => pj_T_il iG59 rfl rfl (by omega) (by omega) h) ?_
          show pj_X _ _ G59 130 [(8, .int z53), (0, .ref 171), (1, .int kd), (2, .int n), (3, .int f), (4, .int sp), (5, .int v5), (6, .int v6), (7, .int v7)] [.int (pj_ai G59 179 z61.toInt.toNat), .int v5] _
          obtain ⟨z62, hz62⟩ : ∃ z : Int32, z = pj_ai G59 179 z61.toInt.toNat := ⟨_, rfl⟩
          refine pj_X_eqi hz62.symm ?_
          have ez62 : (pj_ai G59 179 z61.toInt.toNat).toInt = z62.toInt := by rw [hz62]
          refine pj_X_of (fun r h => pj_R_to (G59, 131, [(8, .int z53), (0, .ref 171), (1, .int kd), (2, .int n), (3, .int f), (4, .int sp), (5, .int v5), (6, .int v6), (7, .int v7)], [.int (v5 + z62)], 0, 0) 131 2 (fun _ => rfl) h) ?_
          obtain ⟨z63, hz63⟩ : ∃ z : Int32, z = v5 + z62 := ⟨_, rfl⟩
          refine pj_X_eqi hz63.symm ?_
          refine pj_X_of (fun r h => pj_R_to (G59, 138, [(5, .int z63), (8, .int z53), (0, .ref 171), (1, .int kd), (2, .int n), (3, .int f), (4, .int sp), (6, .int v6), (7, .int v7)], [.int (v6 + sp)], 0, 0) 138 5 (fun _ => rfl) h) ?_
          obtain ⟨z64, hz64⟩ : ∃ z : Int32, z = v6 + sp := ⟨_, rfl⟩
          refine pj_X_eqi hz64.symm ?_
          refine pj_X_of (fun r h => pj_R_to (G59, 143, [(7, .int (v7 + Int32.ofInt 1)), (6, .int z64), (5, .int z63), (8, .int z53), (0, .ref 171), (1, .int kd), (2, .int n), (3, .int f), (4, .int sp)], [], 0, 0) 143 3 (fun _ => rfl) h) ?_
          obtain ⟨z65, hz65⟩ : ∃ z : Int32, z = v7 + Int32.ofInt 1 := ⟨_, rfl⟩
          rw [← hz65]
          have fz65_0 : z65.toInt = v7.toInt + (Int32.ofInt 1).toInt := by rw [hz65]; exact pj_addI (by have := pj_i32 v7; have := pj_i32 (Int32.ofInt 1); omega) (by have := pj_i32 v7; have := pj_i32 (Int32.ofInt 1); omega)
          refine pj_X_of (fun r h => pj_R_to (G59, 46, [(7, .int z65), (6, .int z64), (5, .int z63), (8, .int z53), (0, .ref 171), (1, .int kd), (2, .int n), (3, .int f), (4, .int sp)], [], 0, 0) 46 2 (fun _ => rfl) h) ?_
          exact pj_X_sub [(0, .ref 171), (1, .int kd), (2, .int n), (3, .int f), (4, .int sp), (5, .int z63), (6, .int z64), (7, .int z65)] (show List.Nodup [0, 1, 2, 3, 4, 5, 6, 7] by decide) ⟨rfl, rfl, rfl, rfl, rfl, rfl, rfl, rfl, trivial⟩ (ih G59 iG59 kG59 z63 z64 z65 (pj_i32 _) (pj_i32 _) ⟨by omega, by omega⟩ (by omega))
        | false =>
          have ub56 := pj_u_ltF b56
          refine pj_X_of (fun r h => pj_R_icF rfl b56 h) ?_
          refine pj_X_of (fun r h => pj_R_to (G, 116, [(8, .int z53), (0, .ref 171), (1, .int kd), (2, .int n), (3, .int f), (4, .int sp), (5, .int v5), (6, .int v6), (7, .int v7)], [.int (Int32.ofInt 0), .int z55, .ref 179], 0, 0) 116 3 (fun _ => rfl) h) ?_
          refine pj_X_of (fun r h => pj_T_is hI rfl rfl (by omega) (by omega) h) ?_
          show pj_X _ _ (pj_wa G 179 z55.toInt.toNat (Int32.ofInt 0)) 117 [(8, .int z53), (0, .ref 171), (1, .int kd), (2, .int n), (3, .int f), (4, .int sp), (5, .int v5), (6, .int v6), (7, .int v7)] [] _
          obtain ⟨G66, hG66⟩ : ∃ H, H = pj_wa G 179 z55.toInt.toNat (Int32.ofInt 0) := ⟨_, rfl⟩
          have iG66 : pj_Inv G66 := by rw [hG66]; exact pj_Inv_wa hI rfl (fun q hq => by cases hq) (fun n hn => ⟨fun h1 => ⟨fun h2 => by omega, fun h2 => by omega⟩, fun h1 => by omega⟩)
          have kG66 : pj_kpt kc_213 G0 G66 := by rw [hG66]; exact pj_kpt_a hK rfl
          rw [← hG66]
          refine pj_X_of (fun r h => pj_R_to (G66, 120, [(8, .int z53), (0, .ref 171), (1, .int kd), (2, .int n), (3, .int f), (4, .int sp), (5, .int v5), (6, .int v6), (7, .int v7)], [.ref 171, .int v5], 0, 0) 120 3 (fun _ => rfl) h) ?_
          refine pj_X_of (fun r h => pj_T_gr iG66 rfl rfl rfl h) ?_
          refine pj_X_of (fun r h => pj_R_to (G66, 127, [(8, .int z53), (0, .ref 171), (1, .int kd), (2, .int n), (3, .int f), (4, .int sp), (5, .int v5), (6, .int v6), (7, .int v7)], [.int ((Int32.ofInt 4) * v7), .ref 179, .int v5], 0, 0) 127 4 (fun _ => rfl) h) ?_
          obtain ⟨z67, hz67⟩ : ∃ z : Int32, z = (Int32.ofInt 4) * v7 := ⟨_, rfl⟩
          refine pj_X_eqi hz67.symm ?_
          have fz67_0 : z67.toInt = 4 * v7.toInt := by rw [hz67]; exact pj_mulL (by decide) (by omega) (by omega)
          refine pj_X_of (fun r h => pj_R_to (G66, 129, [(8, .int z53), (0, .ref 171), (1, .int kd), (2, .int n), (3, .int f), (4, .int sp), (5, .int v5), (6, .int v6), (7, .int v7)], [.int (z67 + (Int32.ofInt 3)), .ref 179, .int v5], 0, 0) 129 3 (fun _ => rfl) h) ?_
          obtain ⟨z68, hz68⟩ : ∃ z : Int32, z = z67 + (Int32.ofInt 3) := ⟨_, rfl⟩
          refine pj_X_eqi hz68.symm ?_
          have fz68_0 : z68.toInt = z67.toInt + (Int32.ofInt 3).toInt := by rw [hz68]; exact pj_addI (by have := pj_i32 z67; have := pj_i32 (Int32.ofInt 3); omega) (by have := pj_i32 z67; have := pj_i32 (Int32.ofInt 3); omega)
          refine pj_X_of (fun r h => pj_T_il iG66 rfl rfl (by omega) (by omega) h) ?_
          show pj_X _ _ G66 130 [(8, .int z53), (0, .ref 171), (1, .int kd), (2, .int n), (3, .int f), (4, .int sp), (5, .int v5), (6, .int v6), (7, .int v7)] [.int (pj_ai G66 179 z68.toInt.toNat), .int v5] _
          obtain ⟨z69, hz69⟩ : ∃ z : Int32, z = pj_ai G66 179 z68.toInt.toNat := ⟨_, rfl⟩
          refine pj_X_eqi hz69.symm ?_
          have ez69 : (pj_ai G66 179 z68.toInt.toNat).toInt = z69.toInt := by rw [hz69]
          refine pj_X_of (fun r h => pj_R_to (G66, 131, [(8, .int z53), (0, .ref 171), (1, .int kd), (2, .int n), (3, .int f), (4, .int sp), (5, .int v5), (6, .int v6), (7, .int v7)], [.int (v5 + z69)], 0, 0) 131 2 (fun _ => rfl) h) ?_
          obtain ⟨z70, hz70⟩ : ∃ z : Int32, z = v5 + z69 := ⟨_, rfl⟩
          refine pj_X_eqi hz70.symm ?_
          refine pj_X_of (fun r h => pj_R_to (G66, 138, [(5, .int z70), (8, .int z53), (0, .ref 171), (1, .int kd), (2, .int n), (3, .int f), (4, .int sp), (6, .int v6), (7, .int v7)], [.int (v6 + sp)], 0, 0) 138 5 (fun _ => rfl) h) ?_
          obtain ⟨z71, hz71⟩ : ∃ z : Int32, z = v6 + sp := ⟨_, rfl⟩
          refine pj_X_eqi hz71.symm ?_
          refine pj_X_of (fun r h => pj_R_to (G66, 143, [(7, .int (v7 + Int32.ofInt 1)), (6, .int z71), (5, .int z70), (8, .int z53), (0, .ref 171), (1, .int kd), (2, .int n), (3, .int f), (4, .int sp)], [], 0, 0) 143 3 (fun _ => rfl) h) ?_
          obtain ⟨z72, hz72⟩ : ∃ z : Int32, z = v7 + Int32.ofInt 1 := ⟨_, rfl⟩
          rw [← hz72]
          have fz72_0 : z72.toInt = v7.toInt + (Int32.ofInt 1).toInt := by rw [hz72]; exact pj_addI (by have := pj_i32 v7; have := pj_i32 (Int32.ofInt 1); omega) (by have := pj_i32 v7; have := pj_i32 (Int32.ofInt 1); omega)
          refine pj_X_of (fun r h => pj_R_to (G66, 46, [(7, .int z72), (6, .int z71), (5, .int z70), (8, .int z53), (0, .ref 171), (1, .int kd), (2, .int n), (3, .int f), (4, .int sp)], [], 0, 0) 46 2 (fun _ => rfl) h) ?_
          exact pj_X_sub [(0, .ref 171), (1, .int kd), (2, .int n), (3, .int f), (4, .int sp), (5, .int z70), (6, .int z71), (7, .int z72)] (show List.Nodup [0, 1, 2, 3, 4, 5, 6, 7] by decide) ⟨rfl, rfl, rfl, rfl, rfl, rfl, rfl, rfl, trivial⟩ (ih G66 iG66 kG66 z70 z71 z72 (pj_i32 _) (pj_i32 _) ⟨by omega, by omega⟩ (by omega))
theorem ct_213 (G0 : pj_G) (hI : pj_Inv G0) (kd : Int32) (n : Int32) (f : Int32) (sp : Int32) : pj_Y 2 213 [.ref 171, .int kd, .int n, .int f, .int sp] G0 (fun v G' => ∃ y : Int32, v = some (.int y) ∧ pj_Inv G' ∧ pj_kpt kc_213 G0 G' ∧ ((-2147483648 : Int) ≤ y.toInt ∧ y.toInt ≤ 2147483647)) := by
  have c0_ : ((Int8.ofInt (-2)).toInt32).toInt = -2 := by decide
  have c1_ : ((Int8.ofInt (-3)).toInt32).toInt = -3 := by decide
  have c2_ : ((Int8.ofInt 6).toInt32).toInt = 6 := by decide
  have c3_ : ((Int8.ofInt 9).toInt32).toInt = 9 := by decide
  have c4_ : (Int32.ofInt (-1)).toInt = -1 := by decide
  have c5_ : (Int32.ofInt 0).toInt = 0 := by decide
  have c6_ : (Int32.ofInt 1).toInt = 1 := by decide
  have c7_ : (Int32.ofInt 3).toInt = 3 := by decide
  have c8_ : (Int32.ofInt 4).toInt = 4 := by decide
  refine pj_Y_X (M := pj_m213) rfl rfl (Nat.le_of_ble_eq_true rfl) ?_
  have hK : pj_kpt kc_213 G0 G0 := pj_kpt_r _ _
  show pj_X _ _ G0 0 [(0, .ref 171), (1, .int kd), (2, .int n), (3, .int f), (4, .int sp)] [] _
  refine pj_X_of (fun r h => pj_R_to (G0, 2, [(0, .ref 171), (1, .int kd), (2, .int n), (3, .int f), (4, .int sp)], [.int (Int32.ofInt 0), .ref 171], 0, 0) 2 3 (fun _ => rfl) h) ?_
  refine pj_X_of (fun r h => pj_T_pf hI rfl rfl rfl h) ?_
  show pj_X _ _ (pj_wv G0 171 0 (.int (Int32.ofInt 0))) 5 [(0, .ref 171), (1, .int kd), (2, .int n), (3, .int f), (4, .int sp)] [] _
  obtain ⟨G73, hG73⟩ : ∃ H, H = pj_wv G0 171 0 (.int (Int32.ofInt 0)) := ⟨_, rfl⟩
  have iG73 : pj_Inv G73 := by rw [hG73]; exact pj_Inv_wi hI (ci := 12) rfl (fun q hq => by cases hq)
  have kG73 : pj_kpt kc_213 G0 G73 := by rw [hG73]; exact pj_kpt_v hK rfl
  rw [← hG73]
  refine pj_X_of (fun r h => pj_R_to (G73, 11, [(0, .ref 171), (1, .int kd), (2, .int n), (3, .int f), (4, .int sp)], [.long (Int64.ofInt 3), .long (Int64.ofNat 0), .long kd.toInt64], 0, 0) 11 5 (fun _ => rfl) h) ?_
  have lc74 : (kd.toInt64).toInt = kd.toInt := Int32.toInt_toInt64 _
  have lc75 : (Int64.ofNat 0).toInt = 0 := by decide
  have lc76 : (Int64.ofInt 3).toInt = 3 := by decide
  refine pj_X_ca (vs := [.long kd.toInt64, .long (Int64.ofNat 0), .long (Int64.ofInt 3)]) rfl (fun _ => rfl) ⟨Nat.le_of_ble_eq_true rfl, Nat.le_of_ble_eq_true rfl, rfl⟩ ⟨rfl, rfl⟩ (pj_Y_up (by decide) (ct_170 G73 iG73 kd.toInt64 (Int64.ofNat 0) (Int64.ofInt 3))) ?_
  rintro _ _ ⟨y77, rfl, rfl, ry77, ey77⟩
  show pj_X _ _ G73 14 [(0, .ref 171), (1, .int kd), (2, .int n), (3, .int f), (4, .int sp)] [.int y77] _
  cases b78 : pj_c1 .eq y77 0 with
  | true =>
    have ub78 := pj_u0_eqT b78
    refine pj_X_of (fun r h => pj_R_ifT 23 rfl rfl b78 h) ?_
    refine pj_X_of (fun r h => pj_R_to (G73, 24, [(0, .ref 171), (1, .int kd), (2, .int n), (3, .int f), (4, .int sp)], [.int (Int32.ofInt (-1))], 0, 0) 24 2 (fun _ => rfl) h) ?_
    exact pj_X_rt rfl rfl ⟨_, rfl, iG73, kG73, pj_i32 _⟩
  | false =>
    have ub78 := pj_u0_eqF b78
    refine pj_X_of (fun r h => pj_R_ifF rfl b78 h) ?_
    refine pj_X_of (fun r h => pj_R_to (G73, 20, [(0, .ref 171), (1, .int kd), (2, .int n), (3, .int f), (4, .int sp)], [.int ((Int8.ofInt 6).toInt32), .int n], 0, 0) 20 3 (fun _ => rfl) h) ?_
    cases b79 : pj_c1 .le n ((Int8.ofInt 6).toInt32) with
    | true =>
      have ub79 := pj_u_leT b79
      refine pj_X_of (fun r h => pj_R_icT 25 rfl rfl b79 h) ?_
      refine pj_X_of (fun r h => pj_R_to (G73, 27, [(0, .ref 171), (1, .int kd), (2, .int n), (3, .int f), (4, .int sp)], [.int (Int32.ofInt 3), .int kd], 0, 0) 27 3 (fun _ => rfl) h) ?_
      cases b80 : pj_c1 .eq kd (Int32.ofInt 3) with
      | true =>
        have ub80 := pj_u_eqT b80
        refine pj_X_of (fun r h => pj_R_icT 37 rfl rfl b80 h) ?_
        refine pj_X_of (fun r h => pj_R_to (G73, 46, [(7, .int (Int32.ofInt 0)), (6, .int f), (5, .int (Int32.ofInt 0)), (0, .ref 171), (1, .int kd), (2, .int n), (3, .int f), (4, .int sp)], [], 0, 0) 46 7 (fun _ => rfl) h) ?_
        exact pj_X_sub [(0, .ref 171), (1, .int kd), (2, .int n), (3, .int f), (4, .int sp), (5, .int (Int32.ofInt 0)), (6, .int f), (7, .int (Int32.ofInt 0))] (show List.Nodup [0, 1, 2, 3, 4, 5, 6, 7] by decide) ⟨rfl, rfl, rfl, rfl, rfl, rfl, rfl, rfl, trivial⟩ ((lp_ct_213 G0 hI kd n f sp  7) G73 iG73 kG73 (Int32.ofInt 0) f (Int32.ofInt 0) (pj_i32 _) (pj_i32 _) ⟨by omega, by omega⟩ (by omega))
      | false =>
        have ub80 := pj_u_eqF b80
        refine pj_X_of (fun r h => pj_R_icF rfl b80 h) ?_
        refine pj_X_of (fun r h => pj_R_to (G73, 31, [(0, .ref 171), (1, .int kd), (2, .int n), (3, .int f), (4, .int sp)], [.int n], 0, 0) 31 2 (fun _ => rfl) h) ?_
        cases b81 : pj_c1 .ge n 0 with
        | true =>
          have ub81 := pj_u0_geT b81
          refine pj_X_of (fun r h => pj_R_ifT 37 rfl rfl b81 h) ?_
          refine pj_X_of (fun r h => pj_R_to (G73, 46, [(7, .int (Int32.ofInt 0)), (6, .int f), (5, .int (Int32.ofInt 0)), (0, .ref 171), (1, .int kd), (2, .int n), (3, .int f), (4, .int sp)], [], 0, 0) 46 7 (fun _ => rfl) h) ?_
          exact pj_X_sub [(0, .ref 171), (1, .int kd), (2, .int n), (3, .int f), (4, .int sp), (5, .int (Int32.ofInt 0)), (6, .int f), (7, .int (Int32.ofInt 0))] (show List.Nodup [0, 1, 2, 3, 4, 5, 6, 7] by decide) ⟨rfl, rfl, rfl, rfl, rfl, rfl, rfl, rfl, trivial⟩ ((lp_ct_213 G0 hI kd n f sp  7) G73 iG73 kG73 (Int32.ofInt 0) f (Int32.ofInt 0) (pj_i32 _) (pj_i32 _) ⟨by omega, by omega⟩ (by omega))
        | false =>
          have ub81 := pj_u0_geF b81
          refine pj_X_of (fun r h => pj_R_ifF rfl b81 h) ?_
          refine pj_X_of (fun r h => pj_R_to (G73, 36, [(0, .ref 171), (1, .int kd), (2, .int n), (3, .int f), (4, .int sp)], [.int ((Int8.ofInt (-2)).toInt32)], 0, 0) 36 2 (fun _ => rfl) h) ?_
          exact pj_X_rt rfl rfl ⟨_, rfl, iG73, kG73, pj_i32 _⟩
    | false =>
      have ub79 := pj_u_leF b79
      refine pj_X_of (fun r h => pj_R_icF rfl b79 h) ?_
      refine pj_X_of (fun r h => pj_R_to (G73, 24, [(0, .ref 171), (1, .int kd), (2, .int n), (3, .int f), (4, .int sp)], [.int (Int32.ofInt (-1))], 0, 0) 24 2 (fun _ => rfl) h) ?_
      exact pj_X_rt rfl rfl ⟨_, rfl, iG73, kG73, pj_i32 _⟩
def kc_214 : pj_KT := ([], [186], [186])
theorem lp_ct_214 (G0 : pj_G) (hI0 : pj_Inv G0) (p0_ : (pj_fi G0 171 30).toInt ≤ 15) : ∀ mn : Nat, (∀ (G : pj_G) (hI : pj_Inv G) (hK : pj_kpt kc_214 G0 G) (v1 : Int32), ((0 : Int) ≤ v1.toInt ∧ v1.toInt ≤ 32) → ((pj_fi G 171 30).toInt ≤ 15) → 32 - v1.toInt < (mn : Int) → pj_X 0 pj_m214 G 2 [(0, .ref 171), (1, .int v1)] [] (fun v G' => v = none ∧ pj_Inv G' ∧ pj_kpt kc_214 G0 G')) := by
  have c0_ : ((Int8.ofInt 32).toInt32).toInt = 32 := by decide
  have c1_ : (Int32.ofInt 0).toInt = 0 := by decide
  have c2_ : (Int32.ofInt 1).toInt = 1 := by decide
  intro mn
  induction mn with
  | zero =>
    intro G hI hK v1 rv1 x0_ hm
    exfalso
    omega
  | succ mn ih =>
    intro G hI hK v1 rv1 x0_ hm
    obtain ⟨y1, hy1⟩ : ∃ z : Int32, z = pj_fi G 171 30 := ⟨_, rfl⟩
    have ey1 : (pj_fi G 171 30).toInt = y1.toInt := by rw [hy1]
    have ry1 : (0 : Int) ≤ y1.toInt ∧ y1.toInt ≤ 16 := by rw [hy1]; exact hI.2.1 171 30 (0, 16) rfl
    refine pj_X_of (fun r h => pj_R_to (G, 5, [(0, .ref 171), (1, .int v1)], [.int ((Int8.ofInt 32).toInt32), .int v1], 0, 0) 5 3 (fun _ => rfl) h) ?_
    cases b2 : pj_c1 .ge v1 ((Int8.ofInt 32).toInt32) with
    | true =>
      have ub2 := pj_u_geT b2
      refine pj_X_of (fun r h => pj_R_icT 34 rfl rfl b2 h) ?_
      have q3 : (pj_fi G 171 30).toInt = y1.toInt := by rw [show pj_fi G 171 30 = y1 from hy1.symm]
      exact pj_X_rt rfl rfl ⟨rfl, hI, hK⟩
    | false =>
      have ub2 := pj_u_geF b2
      refine pj_X_of (fun r h => pj_R_icF rfl b2 h) ?_
      refine pj_X_of (fun r h => pj_R_to (G, 9, [(0, .ref 171), (1, .int v1)], [.ref 171], 0, 0) 9 2 (fun _ => rfl) h) ?_
      refine pj_X_of (fun r h => pj_T_gr hI rfl rfl rfl h) ?_
      refine pj_X_of (fun r h => pj_R_to (G, 15, [(0, .ref 171), (1, .int v1)], [.ref 171, .int ((Int8.ofInt 32).toInt32), .ref 186], 0, 0) 15 3 (fun _ => rfl) h) ?_
      refine pj_X_of (fun r h => pj_T_gi hI rfl rfl h) ?_
      show pj_X _ _ G 18 [(0, .ref 171), (1, .int v1)] [.int (pj_fi G 171 30), .int ((Int8.ofInt 32).toInt32), .ref 186] _
      refine pj_X_eqi (show pj_fi G 171 30 = y1 from hy1.symm) ?_
      refine pj_X_of (fun r h => pj_R_to (G, 19, [(0, .ref 171), (1, .int v1)], [.int (((Int8.ofInt 32).toInt32) * y1), .ref 186], 0, 0) 19 2 (fun _ => rfl) h) ?_
      obtain ⟨z4, hz4⟩ : ∃ z : Int32, z = ((Int8.ofInt 32).toInt32) * y1 := ⟨_, rfl⟩
      refine pj_X_eqi hz4.symm ?_
      have fz4_0 : z4.toInt = 32 * y1.toInt := by rw [hz4]; exact pj_mulL (by decide) (by omega) (by omega)
      refine pj_X_of (fun r h => pj_R_to (G, 21, [(0, .ref 171), (1, .int v1)], [.int (z4 + v1), .ref 186], 0, 0) 21 3 (fun _ => rfl) h) ?_
      obtain ⟨z5, hz5⟩ : ∃ z : Int32, z = z4 + v1 := ⟨_, rfl⟩
      refine pj_X_eqi hz5.symm ?_
      have fz5_0 : z5.toInt = z4.toInt + v1.toInt := by rw [hz5]; exact pj_addI (by have := pj_i32 z4; have := pj_i32 v1; omega) (by have := pj_i32 z4; have := pj_i32 v1; omega)
      refine pj_X_of (fun r h => pj_R_to (G, 22, [(0, .ref 171), (1, .int v1)], [.ref 171, .int z5, .ref 186], 0, 0) 22 2 (fun _ => rfl) h) ?_
      refine pj_X_of (fun r h => pj_T_gr hI rfl rfl rfl h) ?_
      refine pj_X_of (fun r h => pj_R_to (G, 26, [(0, .ref 171), (1, .int v1)], [.int v1, .ref 179, .int z5, .ref 186], 0, 0) 26 2 (fun _ => rfl) h) ?_
      refine pj_X_of (fun r h => pj_T_il hI rfl rfl (by omega) (by omega) h) ?_
      show pj_X _ _ G 27 [(0, .ref 171), (1, .int v1)] [.int (pj_ai G 179 v1.toInt.toNat), .int z5, .ref 186] _
      obtain ⟨z6, hz6⟩ : ∃ z : Int32, z = pj_ai G 179 v1.toInt.toNat := ⟨_, rfl⟩
      refine pj_X_eqi hz6.symm ?_
      have ez6 : (pj_ai G 179 v1.toInt.toNat).toInt = z6.toInt := by rw [hz6]
      have fz6_0 : (v1.toInt.toNat % 32 < 24 → (v1.toInt.toNat % 4 = 0 → -1 ≤ z6.toInt ∧ z6.toInt ≤ 9) ∧ (v1.toInt.toNat % 4 = 1 → 0 ≤ z6.toInt)) ∧ (24 ≤ v1.toInt.toNat % 32 ∧ v1.toInt.toNat % 32 < 30 → 0 ≤ z6.toInt ∧ z6.toInt ≤ 7) := by rw [hz6]; exact hI.2.2.2 179 32 rfl _ (by show _ < 32; omega)
      refine pj_X_of (fun r h => pj_T_is hI rfl rfl (by omega) (by omega) h) ?_
      show pj_X _ _ (pj_wa G 186 z5.toInt.toNat z6) 28 [(0, .ref 171), (1, .int v1)] [] _
      obtain ⟨G7, hG7⟩ : ∃ H, H = pj_wa G 186 z5.toInt.toNat z6 := ⟨_, rfl⟩
      have iG7 : pj_Inv G7 := by rw [hG7]; exact pj_Inv_wa hI rfl (fun q hq => by cases hq) (fun n hn => ⟨fun h1 => ⟨fun h2 => by omega, fun h2 => by omega⟩, fun h1 => by omega⟩)
      have kG7 : pj_kpt kc_214 G0 G7 := by rw [hG7]; exact pj_kpt_a hK rfl
      rw [← hG7]
      refine pj_X_of (fun r h => pj_R_to (G7, 31, [(1, .int (v1 + Int32.ofInt 1)), (0, .ref 171)], [], 0, 0) 31 2 (fun _ => rfl) h) ?_
      obtain ⟨z8, hz8⟩ : ∃ z : Int32, z = v1 + Int32.ofInt 1 := ⟨_, rfl⟩
      rw [← hz8]
      have fz8_0 : z8.toInt = v1.toInt + (Int32.ofInt 1).toInt := by rw [hz8]; exact pj_addI (by have := pj_i32 v1; have := pj_i32 (Int32.ofInt 1); omega) (by have := pj_i32 v1; have := pj_i32 (Int32.ofInt 1); omega)
      refine pj_X_of (fun r h => pj_R_to (G7, 2, [(1, .int z8), (0, .ref 171)], [], 0, 0) 2 2 (fun _ => rfl) h) ?_
      have q9 : (pj_fi G7 171 30).toInt = y1.toInt := by rw [show pj_fi G7 171 30 = y1 from by rw [hG7, pj_fi_wa]; exact hy1.symm]
      exact pj_X_sub [(0, .ref 171), (1, .int z8)] (show List.Nodup [0, 1] by decide) ⟨rfl, rfl, trivial⟩ (ih G7 iG7 kG7 z8 ⟨by omega, by omega⟩ (by omega) (by omega))
theorem ct_214 (G0 : pj_G) (hI : pj_Inv G0) (p0_ : (pj_fi G0 171 30).toInt ≤ 15) : pj_Y 1 214 [.ref 171] G0 (fun v G' => v = none ∧ pj_Inv G' ∧ pj_kpt kc_214 G0 G') := by
  have c0_ : ((Int8.ofInt 32).toInt32).toInt = 32 := by decide
  have c1_ : (Int32.ofInt 0).toInt = 0 := by decide
  have c2_ : (Int32.ofInt 1).toInt = 1 := by decide
  refine pj_Y_X (M := pj_m214) rfl rfl (Nat.le_of_ble_eq_true rfl) ?_
  have hK : pj_kpt kc_214 G0 G0 := pj_kpt_r _ _
  show pj_X _ _ G0 0 [(0, .ref 171)] [] _
  obtain ⟨y10, hy10⟩ : ∃ z : Int32, z = pj_fi G0 171 30 := ⟨_, rfl⟩
  have ey10 : (pj_fi G0 171 30).toInt = y10.toInt := by rw [hy10]
  have ry10 : (0 : Int) ≤ y10.toInt ∧ y10.toInt ≤ 16 := by rw [hy10]; exact hI.2.1 171 30 (0, 16) rfl
  refine pj_X_of (fun r h => pj_R_to (G0, 2, [(1, .int (Int32.ofInt 0)), (0, .ref 171)], [], 0, 0) 2 3 (fun _ => rfl) h) ?_
  have q11 : (pj_fi G0 171 30).toInt = y10.toInt := by rw [show pj_fi G0 171 30 = y10 from hy10.symm]
  exact pj_X_sub [(0, .ref 171), (1, .int (Int32.ofInt 0))] (show List.Nodup [0, 1] by decide) ⟨rfl, rfl, trivial⟩ ((lp_ct_214 G0 hI   p0_ 33) G0 hI hK (Int32.ofInt 0) ⟨by omega, by omega⟩ (by omega) (by omega))
def kc_215 : pj_KT := ([(171, 30)], [171, 186], [186])
theorem lp_ct_215 (G0 : pj_G) (hI0 : pj_Inv G0) (an : Int32) (p0_ : (pj_fi G0 171 30).toInt ≤ 15) : ∀ mn : Nat, (∀ (G : pj_G) (hI : pj_Inv G) (hK : pj_kpt kc_215 G0 G) (v2 : Int32), ((0 : Int) ≤ v2.toInt ∧ v2.toInt ≤ 480) → ((pj_fi G 171 30).toInt = 16) → 480 - v2.toInt < (mn : Int) → pj_X 0 pj_m215 G 21 [(0, .ref 171), (1, .int an), (2, .int v2)] [] (fun v G' => ∃ y : Int32, v = some (.int y) ∧ pj_Inv G' ∧ pj_kpt kc_215 G0 G' ∧ ((-2147483648 : Int) ≤ y.toInt ∧ y.toInt ≤ 2147483647) ∧ ((pj_fi G' 171 30).toInt ≤ 15))) := by
  have c0_ : ((Int16.ofInt 480).toInt32).toInt = 480 := by decide
  have c1_ : ((Int8.ofInt 15).toInt32).toInt = 15 := by decide
  have c2_ : ((Int8.ofInt 32).toInt32).toInt = 32 := by decide
  have c3_ : (Int32.ofInt 0).toInt = 0 := by decide
  have c4_ : (Int32.ofInt 1).toInt = 1 := by decide
  intro mn
  induction mn with
  | zero =>
    intro G hI hK v2 rv2 x0_ hm
    exfalso
    omega
  | succ mn ih =>
    intro G hI hK v2 rv2 x0_ hm
    obtain ⟨y1, hy1⟩ : ∃ z : Int32, z = pj_fi G 171 30 := ⟨_, rfl⟩
    have ey1 : (pj_fi G 171 30).toInt = y1.toInt := by rw [hy1]
    have ry1 : (0 : Int) ≤ y1.toInt ∧ y1.toInt ≤ 16 := by rw [hy1]; exact hI.2.1 171 30 (0, 16) rfl
    refine pj_X_of (fun r h => pj_R_to (G, 25, [(0, .ref 171), (1, .int an), (2, .int v2)], [.int ((Int16.ofInt 480).toInt32), .int v2], 0, 0) 25 3 (fun _ => rfl) h) ?_
    cases b2 : pj_c1 .ge v2 ((Int16.ofInt 480).toInt32) with
    | true =>
      have ub2 := pj_u_geT b2
      refine pj_X_of (fun r h => pj_R_icT 49 rfl rfl b2 h) ?_
      refine pj_X_of (fun r h => pj_R_to (G, 51, [(0, .ref 171), (1, .int an), (2, .int v2)], [.ref 171, .ref 171], 0, 0) 51 3 (fun _ => rfl) h) ?_
      refine pj_X_of (fun r h => pj_T_gi hI rfl rfl h) ?_
      show pj_X _ _ G 54 [(0, .ref 171), (1, .int an), (2, .int v2)] [.int (pj_fi G 171 30), .ref 171] _
      refine pj_X_eqi (show pj_fi G 171 30 = y1 from hy1.symm) ?_
      refine pj_X_of (fun r h => pj_R_to (G, 56, [(0, .ref 171), (1, .int an), (2, .int v2)], [.int (y1 - (Int32.ofInt 1)), .ref 171], 0, 0) 56 3 (fun _ => rfl) h) ?_
      obtain ⟨z3, hz3⟩ : ∃ z : Int32, z = y1 - (Int32.ofInt 1) := ⟨_, rfl⟩
      refine pj_X_eqi hz3.symm ?_
      have fz3_0 : z3.toInt = y1.toInt - (Int32.ofInt 1).toInt := by rw [hz3]; exact pj_subI (by have := pj_i32 y1; have := pj_i32 (Int32.ofInt 1); omega) (by have := pj_i32 y1; have := pj_i32 (Int32.ofInt 1); omega)
      refine pj_X_of (fun r h => pj_T_pf hI rfl rfl rfl h) ?_
      show pj_X _ _ (pj_wv G 171 30 (.int z3)) 59 [(0, .ref 171), (1, .int an), (2, .int v2)] [] _
      obtain ⟨G4, hG4⟩ : ∃ H, H = pj_wv G 171 30 (.int z3) := ⟨_, rfl⟩
      have iG4 : pj_Inv G4 := by rw [hG4]; exact pj_Inv_wi hI (ci := 12) rfl (fun q hq => by cases hq; exact ⟨by show (0 : Int) ≤ _; omega, by show _ ≤ (16 : Int); omega⟩)
      have kG4 : pj_kpt kc_215 G0 G4 := by rw [hG4]; exact pj_kpt_v hK rfl
      rw [← hG4]
      refine pj_X_of (fun r h => pj_R_to (G4, 60, [(0, .ref 171), (1, .int an), (2, .int v2)], [.int an], 0, 0) 60 2 (fun _ => rfl) h) ?_
      have q5 : (pj_fi G4 171 30).toInt = z3.toInt := by rw [show pj_fi G4 171 30 = z3 from by rw [hG4]; exact pj_fi_wi hI.1 (ci := 12) rfl _]
      exact pj_X_rt rfl rfl ⟨_, rfl, iG4, kG4, pj_i32 _, by omega⟩
    | false =>
      have ub2 := pj_u_geF b2
      refine pj_X_of (fun r h => pj_R_icF rfl b2 h) ?_
      refine pj_X_of (fun r h => pj_R_to (G, 29, [(0, .ref 171), (1, .int an), (2, .int v2)], [.ref 171], 0, 0) 29 2 (fun _ => rfl) h) ?_
      refine pj_X_of (fun r h => pj_T_gr hI rfl rfl rfl h) ?_
      refine pj_X_of (fun r h => pj_R_to (G, 34, [(0, .ref 171), (1, .int an), (2, .int v2)], [.ref 171, .int v2, .ref 186], 0, 0) 34 3 (fun _ => rfl) h) ?_
      refine pj_X_of (fun r h => pj_T_gr hI rfl rfl rfl h) ?_
      refine pj_X_of (fun r h => pj_R_to (G, 41, [(0, .ref 171), (1, .int an), (2, .int v2)], [.int (v2 + ((Int8.ofInt 32).toInt32)), .ref 186, .int v2, .ref 186], 0, 0) 41 4 (fun _ => rfl) h) ?_
      obtain ⟨z6, hz6⟩ : ∃ z : Int32, z = v2 + ((Int8.ofInt 32).toInt32) := ⟨_, rfl⟩
      refine pj_X_eqi hz6.symm ?_
      have fz6_0 : z6.toInt = v2.toInt + ((Int8.ofInt 32).toInt32).toInt := by rw [hz6]; exact pj_addI (by have := pj_i32 v2; have := pj_i32 ((Int8.ofInt 32).toInt32); omega) (by have := pj_i32 v2; have := pj_i32 ((Int8.ofInt 32).toInt32); omega)
      refine pj_X_of (fun r h => pj_T_il hI rfl rfl (by omega) (by omega) h) ?_
      show pj_X _ _ G 42 [(0, .ref 171), (1, .int an), (2, .int v2)] [.int (pj_ai G 186 z6.toInt.toNat), .int v2, .ref 186] _
      obtain ⟨z7, hz7⟩ : ∃ z : Int32, z = pj_ai G 186 z6.toInt.toNat := ⟨_, rfl⟩
      refine pj_X_eqi hz7.symm ?_
      have ez7 : (pj_ai G 186 z6.toInt.toNat).toInt = z7.toInt := by rw [hz7]
      have fz7_0 : (z6.toInt.toNat % 32 < 24 → (z6.toInt.toNat % 4 = 0 → -1 ≤ z7.toInt ∧ z7.toInt ≤ 9) ∧ (z6.toInt.toNat % 4 = 1 → 0 ≤ z7.toInt)) ∧ (24 ≤ z6.toInt.toNat % 32 ∧ z6.toInt.toNat % 32 < 30 → 0 ≤ z7.toInt ∧ z7.toInt ≤ 7) := by rw [hz7]; exact hI.2.2.2 186 512 rfl _ (by show _ < 512; omega)
      refine pj_X_of (fun r h => pj_T_is hI rfl rfl (by omega) (by omega) h) ?_
      show pj_X _ _ (pj_wa G 186 v2.toInt.toNat z7) 43 [(0, .ref 171), (1, .int an), (2, .int v2)] [] _
      obtain ⟨G8, hG8⟩ : ∃ H, H = pj_wa G 186 v2.toInt.toNat z7 := ⟨_, rfl⟩
      have iG8 : pj_Inv G8 := by rw [hG8]; exact pj_Inv_wa hI rfl (fun q hq => by cases hq) (fun n hn => ⟨fun h1 => ⟨fun h2 => by omega, fun h2 => by omega⟩, fun h1 => by omega⟩)
      have kG8 : pj_kpt kc_215 G0 G8 := by rw [hG8]; exact pj_kpt_a hK rfl
      rw [← hG8]
      refine pj_X_of (fun r h => pj_R_to (G8, 46, [(2, .int (v2 + Int32.ofInt 1)), (0, .ref 171), (1, .int an)], [], 0, 0) 46 2 (fun _ => rfl) h) ?_
      obtain ⟨z9, hz9⟩ : ∃ z : Int32, z = v2 + Int32.ofInt 1 := ⟨_, rfl⟩
      rw [← hz9]
      have fz9_0 : z9.toInt = v2.toInt + (Int32.ofInt 1).toInt := by rw [hz9]; exact pj_addI (by have := pj_i32 v2; have := pj_i32 (Int32.ofInt 1); omega) (by have := pj_i32 v2; have := pj_i32 (Int32.ofInt 1); omega)
      refine pj_X_of (fun r h => pj_R_to (G8, 21, [(2, .int z9), (0, .ref 171), (1, .int an)], [], 0, 0) 21 2 (fun _ => rfl) h) ?_
      have q10 : (pj_fi G8 171 30).toInt = y1.toInt := by rw [show pj_fi G8 171 30 = y1 from by rw [hG8, pj_fi_wa]; exact hy1.symm]
      exact pj_X_sub [(0, .ref 171), (1, .int an), (2, .int z9)] (show List.Nodup [0, 1, 2] by decide) ⟨rfl, rfl, rfl, trivial⟩ (ih G8 iG8 kG8 z9 ⟨by omega, by omega⟩ (by omega) (by omega))
theorem ct_215 (G0 : pj_G) (hI : pj_Inv G0) (an : Int32) (p0_ : (pj_fi G0 171 30).toInt ≤ 15) : pj_Y 1 215 [.ref 171, .int an] G0 (fun v G' => ∃ y : Int32, v = some (.int y) ∧ pj_Inv G' ∧ pj_kpt kc_215 G0 G' ∧ ((-2147483648 : Int) ≤ y.toInt ∧ y.toInt ≤ 2147483647) ∧ ((pj_fi G' 171 30).toInt ≤ 15)) := by
  have c0_ : ((Int16.ofInt 480).toInt32).toInt = 480 := by decide
  have c1_ : ((Int8.ofInt 15).toInt32).toInt = 15 := by decide
  have c2_ : ((Int8.ofInt 32).toInt32).toInt = 32 := by decide
  have c3_ : (Int32.ofInt 0).toInt = 0 := by decide
  have c4_ : (Int32.ofInt 1).toInt = 1 := by decide
  refine pj_Y_X (M := pj_m215) rfl rfl (Nat.le_of_ble_eq_true rfl) ?_
  have hK : pj_kpt kc_215 G0 G0 := pj_kpt_r _ _
  show pj_X _ _ G0 0 [(0, .ref 171), (1, .int an)] [] _
  obtain ⟨y11, hy11⟩ : ∃ z : Int32, z = pj_fi G0 171 30 := ⟨_, rfl⟩
  have ey11 : (pj_fi G0 171 30).toInt = y11.toInt := by rw [hy11]
  have ry11 : (0 : Int) ≤ y11.toInt ∧ y11.toInt ≤ 16 := by rw [hy11]; exact hI.2.1 171 30 (0, 16) rfl
  refine pj_X_of (fun r h => pj_R_to (G0, 2, [(0, .ref 171), (1, .int an)], [.ref 171, .ref 171], 0, 0) 2 3 (fun _ => rfl) h) ?_
  refine pj_X_of (fun r h => pj_T_gi hI rfl rfl h) ?_
  show pj_X _ _ G0 5 [(0, .ref 171), (1, .int an)] [.int (pj_fi G0 171 30), .ref 171] _
  refine pj_X_eqi (show pj_fi G0 171 30 = y11 from hy11.symm) ?_
  refine pj_X_of (fun r h => pj_R_to (G0, 7, [(0, .ref 171), (1, .int an)], [.int (y11 + (Int32.ofInt 1)), .ref 171], 0, 0) 7 3 (fun _ => rfl) h) ?_
  obtain ⟨z12, hz12⟩ : ∃ z : Int32, z = y11 + (Int32.ofInt 1) := ⟨_, rfl⟩
  refine pj_X_eqi hz12.symm ?_
  have fz12_0 : z12.toInt = y11.toInt + (Int32.ofInt 1).toInt := by rw [hz12]; exact pj_addI (by have := pj_i32 y11; have := pj_i32 (Int32.ofInt 1); omega) (by have := pj_i32 y11; have := pj_i32 (Int32.ofInt 1); omega)
  refine pj_X_of (fun r h => pj_T_pf hI rfl rfl rfl h) ?_
  show pj_X _ _ (pj_wv G0 171 30 (.int z12)) 10 [(0, .ref 171), (1, .int an)] [] _
  obtain ⟨G13, hG13⟩ : ∃ H, H = pj_wv G0 171 30 (.int z12) := ⟨_, rfl⟩
  have iG13 : pj_Inv G13 := by rw [hG13]; exact pj_Inv_wi hI (ci := 12) rfl (fun q hq => by cases hq; exact ⟨by show (0 : Int) ≤ _; omega, by show _ ≤ (16 : Int); omega⟩)
  have kG13 : pj_kpt kc_215 G0 G13 := by rw [hG13]; exact pj_kpt_v hK rfl
  rw [← hG13]
  refine pj_X_of (fun r h => pj_R_to (G13, 11, [(0, .ref 171), (1, .int an)], [.ref 171], 0, 0) 11 2 (fun _ => rfl) h) ?_
  refine pj_X_of (fun r h => pj_T_gi iG13 rfl rfl h) ?_
  show pj_X _ _ G13 14 [(0, .ref 171), (1, .int an)] [.int (pj_fi G13 171 30)] _
  refine pj_X_eqi (show pj_fi G13 171 30 = z12 from by rw [hG13]; exact pj_fi_wi hI.1 (ci := 12) rfl _) ?_
  refine pj_X_of (fun r h => pj_R_to (G13, 16, [(0, .ref 171), (1, .int an)], [.int ((Int8.ofInt 15).toInt32), .int z12], 0, 0) 16 2 (fun _ => rfl) h) ?_
  cases b14 : pj_c1 .le z12 ((Int8.ofInt 15).toInt32) with
  | true =>
    have ub14 := pj_u_leT b14
    refine pj_X_of (fun r h => pj_R_icT 59 rfl rfl b14 h) ?_
    refine pj_X_of (fun r h => pj_R_to (G13, 60, [(0, .ref 171), (1, .int an)], [.int an], 0, 0) 60 2 (fun _ => rfl) h) ?_
    have q15 : (pj_fi G13 171 30).toInt = z12.toInt := by rw [show pj_fi G13 171 30 = z12 from by rw [hG13]; exact pj_fi_wi hI.1 (ci := 12) rfl _]
    exact pj_X_rt rfl rfl ⟨_, rfl, iG13, kG13, pj_i32 _, by omega⟩
  | false =>
    have ub14 := pj_u_leF b14
    refine pj_X_of (fun r h => pj_R_icF rfl b14 h) ?_
    refine pj_X_of (fun r h => pj_R_to (G13, 21, [(2, .int (Int32.ofInt 0)), (0, .ref 171), (1, .int an)], [], 0, 0) 21 3 (fun _ => rfl) h) ?_
    have q16 : (pj_fi G13 171 30).toInt = z12.toInt := by rw [show pj_fi G13 171 30 = z12 from by rw [hG13]; exact pj_fi_wi hI.1 (ci := 12) rfl _]
    exact pj_X_sub [(0, .ref 171), (1, .int an), (2, .int (Int32.ofInt 0))] (show List.Nodup [0, 1, 2] by decide) ⟨rfl, rfl, rfl, trivial⟩ ((lp_ct_215 G0 hI an  p0_ 481) G13 iG13 kG13 (Int32.ofInt 0) ⟨by omega, by omega⟩ (by omega) (by omega))
def kc_216 : pj_KT := ([(171, 30)], [171, 186], [186])
theorem ct_216 (G0 : pj_G) (hI : pj_Inv G0) (an : Int32) (p0_ : (pj_fi G0 171 30).toInt ≤ 15) : pj_Y 2 216 [.ref 171, .int an] G0 (fun v G' => ∃ y : Int32, v = some (.int y) ∧ pj_Inv G' ∧ pj_kpt kc_216 G0 G' ∧ ((-2147483648 : Int) ≤ y.toInt ∧ y.toInt ≤ 2147483647) ∧ ((pj_fi G' 171 30).toInt ≤ 15)) := by
  refine pj_Y_X (M := pj_m216) rfl rfl (Nat.le_of_ble_eq_true rfl) ?_
  have hK : pj_kpt kc_216 G0 G0 := pj_kpt_r _ _
  show pj_X _ _ G0 0 [(0, .ref 171), (1, .int an)] [] _
  obtain ⟨y1, hy1⟩ : ∃ z : Int32, z = pj_fi G0 171 30 := ⟨_, rfl⟩
  have ey1 : (pj_fi G0 171 30).toInt = y1.toInt := by rw [hy1]
  have ry1 : (0 : Int) ≤ y1.toInt ∧ y1.toInt ≤ 16 := by rw [hy1]; exact hI.2.1 171 30 (0, 16) rfl
  refine pj_X_of (fun r h => pj_R_to (G0, 1, [(0, .ref 171), (1, .int an)], [.int an], 0, 0) 1 2 (fun _ => rfl) h) ?_
  cases b2 : pj_c1 .ge an 0 with
  | true =>
    have ub2 := pj_u0_geT b2
    refine pj_X_of (fun r h => pj_R_ifT 8 rfl rfl b2 h) ?_
    refine pj_X_of (fun r h => pj_R_to (G0, 10, [(0, .ref 171), (1, .int an)], [.int an, .ref 171], 0, 0) 10 3 (fun _ => rfl) h) ?_
    have q3 : (pj_fi G0 171 30).toInt = y1.toInt := by rw [show pj_fi G0 171 30 = y1 from hy1.symm]
    refine pj_X_ca (vs := [.ref 171, .int an]) rfl (fun _ => rfl) ⟨Nat.le_of_ble_eq_true rfl, Nat.le_of_ble_eq_true rfl, pj_T_rcv hI rfl⟩ ⟨rfl, rfl⟩ (pj_Y_up (by decide) (ct_215 G0 hI an (by omega))) ?_
    rintro _ G5 ⟨y4, rfl, iG5, jG5, ry4, ey4⟩
    have kG5 : pj_kpt kc_216 G0 G5 := pj_kpt_t hK (pj_kpt_s jG5 rfl)
    obtain ⟨y6, hy6⟩ : ∃ z : Int32, z = pj_fi G5 171 30 := ⟨_, rfl⟩
    have ey6 : (pj_fi G5 171 30).toInt = y6.toInt := by rw [hy6]
    have ry6 : (0 : Int) ≤ y6.toInt ∧ y6.toInt ≤ 16 := by rw [hy6]; exact iG5.2.1 171 30 (0, 16) rfl
    show pj_X _ _ G5 13 [(0, .ref 171), (1, .int an)] [.int y4] _
    have q7 : (pj_fi G5 171 30).toInt = y6.toInt := by rw [show pj_fi G5 171 30 = y6 from hy6.symm]
    exact pj_X_rt rfl rfl ⟨_, rfl, iG5, kG5, pj_i32 _, by omega⟩
  | false =>
    have ub2 := pj_u0_geF b2
    refine pj_X_of (fun r h => pj_R_ifF rfl b2 h) ?_
    refine pj_X_of (fun r h => pj_R_to (G0, 13, [(0, .ref 171), (1, .int an)], [.int an], 0, 0) 13 3 (fun _ => rfl) h) ?_
    have q8 : (pj_fi G0 171 30).toInt = y1.toInt := by rw [show pj_fi G0 171 30 = y1 from hy1.symm]
    exact pj_X_rt rfl rfl ⟨_, rfl, hI, hK, pj_i32 _, by omega⟩
def kc_217 : pj_KT := ([(171, 0), (171, 30)], [171, 179], [179])
theorem lp_ct_217 (G0 : pj_G) (hI0 : pj_Inv G0) (p0_ : (pj_fi G0 171 30).toInt ≤ 15) : ∀ mn : Nat, (∀ (G : pj_G) (hI : pj_Inv G) (hK : pj_kpt kc_217 G0 G) (v1 : Int32), ((0 : Int) ≤ v1.toInt ∧ v1.toInt ≤ 32) → ((pj_fi G 171 30).toInt ≤ 15) → 32 - v1.toInt < (mn : Int) → pj_X 0 pj_m217 G 26 [(0, .ref 171), (1, .int v1)] [] (fun v G' => ∃ y : Int32, v = some (.int y) ∧ pj_Inv G' ∧ pj_kpt kc_217 G0 G' ∧ ((-2147483648 : Int) ≤ y.toInt ∧ y.toInt ≤ 2147483647) ∧ ((pj_fi G' 171 30).toInt ≤ 15))) := by
  have c0_ : ((Int8.ofInt 32).toInt32).toInt = 32 := by decide
  have c1_ : (Int32.ofInt (-1)).toInt = -1 := by decide
  have c2_ : (Int32.ofInt 0).toInt = 0 := by decide
  have c3_ : (Int32.ofInt 1).toInt = 1 := by decide
  intro mn
  induction mn with
  | zero =>
    intro G hI hK v1 rv1 x0_ hm
    exfalso
    omega
  | succ mn ih =>
    intro G hI hK v1 rv1 x0_ hm
    obtain ⟨y1, hy1⟩ : ∃ z : Int32, z = pj_fi G 171 30 := ⟨_, rfl⟩
    have ey1 : (pj_fi G 171 30).toInt = y1.toInt := by rw [hy1]
    have ry1 : (0 : Int) ≤ y1.toInt ∧ y1.toInt ≤ 16 := by rw [hy1]; exact hI.2.1 171 30 (0, 16) rfl
    refine pj_X_of (fun r h => pj_R_to (G, 29, [(0, .ref 171), (1, .int v1)], [.int ((Int8.ofInt 32).toInt32), .int v1], 0, 0) 29 3 (fun _ => rfl) h) ?_
    cases b2 : pj_c1 .ge v1 ((Int8.ofInt 32).toInt32) with
    | true =>
      have ub2 := pj_u_geT b2
      refine pj_X_of (fun r h => pj_R_icT 58 rfl rfl b2 h) ?_
      refine pj_X_of (fun r h => pj_R_to (G, 59, [(0, .ref 171), (1, .int v1)], [.ref 171], 0, 0) 59 2 (fun _ => rfl) h) ?_
      refine pj_X_of (fun r h => pj_T_gi hI rfl rfl h) ?_
      show pj_X _ _ G 62 [(0, .ref 171), (1, .int v1)] [.int (pj_fi G 171 30)] _
      refine pj_X_eqi (show pj_fi G 171 30 = y1 from hy1.symm) ?_
      have q3 : (pj_fi G 171 30).toInt = y1.toInt := by rw [show pj_fi G 171 30 = y1 from hy1.symm]
      exact pj_X_rt rfl rfl ⟨_, rfl, hI, hK, pj_i32 _, by omega⟩
    | false =>
      have ub2 := pj_u_geF b2
      refine pj_X_of (fun r h => pj_R_icF rfl b2 h) ?_
      refine pj_X_of (fun r h => pj_R_to (G, 33, [(0, .ref 171), (1, .int v1)], [.ref 171], 0, 0) 33 2 (fun _ => rfl) h) ?_
      refine pj_X_of (fun r h => pj_T_gr hI rfl rfl rfl h) ?_
      refine pj_X_of (fun r h => pj_R_to (G, 38, [(0, .ref 171), (1, .int v1)], [.ref 171, .int v1, .ref 179], 0, 0) 38 3 (fun _ => rfl) h) ?_
      refine pj_X_of (fun r h => pj_T_gr hI rfl rfl rfl h) ?_
      refine pj_X_of (fun r h => pj_R_to (G, 44, [(0, .ref 171), (1, .int v1)], [.ref 171, .int ((Int8.ofInt 32).toInt32), .ref 186, .int v1, .ref 179], 0, 0) 44 3 (fun _ => rfl) h) ?_
      refine pj_X_of (fun r h => pj_T_gi hI rfl rfl h) ?_
      show pj_X _ _ G 47 [(0, .ref 171), (1, .int v1)] [.int (pj_fi G 171 30), .int ((Int8.ofInt 32).toInt32), .ref 186, .int v1, .ref 179] _
      refine pj_X_eqi (show pj_fi G 171 30 = y1 from hy1.symm) ?_
      refine pj_X_of (fun r h => pj_R_to (G, 48, [(0, .ref 171), (1, .int v1)], [.int (((Int8.ofInt 32).toInt32) * y1), .ref 186, .int v1, .ref 179], 0, 0) 48 2 (fun _ => rfl) h) ?_
      obtain ⟨z4, hz4⟩ : ∃ z : Int32, z = ((Int8.ofInt 32).toInt32) * y1 := ⟨_, rfl⟩
      refine pj_X_eqi hz4.symm ?_
      have fz4_0 : z4.toInt = 32 * y1.toInt := by rw [hz4]; exact pj_mulL (by decide) (by omega) (by omega)
      refine pj_X_of (fun r h => pj_R_to (G, 50, [(0, .ref 171), (1, .int v1)], [.int (z4 + v1), .ref 186, .int v1, .ref 179], 0, 0) 50 3 (fun _ => rfl) h) ?_
      obtain ⟨z5, hz5⟩ : ∃ z : Int32, z = z4 + v1 := ⟨_, rfl⟩
      refine pj_X_eqi hz5.symm ?_
      have fz5_0 : z5.toInt = z4.toInt + v1.toInt := by rw [hz5]; exact pj_addI (by have := pj_i32 z4; have := pj_i32 v1; omega) (by have := pj_i32 z4; have := pj_i32 v1; omega)
      refine pj_X_of (fun r h => pj_T_il hI rfl rfl (by omega) (by omega) h) ?_
      show pj_X _ _ G 51 [(0, .ref 171), (1, .int v1)] [.int (pj_ai G 186 z5.toInt.toNat), .int v1, .ref 179] _
      obtain ⟨z6, hz6⟩ : ∃ z : Int32, z = pj_ai G 186 z5.toInt.toNat := ⟨_, rfl⟩
      refine pj_X_eqi hz6.symm ?_
      have ez6 : (pj_ai G 186 z5.toInt.toNat).toInt = z6.toInt := by rw [hz6]
      have fz6_0 : (z5.toInt.toNat % 32 < 24 → (z5.toInt.toNat % 4 = 0 → -1 ≤ z6.toInt ∧ z6.toInt ≤ 9) ∧ (z5.toInt.toNat % 4 = 1 → 0 ≤ z6.toInt)) ∧ (24 ≤ z5.toInt.toNat % 32 ∧ z5.toInt.toNat % 32 < 30 → 0 ≤ z6.toInt ∧ z6.toInt ≤ 7) := by rw [hz6]; exact hI.2.2.2 186 512 rfl _ (by show _ < 512; omega)
      refine pj_X_of (fun r h => pj_T_is hI rfl rfl (by omega) (by omega) h) ?_
      show pj_X _ _ (pj_wa G 179 v1.toInt.toNat z6) 52 [(0, .ref 171), (1, .int v1)] [] _
      obtain ⟨G7, hG7⟩ : ∃ H, H = pj_wa G 179 v1.toInt.toNat z6 := ⟨_, rfl⟩
      have iG7 : pj_Inv G7 := by rw [hG7]; exact pj_Inv_wa hI rfl (fun q hq => by cases hq) (fun n hn => ⟨fun h1 => ⟨fun h2 => by omega, fun h2 => by omega⟩, fun h1 => by omega⟩)
      have kG7 : pj_kpt kc_217 G0 G7 := by rw [hG7]; exact pj_kpt_a hK rfl
      rw [← hG7]
      refine pj_X_of (fun r h => pj_R_to (G7, 55, [(1, .int (v1 + Int32.ofInt 1)), (0, .ref 171)], [], 0, 0) 55 2 (fun _ => rfl) h) ?_
      obtain ⟨z8, hz8⟩ : ∃ z : Int32, z = v1 + Int32.ofInt 1 := ⟨_, rfl⟩
      rw [← hz8]
      have fz8_0 : z8.toInt = v1.toInt + (Int32.ofInt 1).toInt := by rw [hz8]; exact pj_addI (by have := pj_i32 v1; have := pj_i32 (Int32.ofInt 1); omega) (by have := pj_i32 v1; have := pj_i32 (Int32.ofInt 1); omega)
      refine pj_X_of (fun r h => pj_R_to (G7, 26, [(1, .int z8), (0, .ref 171)], [], 0, 0) 26 2 (fun _ => rfl) h) ?_
      have q9 : (pj_fi G7 171 30).toInt = y1.toInt := by rw [show pj_fi G7 171 30 = y1 from by rw [hG7, pj_fi_wa]; exact hy1.symm]
      exact pj_X_sub [(0, .ref 171), (1, .int z8)] (show List.Nodup [0, 1] by decide) ⟨rfl, rfl, trivial⟩ (ih G7 iG7 kG7 z8 ⟨by omega, by omega⟩ (by omega) (by omega))
theorem ct_217 (G0 : pj_G) (hI : pj_Inv G0) (p0_ : (pj_fi G0 171 30).toInt ≤ 15) : pj_Y 1 217 [.ref 171] G0 (fun v G' => ∃ y : Int32, v = some (.int y) ∧ pj_Inv G' ∧ pj_kpt kc_217 G0 G' ∧ ((-2147483648 : Int) ≤ y.toInt ∧ y.toInt ≤ 2147483647) ∧ ((pj_fi G' 171 30).toInt ≤ 15)) := by
  have c0_ : ((Int8.ofInt 32).toInt32).toInt = 32 := by decide
  have c1_ : (Int32.ofInt (-1)).toInt = -1 := by decide
  have c2_ : (Int32.ofInt 0).toInt = 0 := by decide
  have c3_ : (Int32.ofInt 1).toInt = 1 := by decide
  refine pj_Y_X (M := pj_m217) rfl rfl (Nat.le_of_ble_eq_true rfl) ?_
  have hK : pj_kpt kc_217 G0 G0 := pj_kpt_r _ _
  show pj_X _ _ G0 0 [(0, .ref 171)] [] _
  obtain ⟨y10, hy10⟩ : ∃ z : Int32, z = pj_fi G0 171 30 := ⟨_, rfl⟩
  have ey10 : (pj_fi G0 171 30).toInt = y10.toInt := by rw [hy10]
  have ry10 : (0 : Int) ≤ y10.toInt ∧ y10.toInt ≤ 16 := by rw [hy10]; exact hI.2.1 171 30 (0, 16) rfl
  refine pj_X_of (fun r h => pj_R_to (G0, 2, [(0, .ref 171)], [.int (Int32.ofInt 0), .ref 171], 0, 0) 2 3 (fun _ => rfl) h) ?_
  refine pj_X_of (fun r h => pj_T_pf hI rfl rfl rfl h) ?_
  show pj_X _ _ (pj_wv G0 171 0 (.int (Int32.ofInt 0))) 5 [(0, .ref 171)] [] _
  obtain ⟨G11, hG11⟩ : ∃ H, H = pj_wv G0 171 0 (.int (Int32.ofInt 0)) := ⟨_, rfl⟩
  have iG11 : pj_Inv G11 := by rw [hG11]; exact pj_Inv_wi hI (ci := 12) rfl (fun q hq => by cases hq)
  have kG11 : pj_kpt kc_217 G0 G11 := by rw [hG11]; exact pj_kpt_v hK rfl
  rw [← hG11]
  refine pj_X_of (fun r h => pj_R_to (G11, 6, [(0, .ref 171)], [.ref 171], 0, 0) 6 2 (fun _ => rfl) h) ?_
  refine pj_X_of (fun r h => pj_T_gi iG11 rfl rfl h) ?_
  show pj_X _ _ G11 9 [(0, .ref 171)] [.int (pj_fi G11 171 30)] _
  refine pj_X_eqi (show pj_fi G11 171 30 = y10 from by rw [hG11, pj_fi_wv_ne _ _ _ _ _ _ (by decide)]; exact hy10.symm) ?_
  cases b12 : pj_c1 .ne y10 0 with
  | true =>
    have ub12 := pj_u0_neT b12
    refine pj_X_of (fun r h => pj_R_ifT 14 rfl rfl b12 h) ?_
    refine pj_X_of (fun r h => pj_R_to (G11, 16, [(0, .ref 171)], [.ref 171, .ref 171], 0, 0) 16 3 (fun _ => rfl) h) ?_
    refine pj_X_of (fun r h => pj_T_gi iG11 rfl rfl h) ?_
    show pj_X _ _ G11 19 [(0, .ref 171)] [.int (pj_fi G11 171 30), .ref 171] _
    refine pj_X_eqi (show pj_fi G11 171 30 = y10 from by rw [hG11, pj_fi_wv_ne _ _ _ _ _ _ (by decide)]; exact hy10.symm) ?_
    refine pj_X_of (fun r h => pj_R_to (G11, 21, [(0, .ref 171)], [.int (y10 - (Int32.ofInt 1)), .ref 171], 0, 0) 21 3 (fun _ => rfl) h) ?_
    obtain ⟨z13, hz13⟩ : ∃ z : Int32, z = y10 - (Int32.ofInt 1) := ⟨_, rfl⟩
    refine pj_X_eqi hz13.symm ?_
    have fz13_0 : z13.toInt = y10.toInt - (Int32.ofInt 1).toInt := by rw [hz13]; exact pj_subI (by have := pj_i32 y10; have := pj_i32 (Int32.ofInt 1); omega) (by have := pj_i32 y10; have := pj_i32 (Int32.ofInt 1); omega)
    refine pj_X_of (fun r h => pj_T_pf iG11 rfl rfl rfl h) ?_
    show pj_X _ _ (pj_wv G11 171 30 (.int z13)) 24 [(0, .ref 171)] [] _
    obtain ⟨G14, hG14⟩ : ∃ H, H = pj_wv G11 171 30 (.int z13) := ⟨_, rfl⟩
    have iG14 : pj_Inv G14 := by rw [hG14]; exact pj_Inv_wi iG11 (ci := 12) rfl (fun q hq => by cases hq; exact ⟨by show (0 : Int) ≤ _; omega, by show _ ≤ (16 : Int); omega⟩)
    have kG14 : pj_kpt kc_217 G0 G14 := by rw [hG14]; exact pj_kpt_v kG11 rfl
    rw [← hG14]
    refine pj_X_of (fun r h => pj_R_to (G14, 26, [(1, .int (Int32.ofInt 0)), (0, .ref 171)], [], 0, 0) 26 3 (fun _ => rfl) h) ?_
    have q15 : (pj_fi G14 171 30).toInt = z13.toInt := by rw [show pj_fi G14 171 30 = z13 from by rw [hG14]; exact pj_fi_wi iG11.1 (ci := 12) rfl _]
    exact pj_X_sub [(0, .ref 171), (1, .int (Int32.ofInt 0))] (show List.Nodup [0, 1] by decide) ⟨rfl, rfl, trivial⟩ ((lp_ct_217 G0 hI   p0_ 33) G14 iG14 kG14 (Int32.ofInt 0) ⟨by omega, by omega⟩ (by omega) (by omega))
  | false =>
    have ub12 := pj_u0_neF b12
    refine pj_X_of (fun r h => pj_R_ifF rfl b12 h) ?_
    refine pj_X_of (fun r h => pj_R_to (G11, 13, [(0, .ref 171)], [.int (Int32.ofInt (-1))], 0, 0) 13 2 (fun _ => rfl) h) ?_
    have q16 : (pj_fi G11 171 30).toInt = y10.toInt := by rw [show pj_fi G11 171 30 = y10 from by rw [hG11, pj_fi_wv_ne _ _ _ _ _ _ (by decide)]; exact hy10.symm]
    exact pj_X_rt rfl rfl ⟨_, rfl, iG11, kG11, pj_i32 _, by omega⟩
theorem ct_218 (G0 : pj_G) (hI : pj_Inv G0) (b : Int32) (c : Int32) : pj_Y 3 218 [.ref 171, .int b, .int c] G0 (fun v G' => ∃ y : Int32, v = some (.int y) ∧ G0 = G' ∧ ((-4 : Int) ≤ y.toInt ∧ y.toInt ≤ 0) ∧ (0 ≤ y.toInt → 0 ≤ b.toInt ∧ b.toInt ≤ 5 ∧ -1 ≤ c.toInt ∧ c.toInt ≤ 9)) := by
  have c0_ : ((Int8.ofInt (-2)).toInt32).toInt = -2 := by decide
  have c1_ : ((Int8.ofInt (-3)).toInt32).toInt = -3 := by decide
  have c2_ : ((Int8.ofInt (-4)).toInt32).toInt = -4 := by decide
  have c3_ : (Int32.ofInt (-1)).toInt = -1 := by decide
  have c4_ : (Int32.ofInt 0).toInt = 0 := by decide
  have c5_ : (Int32.ofInt 1).toInt = 1 := by decide
  have c6_ : (Int32.ofInt 4).toInt = 4 := by decide
  refine pj_Y_X (M := pj_m218) rfl rfl (Nat.le_of_ble_eq_true rfl) ?_
  have hK : pj_kpt ([], [], []) G0 G0 := pj_kpt_r _ _
  show pj_X _ _ G0 0 [(0, .ref 171), (1, .int b), (2, .int c)] [] _
  refine pj_X_of (fun r h => pj_R_to (G0, 2, [(0, .ref 171), (1, .int b), (2, .int c)], [.int b, .ref 171], 0, 0) 2 3 (fun _ => rfl) h) ?_
  refine pj_X_ca (vs := [.ref 171, .int b]) rfl (fun _ => rfl) ⟨Nat.le_of_ble_eq_true rfl, Nat.le_of_ble_eq_true rfl, pj_T_rcv hI rfl⟩ ⟨rfl, rfl⟩ (pj_Y_up (by decide) (ct_177 G0 hI b)) ?_
  rintro _ _ ⟨y1, rfl, rfl, ry1, ey1⟩
  show pj_X _ _ G0 5 [(0, .ref 171), (1, .int b), (2, .int c)] [.int y1] _
  cases b2 : pj_c1 .eq y1 0 with
  | true =>
    have ub2 := pj_u0_eqT b2
    refine pj_X_of (fun r h => pj_R_ifT 21 rfl rfl b2 h) ?_
    refine pj_X_of (fun r h => pj_R_to (G0, 22, [(0, .ref 171), (1, .int b), (2, .int c)], [.int (Int32.ofInt (-1))], 0, 0) 22 2 (fun _ => rfl) h) ?_
    exact pj_X_rt rfl rfl ⟨_, rfl, rfl, ⟨by omega, by omega⟩, by omega⟩
  | false =>
    have ub2 := pj_u0_eqF b2
    refine pj_X_of (fun r h => pj_R_ifF rfl b2 h) ?_
    refine pj_X_of (fun r h => pj_R_to (G0, 10, [(0, .ref 171), (1, .int b), (2, .int c)], [.int (Int32.ofInt (-1)), .int c], 0, 0) 10 3 (fun _ => rfl) h) ?_
    cases b3 : pj_c1 .eq c (Int32.ofInt (-1)) with
    | true =>
      have ub3 := pj_u_eqT b3
      refine pj_X_of (fun r h => pj_R_icT 23 rfl rfl b3 h) ?_
      refine pj_X_of (fun r h => pj_R_to (G0, 24, [(0, .ref 171), (1, .int b), (2, .int c)], [.ref 171], 0, 0) 24 2 (fun _ => rfl) h) ?_
      refine pj_X_of (fun r h => pj_T_gr hI rfl rfl rfl h) ?_
      refine pj_X_of (fun r h => pj_R_to (G0, 30, [(0, .ref 171), (1, .int b), (2, .int c)], [.int ((Int32.ofInt 4) * b), .ref 179], 0, 0) 30 4 (fun _ => rfl) h) ?_
      obtain ⟨z4, hz4⟩ : ∃ z : Int32, z = (Int32.ofInt 4) * b := ⟨_, rfl⟩
      refine pj_X_eqi hz4.symm ?_
      have fz4_0 : z4.toInt = 4 * b.toInt := by rw [hz4]; exact pj_mulL (by decide) (by omega) (by omega)
      refine pj_X_of (fun r h => pj_R_to (G0, 32, [(0, .ref 171), (1, .int b), (2, .int c)], [.int (z4 + (Int32.ofInt 1)), .ref 179], 0, 0) 32 3 (fun _ => rfl) h) ?_
      obtain ⟨z5, hz5⟩ : ∃ z : Int32, z = z4 + (Int32.ofInt 1) := ⟨_, rfl⟩
      refine pj_X_eqi hz5.symm ?_
      have fz5_0 : z5.toInt = z4.toInt + (Int32.ofInt 1).toInt := by rw [hz5]; exact pj_addI (by have := pj_i32 z4; have := pj_i32 (Int32.ofInt 1); omega) (by have := pj_i32 z4; have := pj_i32 (Int32.ofInt 1); omega)
      refine pj_X_of (fun r h => pj_T_il hI rfl rfl (by omega) (by omega) h) ?_
      show pj_X _ _ G0 33 [(0, .ref 171), (1, .int b), (2, .int c)] [.int (pj_ai G0 179 z5.toInt.toNat)] _
      obtain ⟨z6, hz6⟩ : ∃ z : Int32, z = pj_ai G0 179 z5.toInt.toNat := ⟨_, rfl⟩
      refine pj_X_eqi hz6.symm ?_
      have ez6 : (pj_ai G0 179 z5.toInt.toNat).toInt = z6.toInt := by rw [hz6]
      have fz6_0 : 0 ≤ z6.toInt := by rw [hz6]; exact ((hI.2.2.2 179 32 rfl _ (by show _ < 32; omega)).1 (by omega)).2 (by omega)
      cases b7 : pj_c1 .gt z6 0 with
      | true =>
        have ub7 := pj_u0_gtT b7
        refine pj_X_of (fun r h => pj_R_ifT 50 rfl rfl b7 h) ?_
        refine pj_X_of (fun r h => pj_R_to (G0, 52, [(0, .ref 171), (1, .int b), (2, .int c)], [.int ((Int8.ofInt (-2)).toInt32)], 0, 0) 52 2 (fun _ => rfl) h) ?_
        exact pj_X_rt rfl rfl ⟨_, rfl, rfl, ⟨by omega, by omega⟩, by omega⟩
      | false =>
        have ub7 := pj_u0_gtF b7
        refine pj_X_of (fun r h => pj_R_ifF rfl b7 h) ?_
        refine pj_X_of (fun r h => pj_R_to (G0, 37, [(0, .ref 171), (1, .int b), (2, .int c)], [.ref 171], 0, 0) 37 2 (fun _ => rfl) h) ?_
        refine pj_X_of (fun r h => pj_T_gr hI rfl rfl rfl h) ?_
        refine pj_X_of (fun r h => pj_R_to (G0, 43, [(0, .ref 171), (1, .int b), (2, .int c)], [.int ((Int32.ofInt 4) * b), .ref 179], 0, 0) 43 4 (fun _ => rfl) h) ?_
        obtain ⟨z8, hz8⟩ : ∃ z : Int32, z = (Int32.ofInt 4) * b := ⟨_, rfl⟩
        refine pj_X_eqi hz8.symm ?_
        have fz8_0 : z8.toInt = 4 * b.toInt := by rw [hz8]; exact pj_mulL (by decide) (by omega) (by omega)
        refine pj_X_of (fun r h => pj_R_to (G0, 45, [(0, .ref 171), (1, .int b), (2, .int c)], [.int (z8 + (Int32.ofInt 0)), .ref 179], 0, 0) 45 3 (fun _ => rfl) h) ?_
        obtain ⟨z9, hz9⟩ : ∃ z : Int32, z = z8 + (Int32.ofInt 0) := ⟨_, rfl⟩
        refine pj_X_eqi hz9.symm ?_
        have fz9_0 : z9.toInt = z8.toInt + (Int32.ofInt 0).toInt := by rw [hz9]; exact pj_addI (by have := pj_i32 z8; have := pj_i32 (Int32.ofInt 0); omega) (by have := pj_i32 z8; have := pj_i32 (Int32.ofInt 0); omega)
        refine pj_X_of (fun r h => pj_T_il hI rfl rfl (by omega) (by omega) h) ?_
        show pj_X _ _ G0 46 [(0, .ref 171), (1, .int b), (2, .int c)] [.int (pj_ai G0 179 z9.toInt.toNat)] _
        obtain ⟨z10, hz10⟩ : ∃ z : Int32, z = pj_ai G0 179 z9.toInt.toNat := ⟨_, rfl⟩
        refine pj_X_eqi hz10.symm ?_
        have ez10 : (pj_ai G0 179 z9.toInt.toNat).toInt = z10.toInt := by rw [hz10]
        have fz10_0 : -1 ≤ z10.toInt ∧ z10.toInt ≤ 9 := by rw [hz10]; exact ((hI.2.2.2 179 32 rfl _ (by show _ < 32; omega)).1 (by omega)).1 (by omega)
        refine pj_X_of (fun r h => pj_R_to (G0, 47, [(0, .ref 171), (1, .int b), (2, .int c)], [.int c, .int z10], 0, 0) 47 2 (fun _ => rfl) h) ?_
        cases b11 : pj_c1 .ne z10 c with
        | true =>
          have ub11 := pj_u_neT b11
          refine pj_X_of (fun r h => pj_R_icT 53 rfl rfl b11 h) ?_
          refine pj_X_of (fun r h => pj_R_to (G0, 54, [(0, .ref 171), (1, .int b), (2, .int c)], [.int c], 0, 0) 54 2 (fun _ => rfl) h) ?_
          refine pj_X_of (fun r h => pj_R_ifF rfl (pj_b0_geF (by omega)) h) ?_
          refine pj_X_of (fun r h => pj_R_to (G0, 58, [(0, .ref 171), (1, .int b), (2, .int c)], [.int (Int32.ofInt 0)], 0, 0) 58 2 (fun _ => rfl) h) ?_
          exact pj_X_rt rfl rfl ⟨_, rfl, rfl, ⟨by omega, by omega⟩, by omega⟩
        | false =>
          have ub11 := pj_u_neF b11
          refine pj_X_of (fun r h => pj_R_icF rfl b11 h) ?_
          refine pj_X_of (fun r h => pj_R_to (G0, 52, [(0, .ref 171), (1, .int b), (2, .int c)], [.int ((Int8.ofInt (-2)).toInt32)], 0, 0) 52 2 (fun _ => rfl) h) ?_
          exact pj_X_rt rfl rfl ⟨_, rfl, rfl, ⟨by omega, by omega⟩, by omega⟩
    | false =>
      have ub3 := pj_u_eqF b3
      refine pj_X_of (fun r h => pj_R_icF rfl b3 h) ?_
      refine pj_X_of (fun r h => pj_R_to (G0, 15, [(0, .ref 171), (1, .int b), (2, .int c)], [.int c, .ref 171], 0, 0) 15 3 (fun _ => rfl) h) ?_
      refine pj_X_ca (vs := [.ref 171, .int c]) rfl (fun _ => rfl) ⟨Nat.le_of_ble_eq_true rfl, Nat.le_of_ble_eq_true rfl, pj_T_rcv hI rfl⟩ ⟨rfl, rfl⟩ (pj_Y_up (by decide) (ct_176 G0 hI c)) ?_
      rintro _ _ ⟨y12, rfl, rfl, ry12, ey12⟩
      show pj_X _ _ G0 18 [(0, .ref 171), (1, .int b), (2, .int c)] [.int y12] _
      cases b13 : pj_c1 .ne y12 0 with
      | true =>
        have ub13 := pj_u0_neT b13
        refine pj_X_of (fun r h => pj_R_ifT 23 rfl rfl b13 h) ?_
        refine pj_X_of (fun r h => pj_R_to (G0, 24, [(0, .ref 171), (1, .int b), (2, .int c)], [.ref 171], 0, 0) 24 2 (fun _ => rfl) h) ?_
        refine pj_X_of (fun r h => pj_T_gr hI rfl rfl rfl h) ?_
        refine pj_X_of (fun r h => pj_R_to (G0, 30, [(0, .ref 171), (1, .int b), (2, .int c)], [.int ((Int32.ofInt 4) * b), .ref 179], 0, 0) 30 4 (fun _ => rfl) h) ?_
        obtain ⟨z14, hz14⟩ : ∃ z : Int32, z = (Int32.ofInt 4) * b := ⟨_, rfl⟩
        refine pj_X_eqi hz14.symm ?_
        have fz14_0 : z14.toInt = 4 * b.toInt := by rw [hz14]; exact pj_mulL (by decide) (by omega) (by omega)
        refine pj_X_of (fun r h => pj_R_to (G0, 32, [(0, .ref 171), (1, .int b), (2, .int c)], [.int (z14 + (Int32.ofInt 1)), .ref 179], 0, 0) 32 3 (fun _ => rfl) h) ?_
        obtain ⟨z15, hz15⟩ : ∃ z : Int32, z = z14 + (Int32.ofInt 1) := ⟨_, rfl⟩
        refine pj_X_eqi hz15.symm ?_
        have fz15_0 : z15.toInt = z14.toInt + (Int32.ofInt 1).toInt := by rw [hz15]; exact pj_addI (by have := pj_i32 z14; have := pj_i32 (Int32.ofInt 1); omega) (by have := pj_i32 z14; have := pj_i32 (Int32.ofInt 1); omega)
        refine pj_X_of (fun r h => pj_T_il hI rfl rfl (by omega) (by omega) h) ?_
        show pj_X _ _ G0 33 [(0, .ref 171), (1, .int b), (2, .int c)] [.int (pj_ai G0 179 z15.toInt.toNat)] _
        obtain ⟨z16, hz16⟩ : ∃ z : Int32, z = pj_ai G0 179 z15.toInt.toNat := ⟨_, rfl⟩
        refine pj_X_eqi hz16.symm ?_
        have ez16 : (pj_ai G0 179 z15.toInt.toNat).toInt = z16.toInt := by rw [hz16]
        have fz16_0 : 0 ≤ z16.toInt := by rw [hz16]; exact ((hI.2.2.2 179 32 rfl _ (by show _ < 32; omega)).1 (by omega)).2 (by omega)
        cases b17 : pj_c1 .gt z16 0 with
        | true =>
          have ub17 := pj_u0_gtT b17
          refine pj_X_of (fun r h => pj_R_ifT 50 rfl rfl b17 h) ?_
          refine pj_X_of (fun r h => pj_R_to (G0, 52, [(0, .ref 171), (1, .int b), (2, .int c)], [.int ((Int8.ofInt (-2)).toInt32)], 0, 0) 52 2 (fun _ => rfl) h) ?_
          exact pj_X_rt rfl rfl ⟨_, rfl, rfl, ⟨by omega, by omega⟩, by omega⟩
        | false =>
          have ub17 := pj_u0_gtF b17
          refine pj_X_of (fun r h => pj_R_ifF rfl b17 h) ?_
          refine pj_X_of (fun r h => pj_R_to (G0, 37, [(0, .ref 171), (1, .int b), (2, .int c)], [.ref 171], 0, 0) 37 2 (fun _ => rfl) h) ?_
          refine pj_X_of (fun r h => pj_T_gr hI rfl rfl rfl h) ?_
          refine pj_X_of (fun r h => pj_R_to (G0, 43, [(0, .ref 171), (1, .int b), (2, .int c)], [.int ((Int32.ofInt 4) * b), .ref 179], 0, 0) 43 4 (fun _ => rfl) h) ?_
          obtain ⟨z18, hz18⟩ : ∃ z : Int32, z = (Int32.ofInt 4) * b := ⟨_, rfl⟩
          refine pj_X_eqi hz18.symm ?_
          have fz18_0 : z18.toInt = 4 * b.toInt := by rw [hz18]; exact pj_mulL (by decide) (by omega) (by omega)
          refine pj_X_of (fun r h => pj_R_to (G0, 45, [(0, .ref 171), (1, .int b), (2, .int c)], [.int (z18 + (Int32.ofInt 0)), .ref 179], 0, 0) 45 3 (fun _ => rfl) h) ?_
          obtain ⟨z19, hz19⟩ : ∃ z : Int32, z = z18 + (Int32.ofInt 0) := ⟨_, rfl⟩
          refine pj_X_eqi hz19.symm ?_
          have fz19_0 : z19.toInt = z18.toInt + (Int32.ofInt 0).toInt := by rw [hz19]; exact pj_addI (by have := pj_i32 z18; have := pj_i32 (Int32.ofInt 0); omega) (by have := pj_i32 z18; have := pj_i32 (Int32.ofInt 0); omega)
          refine pj_X_of (fun r h => pj_T_il hI rfl rfl (by omega) (by omega) h) ?_
          show pj_X _ _ G0 46 [(0, .ref 171), (1, .int b), (2, .int c)] [.int (pj_ai G0 179 z19.toInt.toNat)] _
          obtain ⟨z20, hz20⟩ : ∃ z : Int32, z = pj_ai G0 179 z19.toInt.toNat := ⟨_, rfl⟩
          refine pj_X_eqi hz20.symm ?_
          have ez20 : (pj_ai G0 179 z19.toInt.toNat).toInt = z20.toInt := by rw [hz20]
          have fz20_0 : -1 ≤ z20.toInt ∧ z20.toInt ≤ 9 := by rw [hz20]; exact ((hI.2.2.2 179 32 rfl _ (by show _ < 32; omega)).1 (by omega)).1 (by omega)
          refine pj_X_of (fun r h => pj_R_to (G0, 47, [(0, .ref 171), (1, .int b), (2, .int c)], [.int c, .int z20], 0, 0) 47 2 (fun _ => rfl) h) ?_
          cases b21 : pj_c1 .ne z20 c with
          | true =>
            have ub21 := pj_u_neT b21
            refine pj_X_of (fun r h => pj_R_icT 53 rfl rfl b21 h) ?_
            refine pj_X_of (fun r h => pj_R_to (G0, 54, [(0, .ref 171), (1, .int b), (2, .int c)], [.int c], 0, 0) 54 2 (fun _ => rfl) h) ?_
            refine pj_X_of (fun r h => pj_R_ifT 59 rfl rfl (pj_b0_geT (by omega)) h) ?_
            refine pj_X_of (fun r h => pj_R_to (G0, 60, [(0, .ref 171), (1, .int b), (2, .int c)], [.ref 171], 0, 0) 60 2 (fun _ => rfl) h) ?_
            refine pj_X_of (fun r h => pj_T_gr hI rfl rfl rfl h) ?_
            refine pj_X_of (fun r h => pj_R_to (G0, 64, [(0, .ref 171), (1, .int b), (2, .int c)], [.int b, .ref 177], 0, 0) 64 2 (fun _ => rfl) h) ?_
            refine pj_X_of (fun r h => pj_T_il hI rfl rfl (by omega) (by omega) h) ?_
            show pj_X _ _ G0 65 [(0, .ref 171), (1, .int b), (2, .int c)] [.int (pj_ai G0 177 b.toInt.toNat)] _
            obtain ⟨z22, hz22⟩ : ∃ z : Int32, z = pj_ai G0 177 b.toInt.toNat := ⟨_, rfl⟩
            refine pj_X_eqi hz22.symm ?_
            have ez22 : (pj_ai G0 177 b.toInt.toNat).toInt = z22.toInt := by rw [hz22]
            refine pj_X_of (fun r h => pj_R_to (G0, 66, [(0, .ref 171), (1, .int b), (2, .int c)], [.ref 171, .int z22], 0, 0) 66 2 (fun _ => rfl) h) ?_
            refine pj_X_of (fun r h => pj_T_gr hI rfl rfl rfl h) ?_
            refine pj_X_of (fun r h => pj_R_to (G0, 70, [(0, .ref 171), (1, .int b), (2, .int c)], [.int c, .ref 176, .int z22], 0, 0) 70 2 (fun _ => rfl) h) ?_
            refine pj_X_of (fun r h => pj_T_il hI rfl rfl (by omega) (by omega) h) ?_
            show pj_X _ _ G0 71 [(0, .ref 171), (1, .int b), (2, .int c)] [.int (pj_ai G0 176 c.toInt.toNat), .int z22] _
            obtain ⟨z23, hz23⟩ : ∃ z : Int32, z = pj_ai G0 176 c.toInt.toNat := ⟨_, rfl⟩
            refine pj_X_eqi hz23.symm ?_
            have ez23 : (pj_ai G0 176 c.toInt.toNat).toInt = z23.toInt := by rw [hz23]
            cases b24 : pj_c1 .ge z22 z23 with
            | true =>
              have ub24 := pj_u_geT b24
              refine pj_X_of (fun r h => pj_R_icT 79 rfl rfl b24 h) ?_
              refine pj_X_of (fun r h => pj_R_to (G0, 82, [(0, .ref 171), (1, .int b), (2, .int c)], [.int (Int32.ofInt 1), .int c, .ref 171], 0, 0) 82 4 (fun _ => rfl) h) ?_
              refine pj_X_ca (vs := [.ref 171, .int c, .int (Int32.ofInt 1)]) rfl (fun _ => rfl) ⟨Nat.le_of_ble_eq_true rfl, Nat.le_of_ble_eq_true rfl, pj_T_rcv hI rfl⟩ ⟨rfl, rfl⟩ (pj_Y_up (by decide) (ct_205 G0 hI c (Int32.ofInt 1) ⟨by omega, by omega⟩)) ?_
              rintro _ _ ⟨y25, rfl, rfl, ry25, ey25⟩
              show pj_X _ _ G0 85 [(0, .ref 171), (1, .int b), (2, .int c)] [.int y25] _
              cases b26 : pj_c1 .ge y25 0 with
              | true =>
                have ub26 := pj_u0_geT b26
                refine pj_X_of (fun r h => pj_R_ifT 97 rfl rfl b26 h) ?_
                refine pj_X_of (fun r h => pj_R_to (G0, 103, [(0, .ref 171), (1, .int b), (2, .int c)], [.int ((Int8.ofInt (-4)).toInt32)], 0, 0) 103 3 (fun _ => rfl) h) ?_
                exact pj_X_rt rfl rfl ⟨_, rfl, rfl, ⟨by omega, by omega⟩, by omega⟩
              | false =>
                have ub26 := pj_u0_geF b26
                refine pj_X_of (fun r h => pj_R_ifF rfl b26 h) ?_
                refine pj_X_of (fun r h => pj_R_to (G0, 91, [(0, .ref 171), (1, .int b), (2, .int c)], [.int (Int32.ofInt 0), .int c, .ref 171], 0, 0) 91 4 (fun _ => rfl) h) ?_
                refine pj_X_ca (vs := [.ref 171, .int c, .int (Int32.ofInt 0)]) rfl (fun _ => rfl) ⟨Nat.le_of_ble_eq_true rfl, Nat.le_of_ble_eq_true rfl, pj_T_rcv hI rfl⟩ ⟨rfl, rfl⟩ (pj_Y_up (by decide) (ct_205 G0 hI c (Int32.ofInt 0) ⟨by omega, by omega⟩)) ?_
                rintro _ _ ⟨y27, rfl, rfl, ry27, ey27⟩
                show pj_X _ _ G0 94 [(0, .ref 171), (1, .int b), (2, .int c)] [.int y27] _
                cases b28 : pj_c1 .lt y27 0 with
                | true =>
                  have ub28 := pj_u0_ltT b28
                  refine pj_X_of (fun r h => pj_R_ifT 102 rfl rfl b28 h) ?_
                  refine pj_X_of (fun r h => pj_R_to (G0, 103, [(0, .ref 171), (1, .int b), (2, .int c)], [.int (Int32.ofInt 0)], 0, 0) 103 2 (fun _ => rfl) h) ?_
                  exact pj_X_rt rfl rfl ⟨_, rfl, rfl, ⟨by omega, by omega⟩, by omega⟩
                | false =>
                  have ub28 := pj_u0_ltF b28
                  refine pj_X_of (fun r h => pj_R_ifF rfl b28 h) ?_
                  refine pj_X_of (fun r h => pj_R_to (G0, 103, [(0, .ref 171), (1, .int b), (2, .int c)], [.int ((Int8.ofInt (-4)).toInt32)], 0, 0) 103 3 (fun _ => rfl) h) ?_
                  exact pj_X_rt rfl rfl ⟨_, rfl, rfl, ⟨by omega, by omega⟩, by omega⟩
            | false =>
              have ub24 := pj_u_geF b24
              refine pj_X_of (fun r h => pj_R_icF rfl b24 h) ?_
              refine pj_X_of (fun r h => pj_R_to (G0, 103, [(0, .ref 171), (1, .int b), (2, .int c)], [.int ((Int8.ofInt (-3)).toInt32)], 0, 0) 103 3 (fun _ => rfl) h) ?_
              exact pj_X_rt rfl rfl ⟨_, rfl, rfl, ⟨by omega, by omega⟩, by omega⟩
          | false =>
            have ub21 := pj_u_neF b21
            refine pj_X_of (fun r h => pj_R_icF rfl b21 h) ?_
            refine pj_X_of (fun r h => pj_R_to (G0, 52, [(0, .ref 171), (1, .int b), (2, .int c)], [.int ((Int8.ofInt (-2)).toInt32)], 0, 0) 52 2 (fun _ => rfl) h) ?_
            exact pj_X_rt rfl rfl ⟨_, rfl, rfl, ⟨by omega, by omega⟩, by omega⟩
      | false =>
        have ub13 := pj_u0_neF b13
        refine pj_X_of (fun r h => pj_R_ifF rfl b13 h) ?_
        refine pj_X_of (fun r h => pj_R_to (G0, 22, [(0, .ref 171), (1, .int b), (2, .int c)], [.int (Int32.ofInt (-1))], 0, 0) 22 2 (fun _ => rfl) h) ?_
        exact pj_X_rt rfl rfl ⟨_, rfl, rfl, ⟨by omega, by omega⟩, by omega⟩
def kc_219 : pj_KT := ([(171, 0)], [171, 184, 185], [184, 185])
theorem ct_219 (G0 : pj_G) (hI : pj_Inv G0) (b : Int32) (c : Int32) (p0_ : pj_RI G0) : pj_Y 6 219 [.ref 171, .int b, .int c] G0 (fun v G' => ∃ y : Int32, v = some (.int y) ∧ pj_Inv G' ∧ pj_kpt kc_219 G0 G' ∧ ((-4 : Int) ≤ y.toInt ∧ y.toInt ≤ 99)) := by
  have c0_ : (Int32.ofInt 0).toInt = 0 := by decide
  refine pj_Y_X (M := pj_m219) rfl rfl (Nat.le_of_ble_eq_true rfl) ?_
  have hK : pj_kpt kc_219 G0 G0 := pj_kpt_r _ _
  show pj_X _ _ G0 0 [(0, .ref 171), (1, .int b), (2, .int c)] [] _
  refine pj_X_of (fun r h => pj_R_to (G0, 2, [(0, .ref 171), (1, .int b), (2, .int c)], [.int (Int32.ofInt 0), .ref 171], 0, 0) 2 3 (fun _ => rfl) h) ?_
  refine pj_X_of (fun r h => pj_T_pf hI rfl rfl rfl h) ?_
  show pj_X _ _ (pj_wv G0 171 0 (.int (Int32.ofInt 0))) 5 [(0, .ref 171), (1, .int b), (2, .int c)] [] _
  obtain ⟨G1, hG1⟩ : ∃ H, H = pj_wv G0 171 0 (.int (Int32.ofInt 0)) := ⟨_, rfl⟩
  have iG1 : pj_Inv G1 := by rw [hG1]; exact pj_Inv_wi hI (ci := 12) rfl (fun q hq => by cases hq)
  have kG1 : pj_kpt kc_219 G0 G1 := by rw [hG1]; exact pj_kpt_v hK rfl
  rw [← hG1]
  refine pj_X_of (fun r h => pj_R_to (G1, 8, [(0, .ref 171), (1, .int b), (2, .int c)], [.int c, .int b, .ref 171], 0, 0) 8 4 (fun _ => rfl) h) ?_
  refine pj_X_ca (vs := [.ref 171, .int b, .int c]) rfl (fun _ => rfl) ⟨Nat.le_of_ble_eq_true rfl, Nat.le_of_ble_eq_true rfl, pj_T_rcv iG1 rfl⟩ ⟨rfl, rfl⟩ (pj_Y_up (by decide) (ct_218 G1 iG1 b c)) ?_
  rintro _ _ ⟨y2, rfl, rfl, ry2, ey2⟩
  show pj_X _ _ G1 11 [(0, .ref 171), (1, .int b), (2, .int c)] [.int y2] _
  refine pj_X_of (fun r h => pj_R_to (G1, 13, [(3, .int y2), (0, .ref 171), (1, .int b), (2, .int c)], [.int y2], 0, 0) 13 3 (fun _ => rfl) h) ?_
  cases b3 : pj_c1 .ge y2 0 with
  | true =>
    have ub3 := pj_u0_geT b3
    refine pj_X_of (fun r h => pj_R_ifT 20 rfl rfl b3 h) ?_
    refine pj_X_of (fun r h => pj_R_to (G1, 23, [(3, .int y2), (0, .ref 171), (1, .int b), (2, .int c)], [.int c, .int b, .ref 171], 0, 0) 23 4 (fun _ => rfl) h) ?_
    refine pj_X_ca (vs := [.ref 171, .int b, .int c]) rfl (fun _ => rfl) ⟨Nat.le_of_ble_eq_true rfl, Nat.le_of_ble_eq_true rfl, pj_T_rcv iG1 rfl⟩ ⟨rfl, rfl⟩ (pj_Y_up (by decide) (ct_204 G1 iG1 b c ⟨by omega, by omega⟩ ⟨by omega, by omega⟩ (pj_RI_k p0_ kG1 rfl))) ?_
    rintro _ G5 ⟨y4, rfl, iG5, jG5, ry4⟩
    have kG5 : pj_kpt kc_219 G0 G5 := pj_kpt_t kG1 (pj_kpt_s jG5 rfl)
    show pj_X _ _ G5 26 [(3, .int y2), (0, .ref 171), (1, .int b), (2, .int c)] [.int y4] _
    exact pj_X_rt rfl rfl ⟨_, rfl, iG5, kG5, ⟨by omega, by omega⟩⟩
  | false =>
    have ub3 := pj_u0_geF b3
    refine pj_X_of (fun r h => pj_R_ifF rfl b3 h) ?_
    refine pj_X_of (fun r h => pj_R_to (G1, 26, [(3, .int y2), (0, .ref 171), (1, .int b), (2, .int c)], [.int y2], 0, 0) 26 3 (fun _ => rfl) h) ?_
    exact pj_X_rt rfl rfl ⟨_, rfl, iG1, kG1, ⟨by omega, by omega⟩⟩
def kc_220 : pj_KT := ([], [179, 184, 185], [179, 184, 185])
theorem ct_220 (G0 : pj_G) (hI : pj_Inv G0) (b : Int32) (c : Int32) (p0_ : pj_RI G0) : pj_Y 6 220 [.ref 171, .int b, .int c] G0 (fun v G' => ∃ y : Int32, v = some (.int y) ∧ pj_Inv G' ∧ pj_kpt kc_220 G0 G' ∧ ((-4 : Int) ≤ y.toInt ∧ y.toInt ≤ 99)) := by
  have c0_ : (Int32.ofInt 0).toInt = 0 := by decide
  have c1_ : (Int32.ofInt 1).toInt = 1 := by decide
  have c2_ : (Int32.ofInt 4).toInt = 4 := by decide
  refine pj_Y_X (M := pj_m220) rfl rfl (Nat.le_of_ble_eq_true rfl) ?_
  have hK : pj_kpt kc_220 G0 G0 := pj_kpt_r _ _
  show pj_X _ _ G0 0 [(0, .ref 171), (1, .int b), (2, .int c)] [] _
  refine pj_X_of (fun r h => pj_R_to (G0, 3, [(0, .ref 171), (1, .int b), (2, .int c)], [.int c, .int b, .ref 171], 0, 0) 3 4 (fun _ => rfl) h) ?_
  refine pj_X_ca (vs := [.ref 171, .int b, .int c]) rfl (fun _ => rfl) ⟨Nat.le_of_ble_eq_true rfl, Nat.le_of_ble_eq_true rfl, pj_T_rcv hI rfl⟩ ⟨rfl, rfl⟩ (pj_Y_up (by decide) (ct_218 G0 hI b c)) ?_
  rintro _ _ ⟨y1, rfl, rfl, ry1, ey1⟩
  show pj_X _ _ G0 6 [(0, .ref 171), (1, .int b), (2, .int c)] [.int y1] _
  refine pj_X_of (fun r h => pj_R_to (G0, 8, [(3, .int y1), (0, .ref 171), (1, .int b), (2, .int c)], [.int y1], 0, 0) 8 3 (fun _ => rfl) h) ?_
  cases b2 : pj_c1 .ge y1 0 with
  | true =>
    have ub2 := pj_u0_geT b2
    refine pj_X_of (fun r h => pj_R_ifT 13 rfl rfl b2 h) ?_
    refine pj_X_of (fun r h => pj_R_to (G0, 16, [(3, .int y1), (0, .ref 171), (1, .int b), (2, .int c)], [.int c, .int b, .ref 171], 0, 0) 16 4 (fun _ => rfl) h) ?_
    refine pj_X_ca (vs := [.ref 171, .int b, .int c]) rfl (fun _ => rfl) ⟨Nat.le_of_ble_eq_true rfl, Nat.le_of_ble_eq_true rfl, pj_T_rcv hI rfl⟩ ⟨rfl, rfl⟩ (pj_Y_up (by decide) (ct_204 G0 hI b c ⟨by omega, by omega⟩ ⟨by omega, by omega⟩ (pj_RI_k p0_ hK rfl))) ?_
    rintro _ G4 ⟨y3, rfl, iG4, jG4, ry3⟩
    have kG4 : pj_kpt kc_220 G0 G4 := pj_kpt_t hK (pj_kpt_s jG4 rfl)
    show pj_X _ _ G4 19 [(3, .int y1), (0, .ref 171), (1, .int b), (2, .int c)] [.int y3] _
    refine pj_X_of (fun r h => pj_R_to (G4, 22, [(4, .int y3), (3, .int y1), (0, .ref 171), (1, .int b), (2, .int c)], [.ref 171], 0, 0) 22 3 (fun _ => rfl) h) ?_
    refine pj_X_of (fun r h => pj_T_gr iG4 rfl rfl rfl h) ?_
    refine pj_X_of (fun r h => pj_R_to (G4, 28, [(4, .int y3), (3, .int y1), (0, .ref 171), (1, .int b), (2, .int c)], [.int ((Int32.ofInt 4) * b), .ref 179], 0, 0) 28 4 (fun _ => rfl) h) ?_
    obtain ⟨z5, hz5⟩ : ∃ z : Int32, z = (Int32.ofInt 4) * b := ⟨_, rfl⟩
    refine pj_X_eqi hz5.symm ?_
    have fz5_0 : z5.toInt = 4 * b.toInt := by rw [hz5]; exact pj_mulL (by decide) (by omega) (by omega)
    refine pj_X_of (fun r h => pj_R_to (G4, 30, [(4, .int y3), (3, .int y1), (0, .ref 171), (1, .int b), (2, .int c)], [.int (z5 + (Int32.ofInt 0)), .ref 179], 0, 0) 30 3 (fun _ => rfl) h) ?_
    obtain ⟨z6, hz6⟩ : ∃ z : Int32, z = z5 + (Int32.ofInt 0) := ⟨_, rfl⟩
    refine pj_X_eqi hz6.symm ?_
    have fz6_0 : z6.toInt = z5.toInt + (Int32.ofInt 0).toInt := by rw [hz6]; exact pj_addI (by have := pj_i32 z5; have := pj_i32 (Int32.ofInt 0); omega) (by have := pj_i32 z5; have := pj_i32 (Int32.ofInt 0); omega)
    refine pj_X_of (fun r h => pj_R_to (G4, 31, [(4, .int y3), (3, .int y1), (0, .ref 171), (1, .int b), (2, .int c)], [.int c, .int z6, .ref 179], 0, 0) 31 2 (fun _ => rfl) h) ?_
    refine pj_X_of (fun r h => pj_T_is iG4 rfl rfl (by omega) (by omega) h) ?_
    show pj_X _ _ (pj_wa G4 179 z6.toInt.toNat c) 32 [(4, .int y3), (3, .int y1), (0, .ref 171), (1, .int b), (2, .int c)] [] _
    obtain ⟨G7, hG7⟩ : ∃ H, H = pj_wa G4 179 z6.toInt.toNat c := ⟨_, rfl⟩
    have iG7 : pj_Inv G7 := by rw [hG7]; exact pj_Inv_wa iG4 rfl (fun q hq => by cases hq) (fun n hn => ⟨fun h1 => ⟨fun h2 => by omega, fun h2 => by omega⟩, fun h1 => by omega⟩)
    have kG7 : pj_kpt kc_220 G0 G7 := by rw [hG7]; exact pj_kpt_a kG4 rfl
    rw [← hG7]
    refine pj_X_of (fun r h => pj_R_to (G7, 33, [(4, .int y3), (3, .int y1), (0, .ref 171), (1, .int b), (2, .int c)], [.ref 171], 0, 0) 33 2 (fun _ => rfl) h) ?_
    refine pj_X_of (fun r h => pj_T_gr iG7 rfl rfl rfl h) ?_
    refine pj_X_of (fun r h => pj_R_to (G7, 39, [(4, .int y3), (3, .int y1), (0, .ref 171), (1, .int b), (2, .int c)], [.int ((Int32.ofInt 4) * b), .ref 179], 0, 0) 39 4 (fun _ => rfl) h) ?_
    obtain ⟨z8, hz8⟩ : ∃ z : Int32, z = (Int32.ofInt 4) * b := ⟨_, rfl⟩
    refine pj_X_eqi hz8.symm ?_
    have fz8_0 : z8.toInt = 4 * b.toInt := by rw [hz8]; exact pj_mulL (by decide) (by omega) (by omega)
    refine pj_X_of (fun r h => pj_R_to (G7, 41, [(4, .int y3), (3, .int y1), (0, .ref 171), (1, .int b), (2, .int c)], [.int (z8 + (Int32.ofInt 1)), .ref 179], 0, 0) 41 3 (fun _ => rfl) h) ?_
    obtain ⟨z9, hz9⟩ : ∃ z : Int32, z = z8 + (Int32.ofInt 1) := ⟨_, rfl⟩
    refine pj_X_eqi hz9.symm ?_
    have fz9_0 : z9.toInt = z8.toInt + (Int32.ofInt 1).toInt := by rw [hz9]; exact pj_addI (by have := pj_i32 z8; have := pj_i32 (Int32.ofInt 1); omega) (by have := pj_i32 z8; have := pj_i32 (Int32.ofInt 1); omega)
    refine pj_X_of (fun r h => pj_R_to (G7, 43, [(4, .int y3), (3, .int y1), (0, .ref 171), (1, .int b), (2, .int c)], [.int y3, .int z9, .ref 179], 0, 0) 43 2 (fun _ => rfl) h) ?_
    refine pj_X_of (fun r h => pj_T_is iG7 rfl rfl (by omega) (by omega) h) ?_
    show pj_X _ _ (pj_wa G7 179 z9.toInt.toNat y3) 44 [(4, .int y3), (3, .int y1), (0, .ref 171), (1, .int b), (2, .int c)] [] _
    obtain ⟨G10, hG10⟩ : ∃ H, H = pj_wa G7 179 z9.toInt.toNat y3 := ⟨_, rfl⟩
    have iG10 : pj_Inv G10 := by rw [hG10]; exact pj_Inv_wa iG7 rfl (fun q hq => by cases hq) (fun n hn => ⟨fun h1 => ⟨fun h2 => by omega, fun h2 => by omega⟩, fun h1 => by omega⟩)
    have kG10 : pj_kpt kc_220 G0 G10 := by rw [hG10]; exact pj_kpt_a kG7 rfl
    rw [← hG10]
    refine pj_X_of (fun r h => pj_R_to (G10, 46, [(4, .int y3), (3, .int y1), (0, .ref 171), (1, .int b), (2, .int c)], [.int y3], 0, 0) 46 2 (fun _ => rfl) h) ?_
    exact pj_X_rt rfl rfl ⟨_, rfl, iG10, kG10, ⟨by omega, by omega⟩⟩
  | false =>
    have ub2 := pj_u0_geF b2
    refine pj_X_of (fun r h => pj_R_ifF rfl b2 h) ?_
    refine pj_X_of (fun r h => pj_R_to (G0, 12, [(3, .int y1), (0, .ref 171), (1, .int b), (2, .int c)], [.int y1], 0, 0) 12 2 (fun _ => rfl) h) ?_
    exact pj_X_rt rfl rfl ⟨_, rfl, hI, hK, ⟨by omega, by omega⟩⟩
def kc_221 : pj_KT := ([(171, 32)], [171, 179], [179])
theorem ct_221 (G0 : pj_G) (hI : pj_Inv G0) (b : Int32) (hr : Int32) : pj_Y 3 221 [.ref 171, .int b, .int hr] G0 (fun v G' => ∃ y : Int32, v = some (.int y) ∧ pj_Inv G' ∧ pj_kpt kc_221 G0 G' ∧ ((-2147483648 : Int) ≤ y.toInt ∧ y.toInt ≤ 2147483647)) := by
  have c0_ : ((Int8.ofInt (-2)).toInt32).toInt = -2 := by decide
  have c1_ : ((Int8.ofInt (-3)).toInt32).toInt = -3 := by decide
  have c2_ : ((Int8.ofInt 30).toInt32).toInt = 30 := by decide
  have c3_ : (Int32.ofInt (-1)).toInt = -1 := by decide
  have c4_ : (Int32.ofInt 0).toInt = 0 := by decide
  have c5_ : (Int32.ofInt 1).toInt = 1 := by decide
  have c6_ : (Int32.ofInt 2).toInt = 2 := by decide
  have c7_ : (Int32.ofInt 4).toInt = 4 := by decide
  refine pj_Y_X (M := pj_m221) rfl rfl (Nat.le_of_ble_eq_true rfl) ?_
  have hK : pj_kpt kc_221 G0 G0 := pj_kpt_r _ _
  show pj_X _ _ G0 0 [(0, .ref 171), (1, .int b), (2, .int hr)] [] _
  refine pj_X_of (fun r h => pj_R_to (G0, 2, [(0, .ref 171), (1, .int b), (2, .int hr)], [.int (Int32.ofInt 0), .ref 171], 0, 0) 2 3 (fun _ => rfl) h) ?_
  refine pj_X_of (fun r h => pj_T_pf hI rfl rfl rfl h) ?_
  show pj_X _ _ (pj_wv G0 171 32 (.int (Int32.ofInt 0))) 5 [(0, .ref 171), (1, .int b), (2, .int hr)] [] _
  obtain ⟨G1, hG1⟩ : ∃ H, H = pj_wv G0 171 32 (.int (Int32.ofInt 0)) := ⟨_, rfl⟩
  have iG1 : pj_Inv G1 := by rw [hG1]; exact pj_Inv_wi hI (ci := 12) rfl (fun q hq => by cases hq; exact ⟨by show (0 : Int) ≤ _; omega, by show _ ≤ (1 : Int); omega⟩)
  have kG1 : pj_kpt kc_221 G0 G1 := by rw [hG1]; exact pj_kpt_v hK rfl
  rw [← hG1]
  refine pj_X_of (fun r h => pj_R_to (G1, 7, [(0, .ref 171), (1, .int b), (2, .int hr)], [.int b, .ref 171], 0, 0) 7 3 (fun _ => rfl) h) ?_
  refine pj_X_ca (vs := [.ref 171, .int b]) rfl (fun _ => rfl) ⟨Nat.le_of_ble_eq_true rfl, Nat.le_of_ble_eq_true rfl, pj_T_rcv iG1 rfl⟩ ⟨rfl, rfl⟩ (pj_Y_up (by decide) (ct_177 G1 iG1 b)) ?_
  rintro _ _ ⟨y2, rfl, rfl, ry2, ey2⟩
  show pj_X _ _ G1 10 [(0, .ref 171), (1, .int b), (2, .int hr)] [.int y2] _
  cases b3 : pj_c1 .ne y2 0 with
  | true =>
    have ub3 := pj_u0_neT b3
    refine pj_X_of (fun r h => pj_R_ifT 16 rfl rfl b3 h) ?_
    refine pj_X_of (fun r h => pj_R_to (G1, 18, [(0, .ref 171), (1, .int b), (2, .int hr)], [.int (Int32.ofInt (-1)), .int hr], 0, 0) 18 3 (fun _ => rfl) h) ?_
    cases b4 : pj_c1 .eq hr (Int32.ofInt (-1)) with
    | true =>
      have ub4 := pj_u_eqT b4
      refine pj_X_of (fun r h => pj_R_icT 45 rfl rfl b4 h) ?_
      refine pj_X_of (fun r h => pj_R_to (G1, 47, [(0, .ref 171), (1, .int b), (2, .int hr)], [.int (Int32.ofInt 1), .ref 171], 0, 0) 47 3 (fun _ => rfl) h) ?_
      refine pj_X_of (fun r h => pj_T_pf iG1 rfl rfl rfl h) ?_
      show pj_X _ _ (pj_wv G1 171 32 (.int (Int32.ofInt 1))) 50 [(0, .ref 171), (1, .int b), (2, .int hr)] [] _
      obtain ⟨G5, hG5⟩ : ∃ H, H = pj_wv G1 171 32 (.int (Int32.ofInt 1)) := ⟨_, rfl⟩
      have iG5 : pj_Inv G5 := by rw [hG5]; exact pj_Inv_wi iG1 (ci := 12) rfl (fun q hq => by cases hq; exact ⟨by show (0 : Int) ≤ _; omega, by show _ ≤ (1 : Int); omega⟩)
      have kG5 : pj_kpt kc_221 G0 G5 := by rw [hG5]; exact pj_kpt_v kG1 rfl
      rw [← hG5]
      refine pj_X_of (fun r h => pj_R_to (G5, 51, [(0, .ref 171), (1, .int b), (2, .int hr)], [.ref 171], 0, 0) 51 2 (fun _ => rfl) h) ?_
      refine pj_X_of (fun r h => pj_T_gr iG5 rfl rfl rfl h) ?_
      refine pj_X_of (fun r h => pj_R_to (G5, 57, [(0, .ref 171), (1, .int b), (2, .int hr)], [.int ((Int32.ofInt 4) * b), .ref 179], 0, 0) 57 4 (fun _ => rfl) h) ?_
      obtain ⟨z6, hz6⟩ : ∃ z : Int32, z = (Int32.ofInt 4) * b := ⟨_, rfl⟩
      refine pj_X_eqi hz6.symm ?_
      have fz6_0 : z6.toInt = 4 * b.toInt := by rw [hz6]; exact pj_mulL (by decide) (by omega) (by omega)
      refine pj_X_of (fun r h => pj_R_to (G5, 59, [(0, .ref 171), (1, .int b), (2, .int hr)], [.int (z6 + (Int32.ofInt 2)), .ref 179], 0, 0) 59 3 (fun _ => rfl) h) ?_
      obtain ⟨z7, hz7⟩ : ∃ z : Int32, z = z6 + (Int32.ofInt 2) := ⟨_, rfl⟩
      refine pj_X_eqi hz7.symm ?_
      have fz7_0 : z7.toInt = z6.toInt + (Int32.ofInt 2).toInt := by rw [hz7]; exact pj_addI (by have := pj_i32 z6; have := pj_i32 (Int32.ofInt 2); omega) (by have := pj_i32 z6; have := pj_i32 (Int32.ofInt 2); omega)
      refine pj_X_of (fun r h => pj_T_il iG5 rfl rfl (by omega) (by omega) h) ?_
      show pj_X _ _ G5 60 [(0, .ref 171), (1, .int b), (2, .int hr)] [.int (pj_ai G5 179 z7.toInt.toNat)] _
      obtain ⟨z8, hz8⟩ : ∃ z : Int32, z = pj_ai G5 179 z7.toInt.toNat := ⟨_, rfl⟩
      refine pj_X_eqi hz8.symm ?_
      have ez8 : (pj_ai G5 179 z7.toInt.toNat).toInt = z8.toInt := by rw [hz8]
      refine pj_X_of (fun r h => pj_R_to (G5, 62, [(3, .int z8), (0, .ref 171), (1, .int b), (2, .int hr)], [.ref 171], 0, 0) 62 3 (fun _ => rfl) h) ?_
      refine pj_X_of (fun r h => pj_T_gr iG5 rfl rfl rfl h) ?_
      refine pj_X_of (fun r h => pj_R_to (G5, 68, [(3, .int z8), (0, .ref 171), (1, .int b), (2, .int hr)], [.int ((Int32.ofInt 4) * b), .ref 179], 0, 0) 68 4 (fun _ => rfl) h) ?_
      obtain ⟨z9, hz9⟩ : ∃ z : Int32, z = (Int32.ofInt 4) * b := ⟨_, rfl⟩
      refine pj_X_eqi hz9.symm ?_
      have fz9_0 : z9.toInt = 4 * b.toInt := by rw [hz9]; exact pj_mulL (by decide) (by omega) (by omega)
      refine pj_X_of (fun r h => pj_R_to (G5, 70, [(3, .int z8), (0, .ref 171), (1, .int b), (2, .int hr)], [.int (z9 + (Int32.ofInt 2)), .ref 179], 0, 0) 70 3 (fun _ => rfl) h) ?_
      obtain ⟨z10, hz10⟩ : ∃ z : Int32, z = z9 + (Int32.ofInt 2) := ⟨_, rfl⟩
      refine pj_X_eqi hz10.symm ?_
      have fz10_0 : z10.toInt = z9.toInt + (Int32.ofInt 2).toInt := by rw [hz10]; exact pj_addI (by have := pj_i32 z9; have := pj_i32 (Int32.ofInt 2); omega) (by have := pj_i32 z9; have := pj_i32 (Int32.ofInt 2); omega)
      refine pj_X_of (fun r h => pj_R_to (G5, 71, [(3, .int z8), (0, .ref 171), (1, .int b), (2, .int hr)], [.int hr, .int z10, .ref 179], 0, 0) 71 2 (fun _ => rfl) h) ?_
      refine pj_X_of (fun r h => pj_T_is iG5 rfl rfl (by omega) (by omega) h) ?_
      show pj_X _ _ (pj_wa G5 179 z10.toInt.toNat hr) 72 [(3, .int z8), (0, .ref 171), (1, .int b), (2, .int hr)] [] _
      obtain ⟨G11, hG11⟩ : ∃ H, H = pj_wa G5 179 z10.toInt.toNat hr := ⟨_, rfl⟩
      have iG11 : pj_Inv G11 := by rw [hG11]; exact pj_Inv_wa iG5 rfl (fun q hq => by cases hq) (fun n hn => ⟨fun h1 => ⟨fun h2 => by omega, fun h2 => by omega⟩, fun h1 => by omega⟩)
      have kG11 : pj_kpt kc_221 G0 G11 := by rw [hG11]; exact pj_kpt_a kG5 rfl
      rw [← hG11]
      refine pj_X_of (fun r h => pj_R_to (G11, 73, [(3, .int z8), (0, .ref 171), (1, .int b), (2, .int hr)], [.int z8], 0, 0) 73 2 (fun _ => rfl) h) ?_
      exact pj_X_rt rfl rfl ⟨_, rfl, iG11, kG11, pj_i32 _⟩
    | false =>
      have ub4 := pj_u_eqF b4
      refine pj_X_of (fun r h => pj_R_icF rfl b4 h) ?_
      refine pj_X_of (fun r h => pj_R_to (G1, 24, [(0, .ref 171), (1, .int b), (2, .int hr)], [.ref 171, .long hr.toInt64], 0, 0) 24 4 (fun _ => rfl) h) ?_
      refine pj_X_of (fun r h => pj_T_gr iG1 rfl rfl rfl h) ?_
      refine pj_X_of (fun r h => pj_R_to (G1, 29, [(0, .ref 171), (1, .int b), (2, .int hr)], [.int ((Int8.ofInt 30).toInt32), .ref 179, .long hr.toInt64], 0, 0) 29 2 (fun _ => rfl) h) ?_
      refine pj_X_of (fun r h => pj_T_il iG1 rfl rfl (by omega) (by omega) h) ?_
      show pj_X _ _ G1 30 [(0, .ref 171), (1, .int b), (2, .int hr)] [.int (pj_ai G1 179 ((Int8.ofInt 30).toInt32).toInt.toNat), .long hr.toInt64] _
      obtain ⟨z12, hz12⟩ : ∃ z : Int32, z = pj_ai G1 179 ((Int8.ofInt 30).toInt32).toInt.toNat := ⟨_, rfl⟩
      refine pj_X_eqi hz12.symm ?_
      have ez12 : (pj_ai G1 179 ((Int8.ofInt 30).toInt32).toInt.toNat).toInt = z12.toInt := by rw [hz12]
      refine pj_X_of (fun r h => pj_R_to (G1, 32, [(0, .ref 171), (1, .int b), (2, .int hr)], [.int (z12 + (Int32.ofInt 1)), .long hr.toInt64], 0, 0) 32 3 (fun _ => rfl) h) ?_
      obtain ⟨z13, hz13⟩ : ∃ z : Int32, z = z12 + (Int32.ofInt 1) := ⟨_, rfl⟩
      refine pj_X_eqi hz13.symm ?_
      refine pj_X_of (fun r h => pj_R_to (G1, 36, [(0, .ref 171), (1, .int b), (2, .int hr)], [.long (Int64.ofInt 999999), .long z13.toInt64, .long hr.toInt64], 0, 0) 36 3 (fun _ => rfl) h) ?_
      have lc14 : (hr.toInt64).toInt = hr.toInt := Int32.toInt_toInt64 _
      have lc15 : (z13.toInt64).toInt = z13.toInt := Int32.toInt_toInt64 _
      have lc16 : (Int64.ofInt 999999).toInt = 999999 := by decide
      refine pj_X_ca (vs := [.long hr.toInt64, .long z13.toInt64, .long (Int64.ofInt 999999)]) rfl (fun _ => rfl) ⟨Nat.le_of_ble_eq_true rfl, Nat.le_of_ble_eq_true rfl, rfl⟩ ⟨rfl, rfl⟩ (pj_Y_up (by decide) (ct_170 G1 iG1 hr.toInt64 z13.toInt64 (Int64.ofInt 999999))) ?_
      rintro _ _ ⟨y17, rfl, rfl, ry17, ey17⟩
      show pj_X _ _ G1 39 [(0, .ref 171), (1, .int b), (2, .int hr)] [.int y17] _
      cases b18 : pj_c1 .ne y17 0 with
      | true =>
        have ub18 := pj_u0_neT b18
        refine pj_X_of (fun r h => pj_R_ifT 45 rfl rfl b18 h) ?_
        refine pj_X_of (fun r h => pj_R_to (G1, 47, [(0, .ref 171), (1, .int b), (2, .int hr)], [.int (Int32.ofInt 1), .ref 171], 0, 0) 47 3 (fun _ => rfl) h) ?_
        refine pj_X_of (fun r h => pj_T_pf iG1 rfl rfl rfl h) ?_
        show pj_X _ _ (pj_wv G1 171 32 (.int (Int32.ofInt 1))) 50 [(0, .ref 171), (1, .int b), (2, .int hr)] [] _
        obtain ⟨G19, hG19⟩ : ∃ H, H = pj_wv G1 171 32 (.int (Int32.ofInt 1)) := ⟨_, rfl⟩
        have iG19 : pj_Inv G19 := by rw [hG19]; exact pj_Inv_wi iG1 (ci := 12) rfl (fun q hq => by cases hq; exact ⟨by show (0 : Int) ≤ _; omega, by show _ ≤ (1 : Int); omega⟩)
        have kG19 : pj_kpt kc_221 G0 G19 := by rw [hG19]; exact pj_kpt_v kG1 rfl
        rw [← hG19]
        refine pj_X_of (fun r h => pj_R_to (G19, 51, [(0, .ref 171), (1, .int b), (2, .int hr)], [.ref 171], 0, 0) 51 2 (fun _ => rfl) h) ?_
        refine pj_X_of (fun r h => pj_T_gr iG19 rfl rfl rfl h) ?_
        refine pj_X_of (fun r h => pj_R_to (G19, 57, [(0, .ref 171), (1, .int b), (2, .int hr)], [.int ((Int32.ofInt 4) * b), .ref 179], 0, 0) 57 4 (fun _ => rfl) h) ?_
        obtain ⟨z20, hz20⟩ : ∃ z : Int32, z = (Int32.ofInt 4) * b := ⟨_, rfl⟩
        refine pj_X_eqi hz20.symm ?_
        have fz20_0 : z20.toInt = 4 * b.toInt := by rw [hz20]; exact pj_mulL (by decide) (by omega) (by omega)
        refine pj_X_of (fun r h => pj_R_to (G19, 59, [(0, .ref 171), (1, .int b), (2, .int hr)], [.int (z20 + (Int32.ofInt 2)), .ref 179], 0, 0) 59 3 (fun _ => rfl) h) ?_
        obtain ⟨z21, hz21⟩ : ∃ z : Int32, z = z20 + (Int32.ofInt 2) := ⟨_, rfl⟩
        refine pj_X_eqi hz21.symm ?_
        have fz21_0 : z21.toInt = z20.toInt + (Int32.ofInt 2).toInt := by rw [hz21]; exact pj_addI (by have := pj_i32 z20; have := pj_i32 (Int32.ofInt 2); omega) (by have := pj_i32 z20; have := pj_i32 (Int32.ofInt 2); omega)
        refine pj_X_of (fun r h => pj_T_il iG19 rfl rfl (by omega) (by omega) h) ?_
        show pj_X _ _ G19 60 [(0, .ref 171), (1, .int b), (2, .int hr)] [.int (pj_ai G19 179 z21.toInt.toNat)] _
        obtain ⟨z22, hz22⟩ : ∃ z : Int32, z = pj_ai G19 179 z21.toInt.toNat := ⟨_, rfl⟩
        refine pj_X_eqi hz22.symm ?_
        have ez22 : (pj_ai G19 179 z21.toInt.toNat).toInt = z22.toInt := by rw [hz22]
        refine pj_X_of (fun r h => pj_R_to (G19, 62, [(3, .int z22), (0, .ref 171), (1, .int b), (2, .int hr)], [.ref 171], 0, 0) 62 3 (fun _ => rfl) h) ?_
        refine pj_X_of (fun r h => pj_T_gr iG19 rfl rfl rfl h) ?_
        refine pj_X_of (fun r h => pj_R_to (G19, 68, [(3, .int z22), (0, .ref 171), (1, .int b), (2, .int hr)], [.int ((Int32.ofInt 4) * b), .ref 179], 0, 0) 68 4 (fun _ => rfl) h) ?_
        obtain ⟨z23, hz23⟩ : ∃ z : Int32, z = (Int32.ofInt 4) * b := ⟨_, rfl⟩
        refine pj_X_eqi hz23.symm ?_
        have fz23_0 : z23.toInt = 4 * b.toInt := by rw [hz23]; exact pj_mulL (by decide) (by omega) (by omega)
        refine pj_X_of (fun r h => pj_R_to (G19, 70, [(3, .int z22), (0, .ref 171), (1, .int b), (2, .int hr)], [.int (z23 + (Int32.ofInt 2)), .ref 179], 0, 0) 70 3 (fun _ => rfl) h) ?_
        obtain ⟨z24, hz24⟩ : ∃ z : Int32, z = z23 + (Int32.ofInt 2) := ⟨_, rfl⟩
        refine pj_X_eqi hz24.symm ?_
        have fz24_0 : z24.toInt = z23.toInt + (Int32.ofInt 2).toInt := by rw [hz24]; exact pj_addI (by have := pj_i32 z23; have := pj_i32 (Int32.ofInt 2); omega) (by have := pj_i32 z23; have := pj_i32 (Int32.ofInt 2); omega)
        refine pj_X_of (fun r h => pj_R_to (G19, 71, [(3, .int z22), (0, .ref 171), (1, .int b), (2, .int hr)], [.int hr, .int z24, .ref 179], 0, 0) 71 2 (fun _ => rfl) h) ?_
        refine pj_X_of (fun r h => pj_T_is iG19 rfl rfl (by omega) (by omega) h) ?_
        show pj_X _ _ (pj_wa G19 179 z24.toInt.toNat hr) 72 [(3, .int z22), (0, .ref 171), (1, .int b), (2, .int hr)] [] _
        obtain ⟨G25, hG25⟩ : ∃ H, H = pj_wa G19 179 z24.toInt.toNat hr := ⟨_, rfl⟩
        have iG25 : pj_Inv G25 := by rw [hG25]; exact pj_Inv_wa iG19 rfl (fun q hq => by cases hq) (fun n hn => ⟨fun h1 => ⟨fun h2 => by omega, fun h2 => by omega⟩, fun h1 => by omega⟩)
        have kG25 : pj_kpt kc_221 G0 G25 := by rw [hG25]; exact pj_kpt_a kG19 rfl
        rw [← hG25]
        refine pj_X_of (fun r h => pj_R_to (G25, 73, [(3, .int z22), (0, .ref 171), (1, .int b), (2, .int hr)], [.int z22], 0, 0) 73 2 (fun _ => rfl) h) ?_
        exact pj_X_rt rfl rfl ⟨_, rfl, iG25, kG25, pj_i32 _⟩
      | false =>
        have ub18 := pj_u0_neF b18
        refine pj_X_of (fun r h => pj_R_ifF rfl b18 h) ?_
        refine pj_X_of (fun r h => pj_R_to (G1, 44, [(0, .ref 171), (1, .int b), (2, .int hr)], [.int ((Int8.ofInt (-2)).toInt32)], 0, 0) 44 2 (fun _ => rfl) h) ?_
        exact pj_X_rt rfl rfl ⟨_, rfl, iG1, kG1, pj_i32 _⟩
  | false =>
    have ub3 := pj_u0_neF b3
    refine pj_X_of (fun r h => pj_R_ifF rfl b3 h) ?_
    refine pj_X_of (fun r h => pj_R_to (G1, 15, [(0, .ref 171), (1, .int b), (2, .int hr)], [.int ((Int8.ofInt (-3)).toInt32)], 0, 0) 15 2 (fun _ => rfl) h) ?_
    exact pj_X_rt rfl rfl ⟨_, rfl, iG1, kG1, pj_i32 _⟩
def kc_222 : pj_KT := ([], [179], [179])
theorem ct_222 (G0 : pj_G) (hI : pj_Inv G0) (p : Int32) (c : Int32) : pj_Y 3 222 [.ref 171, .int p, .int c] G0 (fun v G' => ∃ y : Int32, v = some (.int y) ∧ pj_Inv G' ∧ pj_kpt kc_222 G0 G' ∧ ((-2147483648 : Int) ≤ y.toInt ∧ y.toInt ≤ 2147483647)) := by
  have c0_ : ((Int8.ofInt (-2)).toInt32).toInt = -2 := by decide
  have c1_ : ((Int8.ofInt (-3)).toInt32).toInt = -3 := by decide
  have c2_ : ((Int8.ofInt 24).toInt32).toInt = 24 := by decide
  have c3_ : (Int32.ofInt (-1)).toInt = -1 := by decide
  have c4_ : (Int32.ofInt 0).toInt = 0 := by decide
  have c5_ : (Int32.ofInt 1).toInt = 1 := by decide
  have c6_ : (Int32.ofInt 3).toInt = 3 := by decide
  have c7_ : (Int32.ofInt 4).toInt = 4 := by decide
  refine pj_Y_X (M := pj_m222) rfl rfl (Nat.le_of_ble_eq_true rfl) ?_
  have hK : pj_kpt kc_222 G0 G0 := pj_kpt_r _ _
  show pj_X _ _ G0 0 [(0, .ref 171), (1, .int p), (2, .int c)] [] _
  obtain ⟨y1, hy1⟩ : ∃ z : Int32, z = pj_fi G0 171 5 := ⟨_, rfl⟩
  have ey1 : (pj_fi G0 171 5).toInt = y1.toInt := by rw [hy1]
  have ry1 : (0 : Int) ≤ y1.toInt ∧ y1.toInt ≤ 6 := by rw [hy1]; exact hI.2.1 171 5 (0, 6) rfl
  refine pj_X_of (fun r h => pj_R_to (G0, 2, [(0, .ref 171), (1, .int p), (2, .int c)], [.int p, .ref 171], 0, 0) 2 3 (fun _ => rfl) h) ?_
  have q2 : (pj_fi G0 171 5).toInt = y1.toInt := by rw [show pj_fi G0 171 5 = y1 from hy1.symm]
  refine pj_X_ca (vs := [.ref 171, .int p]) rfl (fun _ => rfl) ⟨Nat.le_of_ble_eq_true rfl, Nat.le_of_ble_eq_true rfl, pj_T_rcv hI rfl⟩ ⟨rfl, rfl⟩ (pj_Y_up (by decide) (ct_178 G0 hI p)) ?_
  rintro _ _ ⟨y3, rfl, rfl, ry3, ey3⟩
  show pj_X _ _ G0 5 [(0, .ref 171), (1, .int p), (2, .int c)] [.int y3] _
  cases b4 : pj_c1 .eq y3 0 with
  | true =>
    have ub4 := pj_u0_eqT b4
    refine pj_X_of (fun r h => pj_R_ifT 16 rfl rfl b4 h) ?_
    refine pj_X_of (fun r h => pj_R_to (G0, 17, [(0, .ref 171), (1, .int p), (2, .int c)], [.int (Int32.ofInt (-1))], 0, 0) 17 2 (fun _ => rfl) h) ?_
    have q5 : (pj_fi G0 171 5).toInt = y1.toInt := by rw [show pj_fi G0 171 5 = y1 from hy1.symm]
    exact pj_X_rt rfl rfl ⟨_, rfl, hI, hK, pj_i32 _⟩
  | false =>
    have ub4 := pj_u0_eqF b4
    refine pj_X_of (fun r h => pj_R_ifF rfl b4 h) ?_
    refine pj_X_of (fun r h => pj_R_to (G0, 10, [(0, .ref 171), (1, .int p), (2, .int c)], [.int c, .ref 171], 0, 0) 10 3 (fun _ => rfl) h) ?_
    have q6 : (pj_fi G0 171 5).toInt = y1.toInt := by rw [show pj_fi G0 171 5 = y1 from hy1.symm]
    refine pj_X_ca (vs := [.ref 171, .int c]) rfl (fun _ => rfl) ⟨Nat.le_of_ble_eq_true rfl, Nat.le_of_ble_eq_true rfl, pj_T_rcv hI rfl⟩ ⟨rfl, rfl⟩ (pj_Y_up (by decide) (ct_176 G0 hI c)) ?_
    rintro _ _ ⟨y7, rfl, rfl, ry7, ey7⟩
    show pj_X _ _ G0 13 [(0, .ref 171), (1, .int p), (2, .int c)] [.int y7] _
    cases b8 : pj_c1 .ne y7 0 with
    | true =>
      have ub8 := pj_u0_neT b8
      refine pj_X_of (fun r h => pj_R_ifT 18 rfl rfl b8 h) ?_
      refine pj_X_of (fun r h => pj_R_to (G0, 19, [(0, .ref 171), (1, .int p), (2, .int c)], [.ref 171], 0, 0) 19 2 (fun _ => rfl) h) ?_
      refine pj_X_of (fun r h => pj_T_gr hI rfl rfl rfl h) ?_
      refine pj_X_of (fun r h => pj_R_to (G0, 26, [(0, .ref 171), (1, .int p), (2, .int c)], [.int (((Int8.ofInt 24).toInt32) + p), .ref 179], 0, 0) 26 4 (fun _ => rfl) h) ?_
      obtain ⟨z9, hz9⟩ : ∃ z : Int32, z = ((Int8.ofInt 24).toInt32) + p := ⟨_, rfl⟩
      refine pj_X_eqi hz9.symm ?_
      have fz9_0 : z9.toInt = ((Int8.ofInt 24).toInt32).toInt + p.toInt := by rw [hz9]; exact pj_addI (by have := pj_i32 ((Int8.ofInt 24).toInt32); have := pj_i32 p; omega) (by have := pj_i32 ((Int8.ofInt 24).toInt32); have := pj_i32 p; omega)
      refine pj_X_of (fun r h => pj_T_il hI rfl rfl (by omega) (by omega) h) ?_
      show pj_X _ _ G0 27 [(0, .ref 171), (1, .int p), (2, .int c)] [.int (pj_ai G0 179 z9.toInt.toNat)] _
      obtain ⟨z10, hz10⟩ : ∃ z : Int32, z = pj_ai G0 179 z9.toInt.toNat := ⟨_, rfl⟩
      refine pj_X_eqi hz10.symm ?_
      have ez10 : (pj_ai G0 179 z9.toInt.toNat).toInt = z10.toInt := by rw [hz10]
      have fz10_0 : 0 ≤ z10.toInt ∧ z10.toInt ≤ 7 := by rw [hz10]; exact (hI.2.2.2 179 32 rfl _ (by show _ < 32; omega)).2 ⟨by omega, by omega⟩
      refine pj_X_of (fun r h => pj_R_to (G0, 30, [(3, .int z10), (0, .ref 171), (1, .int p), (2, .int c)], [.ref 171, .int z10], 0, 0) 30 4 (fun _ => rfl) h) ?_
      refine pj_X_of (fun r h => pj_T_gr hI rfl rfl rfl h) ?_
      refine pj_X_of (fun r h => pj_R_to (G0, 34, [(3, .int z10), (0, .ref 171), (1, .int p), (2, .int c)], [.int c, .ref 173, .int z10], 0, 0) 34 2 (fun _ => rfl) h) ?_
      refine pj_X_of (fun r h => pj_T_il hI rfl rfl (by omega) (by omega) h) ?_
      show pj_X _ _ G0 35 [(3, .int z10), (0, .ref 171), (1, .int p), (2, .int c)] [.int (pj_ai G0 173 c.toInt.toNat), .int z10] _
      obtain ⟨z11, hz11⟩ : ∃ z : Int32, z = pj_ai G0 173 c.toInt.toNat := ⟨_, rfl⟩
      refine pj_X_eqi hz11.symm ?_
      have ez11 : (pj_ai G0 173 c.toInt.toNat).toInt = z11.toInt := by rw [hz11]
      have fz11_0 : (0 : Int) ≤ z11.toInt ∧ z11.toInt ≤ 7 ∧ (z11.toInt ≤ 0 ∨ 0 ≤ z11.toInt) := by rw [hz11]; exact hI.2.2.1 173 (10, 0, 7, 0, 0) rfl _ (by show _ < 10; omega)
      cases b12 : pj_c1 .eq z10 z11 with
      | true =>
        have ub12 := pj_u_eqT b12
        refine pj_X_of (fun r h => pj_R_icT 51 rfl rfl b12 h) ?_
        refine pj_X_of (fun r h => pj_R_to (G0, 54, [(3, .int z10), (0, .ref 171), (1, .int p), (2, .int c)], [.ref 171, .int (Int32.ofInt 0), .ref 171], 0, 0) 54 4 (fun _ => rfl) h) ?_
        refine pj_X_of (fun r h => pj_T_gr hI rfl rfl rfl h) ?_
        refine pj_X_of (fun r h => pj_R_to (G0, 58, [(3, .int z10), (0, .ref 171), (1, .int p), (2, .int c)], [.int p, .ref 178, .int (Int32.ofInt 0), .ref 171], 0, 0) 58 2 (fun _ => rfl) h) ?_
        refine pj_X_of (fun r h => pj_T_il hI rfl rfl (by omega) (by omega) h) ?_
        show pj_X _ _ G0 59 [(3, .int z10), (0, .ref 171), (1, .int p), (2, .int c)] [.int (pj_ai G0 178 p.toInt.toNat), .int (Int32.ofInt 0), .ref 171] _
        obtain ⟨z13, hz13⟩ : ∃ z : Int32, z = pj_ai G0 178 p.toInt.toNat := ⟨_, rfl⟩
        refine pj_X_eqi hz13.symm ?_
        have ez13 : (pj_ai G0 178 p.toInt.toNat).toInt = z13.toInt := by rw [hz13]
        have q14 : (pj_fi G0 171 5).toInt = y1.toInt := by rw [show pj_fi G0 171 5 = y1 from hy1.symm]
        refine pj_X_ca (vs := [.ref 171, .int (Int32.ofInt 0), .int z13]) rfl (fun _ => rfl) ⟨Nat.le_of_ble_eq_true rfl, Nat.le_of_ble_eq_true rfl, pj_T_rcv hI rfl⟩ ⟨rfl, rfl⟩ (pj_Y_up (by decide) (ct_206 G0 hI (Int32.ofInt 0) z13)) ?_
        rintro _ _ ⟨y15, rfl, rfl, ry15, ey15⟩
        show pj_X _ _ G0 62 [(3, .int z10), (0, .ref 171), (1, .int p), (2, .int c)] [.int y15] _
        refine pj_X_of (fun r h => pj_R_to (G0, 63, [(3, .int z10), (0, .ref 171), (1, .int p), (2, .int c)], [.int c, .int y15], 0, 0) 63 2 (fun _ => rfl) h) ?_
        have q16 : (pj_fi G0 171 5).toInt = y1.toInt := by rw [show pj_fi G0 171 5 = y1 from hy1.symm]
        refine pj_X_ca (vs := [.int y15, .int c]) rfl (fun _ => rfl) ⟨Nat.le_of_ble_eq_true rfl, Nat.le_of_ble_eq_true rfl, rfl⟩ ⟨rfl, rfl⟩ (pj_Y_up (by decide) (ct_171b G0 hI y15 c)) ?_
        rintro _ _ ⟨y17, rfl, rfl, ry17, ey17⟩
        show pj_X _ _ G0 66 [(3, .int z10), (0, .ref 171), (1, .int p), (2, .int c)] [.int y17] _
        cases b18 : pj_c1 .ne y17 0 with
        | true =>
          have ub18 := pj_u0_neT b18
          refine pj_X_of (fun r h => pj_R_ifT 72 rfl rfl b18 h) ?_
          refine pj_X_of (fun r h => pj_R_to (G0, 75, [(3, .int z10), (0, .ref 171), (1, .int p), (2, .int c)], [.int (Int32.ofInt 1), .int c, .ref 171], 0, 0) 75 4 (fun _ => rfl) h) ?_
          have q19 : (pj_fi G0 171 5).toInt = y1.toInt := by rw [show pj_fi G0 171 5 = y1 from hy1.symm]
          refine pj_X_ca (vs := [.ref 171, .int c, .int (Int32.ofInt 1)]) rfl (fun _ => rfl) ⟨Nat.le_of_ble_eq_true rfl, Nat.le_of_ble_eq_true rfl, pj_T_rcv hI rfl⟩ ⟨rfl, rfl⟩ (pj_Y_up (by decide) (ct_205 G0 hI c (Int32.ofInt 1) ⟨by omega, by omega⟩)) ?_
          rintro _ _ ⟨y20, rfl, rfl, ry20, ey20⟩
          show pj_X _ _ G0 78 [(3, .int z10), (0, .ref 171), (1, .int p), (2, .int c)] [.int y20] _
          have hob : 0 ≤ y20.toInt := pj_ob hI ey15 (by rw [show (pj_fi G0 171 5).toInt = (pj_fi G0 171 5).toInt from rfl]; omega) (by omega) (ey17 (by omega)) (by omega) (by omega) ey20 (by omega)
          refine pj_X_of (fun r h => pj_R_to (G0, 81, [(4, .int y20), (3, .int z10), (0, .ref 171), (1, .int p), (2, .int c)], [.ref 171], 0, 0) 81 3 (fun _ => rfl) h) ?_
          refine pj_X_of (fun r h => pj_T_gr hI rfl rfl rfl h) ?_
          refine pj_X_of (fun r h => pj_R_to (G0, 88, [(4, .int y20), (3, .int z10), (0, .ref 171), (1, .int p), (2, .int c)], [.int ((Int32.ofInt 4) * y20), .ref 179], 0, 0) 88 4 (fun _ => rfl) h) ?_
          obtain ⟨z21, hz21⟩ : ∃ z : Int32, z = (Int32.ofInt 4) * y20 := ⟨_, rfl⟩
          refine pj_X_eqi hz21.symm ?_
          have fz21_0 : z21.toInt = 4 * y20.toInt := by rw [hz21]; exact pj_mulL (by decide) (by omega) (by omega)
          refine pj_X_of (fun r h => pj_R_to (G0, 90, [(4, .int y20), (3, .int z10), (0, .ref 171), (1, .int p), (2, .int c)], [.int (z21 + (Int32.ofInt 3)), .ref 179], 0, 0) 90 3 (fun _ => rfl) h) ?_
          obtain ⟨z22, hz22⟩ : ∃ z : Int32, z = z21 + (Int32.ofInt 3) := ⟨_, rfl⟩
          refine pj_X_eqi hz22.symm ?_
          have fz22_0 : z22.toInt = z21.toInt + (Int32.ofInt 3).toInt := by rw [hz22]; exact pj_addI (by have := pj_i32 z21; have := pj_i32 (Int32.ofInt 3); omega) (by have := pj_i32 z21; have := pj_i32 (Int32.ofInt 3); omega)
          refine pj_X_of (fun r h => pj_R_to (G0, 91, [(4, .int y20), (3, .int z10), (0, .ref 171), (1, .int p), (2, .int c)], [.int z22, .ref 179, .int z22, .ref 179], 0, 0) 91 2 (fun _ => rfl) h) ?_
          refine pj_X_of (fun r h => pj_T_il hI rfl rfl (by omega) (by omega) h) ?_
          show pj_X _ _ G0 92 [(4, .int y20), (3, .int z10), (0, .ref 171), (1, .int p), (2, .int c)] [.int (pj_ai G0 179 z22.toInt.toNat), .int z22, .ref 179] _
          obtain ⟨z23, hz23⟩ : ∃ z : Int32, z = pj_ai G0 179 z22.toInt.toNat := ⟨_, rfl⟩
          refine pj_X_eqi hz23.symm ?_
          have ez23 : (pj_ai G0 179 z22.toInt.toNat).toInt = z23.toInt := by rw [hz23]
          refine pj_X_of (fun r h => pj_R_to (G0, 93, [(4, .int y20), (3, .int z10), (0, .ref 171), (1, .int p), (2, .int c)], [.ref 171, .int z23, .int z22, .ref 179], 0, 0) 93 2 (fun _ => rfl) h) ?_
          refine pj_X_of (fun r h => pj_T_gr hI rfl rfl rfl h) ?_
          refine pj_X_of (fun r h => pj_R_to (G0, 100, [(4, .int y20), (3, .int z10), (0, .ref 171), (1, .int p), (2, .int c)], [.int ((Int32.ofInt 4) * y20), .ref 179, .int z23, .int z22, .ref 179], 0, 0) 100 4 (fun _ => rfl) h) ?_
          obtain ⟨z24, hz24⟩ : ∃ z : Int32, z = (Int32.ofInt 4) * y20 := ⟨_, rfl⟩
          refine pj_X_eqi hz24.symm ?_
          have fz24_0 : z24.toInt = 4 * y20.toInt := by rw [hz24]; exact pj_mulL (by decide) (by omega) (by omega)
          refine pj_X_of (fun r h => pj_R_to (G0, 102, [(4, .int y20), (3, .int z10), (0, .ref 171), (1, .int p), (2, .int c)], [.int (z24 + (Int32.ofInt 3)), .ref 179, .int z23, .int z22, .ref 179], 0, 0) 102 3 (fun _ => rfl) h) ?_
          obtain ⟨z25, hz25⟩ : ∃ z : Int32, z = z24 + (Int32.ofInt 3) := ⟨_, rfl⟩
          refine pj_X_eqi hz25.symm ?_
          have fz25_0 : z25.toInt = z24.toInt + (Int32.ofInt 3).toInt := by rw [hz25]; exact pj_addI (by have := pj_i32 z24; have := pj_i32 (Int32.ofInt 3); omega) (by have := pj_i32 z24; have := pj_i32 (Int32.ofInt 3); omega)
          refine pj_X_of (fun r h => pj_T_il hI rfl rfl (by omega) (by omega) h) ?_
          show pj_X _ _ G0 103 [(4, .int y20), (3, .int z10), (0, .ref 171), (1, .int p), (2, .int c)] [.int (pj_ai G0 179 z25.toInt.toNat), .int z23, .int z22, .ref 179] _
          obtain ⟨z26, hz26⟩ : ∃ z : Int32, z = pj_ai G0 179 z25.toInt.toNat := ⟨_, rfl⟩
          refine pj_X_eqi hz26.symm ?_
          have ez26 : (pj_ai G0 179 z25.toInt.toNat).toInt = z26.toInt := by rw [hz26]
          have xz26_z23 : z26.toInt = z23.toInt := by rw [hz26, show z25.toInt.toNat = z22.toInt.toNat by omega, hz23]
          refine pj_X_of (fun r h => pj_R_to (G0, 104, [(4, .int y20), (3, .int z10), (0, .ref 171), (1, .int p), (2, .int c)], [.ref 171, .int z26, .int z23, .int z22, .ref 179], 0, 0) 104 2 (fun _ => rfl) h) ?_
          refine pj_X_of (fun r h => pj_T_gr hI rfl rfl rfl h) ?_
          refine pj_X_of (fun r h => pj_R_to (G0, 108, [(4, .int y20), (3, .int z10), (0, .ref 171), (1, .int p), (2, .int c)], [.int p, .ref 178, .int z26, .int z23, .int z22, .ref 179], 0, 0) 108 2 (fun _ => rfl) h) ?_
          refine pj_X_of (fun r h => pj_T_il hI rfl rfl (by omega) (by omega) h) ?_
          show pj_X _ _ G0 109 [(4, .int y20), (3, .int z10), (0, .ref 171), (1, .int p), (2, .int c)] [.int (pj_ai G0 178 p.toInt.toNat), .int z26, .int z23, .int z22, .ref 179] _
          refine pj_X_eqi hz13.symm ?_
          cases b27 : pj_c1 .ne z26 z13 with
          | true =>
            have ub27 := pj_u_neT b27
            refine pj_X_of (fun r h => pj_R_icT 116 rfl rfl b27 h) ?_
            refine pj_X_of (fun r h => pj_R_to (G0, 117, [(4, .int y20), (3, .int z10), (0, .ref 171), (1, .int p), (2, .int c)], [.int (Int32.ofInt 0), .int z23, .int z22, .ref 179], 0, 0) 117 2 (fun _ => rfl) h) ?_
            have q28 : (pj_fi G0 171 5).toInt = y1.toInt := by rw [show pj_fi G0 171 5 = y1 from hy1.symm]
            refine pj_X_ca (vs := [.int (Int32.ofInt 0)]) rfl (fun _ => rfl) ⟨Nat.le_of_ble_eq_true rfl, Nat.le_of_ble_eq_true rfl, rfl⟩ ⟨rfl, rfl⟩ (pj_Y_up (by decide) (ct_172 G0 hI (Int32.ofInt 0) ⟨by omega, by omega⟩)) ?_
            rintro _ _ ⟨y29, rfl, rfl, ry29, ey29⟩
            show pj_X _ _ G0 120 [(4, .int y20), (3, .int z10), (0, .ref 171), (1, .int p), (2, .int c)] [.int y29, .int z23, .int z22, .ref 179] _
            refine pj_X_of (fun r h => pj_R_to (G0, 121, [(4, .int y20), (3, .int z10), (0, .ref 171), (1, .int p), (2, .int c)], [.int (z23 - y29), .int z22, .ref 179], 0, 0) 121 2 (fun _ => rfl) h) ?_
            obtain ⟨z30, hz30⟩ : ∃ z : Int32, z = z23 - y29 := ⟨_, rfl⟩
            refine pj_X_eqi hz30.symm ?_
            refine pj_X_of (fun r h => pj_T_is hI rfl rfl (by omega) (by omega) h) ?_
            show pj_X _ _ (pj_wa G0 179 z22.toInt.toNat z30) 122 [(4, .int y20), (3, .int z10), (0, .ref 171), (1, .int p), (2, .int c)] [] _
            obtain ⟨G31, hG31⟩ : ∃ H, H = pj_wa G0 179 z22.toInt.toNat z30 := ⟨_, rfl⟩
            have iG31 : pj_Inv G31 := by rw [hG31]; exact pj_Inv_wa hI rfl (fun q hq => by cases hq) (fun n hn => ⟨fun h1 => ⟨fun h2 => by omega, fun h2 => by omega⟩, fun h1 => by omega⟩)
            have kG31 : pj_kpt kc_222 G0 G31 := by rw [hG31]; exact pj_kpt_a hK rfl
            rw [← hG31]
            refine pj_X_of (fun r h => pj_R_to (G31, 123, [(4, .int y20), (3, .int z10), (0, .ref 171), (1, .int p), (2, .int c)], [.ref 171], 0, 0) 123 2 (fun _ => rfl) h) ?_
            refine pj_X_of (fun r h => pj_T_gr iG31 rfl rfl rfl h) ?_
            refine pj_X_of (fun r h => pj_R_to (G31, 130, [(4, .int y20), (3, .int z10), (0, .ref 171), (1, .int p), (2, .int c)], [.int (((Int8.ofInt 24).toInt32) + p), .ref 179], 0, 0) 130 4 (fun _ => rfl) h) ?_
            obtain ⟨z32, hz32⟩ : ∃ z : Int32, z = ((Int8.ofInt 24).toInt32) + p := ⟨_, rfl⟩
            refine pj_X_eqi hz32.symm ?_
            have fz32_0 : z32.toInt = ((Int8.ofInt 24).toInt32).toInt + p.toInt := by rw [hz32]; exact pj_addI (by have := pj_i32 ((Int8.ofInt 24).toInt32); have := pj_i32 p; omega) (by have := pj_i32 ((Int8.ofInt 24).toInt32); have := pj_i32 p; omega)
            refine pj_X_of (fun r h => pj_R_to (G31, 131, [(4, .int y20), (3, .int z10), (0, .ref 171), (1, .int p), (2, .int c)], [.ref 171, .int z32, .ref 179], 0, 0) 131 2 (fun _ => rfl) h) ?_
            refine pj_X_of (fun r h => pj_T_gr iG31 rfl rfl rfl h) ?_
            refine pj_X_of (fun r h => pj_R_to (G31, 135, [(4, .int y20), (3, .int z10), (0, .ref 171), (1, .int p), (2, .int c)], [.int c, .ref 173, .int z32, .ref 179], 0, 0) 135 2 (fun _ => rfl) h) ?_
            refine pj_X_of (fun r h => pj_T_il iG31 rfl rfl (by omega) (by omega) h) ?_
            show pj_X _ _ G31 136 [(4, .int y20), (3, .int z10), (0, .ref 171), (1, .int p), (2, .int c)] [.int (pj_ai G31 173 c.toInt.toNat), .int z32, .ref 179] _
            obtain ⟨z33, hz33⟩ : ∃ z : Int32, z = pj_ai G31 173 c.toInt.toNat := ⟨_, rfl⟩
            refine pj_X_eqi hz33.symm ?_
            have ez33 : (pj_ai G31 173 c.toInt.toNat).toInt = z33.toInt := by rw [hz33]
            have fz33_0 : (0 : Int) ≤ z33.toInt ∧ z33.toInt ≤ 7 ∧ (z33.toInt ≤ 0 ∨ 0 ≤ z33.toInt) := by rw [hz33]; exact iG31.2.2.1 173 (10, 0, 7, 0, 0) rfl _ (by show _ < 10; omega)
            have xz33_z11 : z33.toInt = z11.toInt := by rw [hz33, hG31, pj_ai_wa_ne _ _ _ _ _ _ (by decide), show c.toInt.toNat = c.toInt.toNat by omega, hz11]
            refine pj_X_of (fun r h => pj_R_to (G31, 137, [(4, .int y20), (3, .int z10), (0, .ref 171), (1, .int p), (2, .int c)], [.ref 171, .int z33, .int z32, .ref 179], 0, 0) 137 2 (fun _ => rfl) h) ?_
            refine pj_X_of (fun r h => pj_T_gr iG31 rfl rfl rfl h) ?_
            refine pj_X_of (fun r h => pj_R_to (G31, 141, [(4, .int y20), (3, .int z10), (0, .ref 171), (1, .int p), (2, .int c)], [.int c, .ref 174, .int z33, .int z32, .ref 179], 0, 0) 141 2 (fun _ => rfl) h) ?_
            refine pj_X_of (fun r h => pj_T_il iG31 rfl rfl (by omega) (by omega) h) ?_
            show pj_X _ _ G31 142 [(4, .int y20), (3, .int z10), (0, .ref 171), (1, .int p), (2, .int c)] [.int (pj_ai G31 174 c.toInt.toNat), .int z33, .int z32, .ref 179] _
            obtain ⟨z34, hz34⟩ : ∃ z : Int32, z = pj_ai G31 174 c.toInt.toNat := ⟨_, rfl⟩
            refine pj_X_eqi hz34.symm ?_
            have ez34 : (pj_ai G31 174 c.toInt.toNat).toInt = z34.toInt := by rw [hz34]
            have fz34_0 : (0 : Int) ≤ z34.toInt ∧ z34.toInt ≤ 7 ∧ (z34.toInt ≤ 0 ∨ 0 ≤ z34.toInt) := by rw [hz34]; exact iG31.2.2.1 174 (10, 0, 7, 0, 0) rfl _ (by show _ < 10; omega)
            refine pj_X_of (fun r h => pj_R_to (G31, 143, [(4, .int y20), (3, .int z10), (0, .ref 171), (1, .int p), (2, .int c)], [.int (z33 + z34), .int z32, .ref 179], 0, 0) 143 2 (fun _ => rfl) h) ?_
            obtain ⟨z35, hz35⟩ : ∃ z : Int32, z = z33 + z34 := ⟨_, rfl⟩
            refine pj_X_eqi hz35.symm ?_
            have fz35_0 : z35.toInt = z33.toInt + z34.toInt := by rw [hz35]; exact pj_addI (by have := pj_i32 z33; have := pj_i32 z34; omega) (by have := pj_i32 z33; have := pj_i32 z34; omega)
            refine pj_X_of (fun r h => pj_R_to (G31, 145, [(4, .int y20), (3, .int z10), (0, .ref 171), (1, .int p), (2, .int c)], [.int (z35 - z10), .int z32, .ref 179], 0, 0) 145 3 (fun _ => rfl) h) ?_
            obtain ⟨z36, hz36⟩ : ∃ z : Int32, z = z35 - z10 := ⟨_, rfl⟩
            refine pj_X_eqi hz36.symm ?_
            have fz36_0 : z36.toInt = z35.toInt - z10.toInt := by rw [hz36]; exact pj_subI (by have := pj_i32 z35; have := pj_i32 z10; omega) (by have := pj_i32 z35; have := pj_i32 z10; omega)
            refine pj_X_of (fun r h => pj_T_is iG31 rfl rfl (by omega) (by omega) h) ?_
            show pj_X _ _ (pj_wa G31 179 z32.toInt.toNat z36) 146 [(4, .int y20), (3, .int z10), (0, .ref 171), (1, .int p), (2, .int c)] [] _
            obtain ⟨G37, hG37⟩ : ∃ H, H = pj_wa G31 179 z32.toInt.toNat z36 := ⟨_, rfl⟩
            have iG37 : pj_Inv G37 := by rw [hG37]; exact pj_Inv_wa iG31 rfl (fun q hq => by cases hq) (fun n hn => ⟨fun h1 => ⟨fun h2 => by omega, fun h2 => by omega⟩, fun h1 => by omega⟩)
            have kG37 : pj_kpt kc_222 G0 G37 := by rw [hG37]; exact pj_kpt_a kG31 rfl
            rw [← hG37]
            refine pj_X_of (fun r h => pj_R_to (G37, 147, [(4, .int y20), (3, .int z10), (0, .ref 171), (1, .int p), (2, .int c)], [.ref 171], 0, 0) 147 2 (fun _ => rfl) h) ?_
            refine pj_X_of (fun r h => pj_T_gr iG37 rfl rfl rfl h) ?_
            refine pj_X_of (fun r h => pj_R_to (G37, 154, [(4, .int y20), (3, .int z10), (0, .ref 171), (1, .int p), (2, .int c)], [.int (((Int8.ofInt 24).toInt32) + p), .ref 179], 0, 0) 154 4 (fun _ => rfl) h) ?_
            obtain ⟨z38, hz38⟩ : ∃ z : Int32, z = ((Int8.ofInt 24).toInt32) + p := ⟨_, rfl⟩
            refine pj_X_eqi hz38.symm ?_
            have fz38_0 : z38.toInt = ((Int8.ofInt 24).toInt32).toInt + p.toInt := by rw [hz38]; exact pj_addI (by have := pj_i32 ((Int8.ofInt 24).toInt32); have := pj_i32 p; omega) (by have := pj_i32 ((Int8.ofInt 24).toInt32); have := pj_i32 p; omega)
            refine pj_X_of (fun r h => pj_T_il iG37 rfl rfl (by omega) (by omega) h) ?_
            show pj_X _ _ G37 155 [(4, .int y20), (3, .int z10), (0, .ref 171), (1, .int p), (2, .int c)] [.int (pj_ai G37 179 z38.toInt.toNat)] _
            obtain ⟨z39, hz39⟩ : ∃ z : Int32, z = pj_ai G37 179 z38.toInt.toNat := ⟨_, rfl⟩
            refine pj_X_eqi hz39.symm ?_
            have ez39 : (pj_ai G37 179 z38.toInt.toNat).toInt = z39.toInt := by rw [hz39]
            have fz39_0 : 0 ≤ z39.toInt ∧ z39.toInt ≤ 7 := by rw [hz39]; exact (iG37.2.2.2 179 32 rfl _ (by show _ < 32; omega)).2 ⟨by omega, by omega⟩
            have x40 : z39.toInt = z36.toInt := by rw [hz39, show z38.toInt.toNat = z32.toInt.toNat by omega, hG37, pj_ai_wa_eq iG31.1 rfl]
            have q41 : (pj_fi G37 171 5).toInt = y1.toInt := by rw [show pj_fi G37 171 5 = y1 from by rw [hG37, pj_fi_wa]; exact (by rw [hG31, pj_fi_wa]; exact hy1.symm)]
            exact pj_X_rt rfl rfl ⟨_, rfl, iG37, kG37, pj_i32 _⟩
          | false =>
            have ub27 := pj_u_neF b27
            refine pj_X_of (fun r h => pj_R_icF rfl b27 h) ?_
            refine pj_X_of (fun r h => pj_R_to (G0, 117, [(4, .int y20), (3, .int z10), (0, .ref 171), (1, .int p), (2, .int c)], [.int (Int32.ofInt 1), .int z23, .int z22, .ref 179], 0, 0) 117 3 (fun _ => rfl) h) ?_
            have q42 : (pj_fi G0 171 5).toInt = y1.toInt := by rw [show pj_fi G0 171 5 = y1 from hy1.symm]
            refine pj_X_ca (vs := [.int (Int32.ofInt 1)]) rfl (fun _ => rfl) ⟨Nat.le_of_ble_eq_true rfl, Nat.le_of_ble_eq_true rfl, rfl⟩ ⟨rfl, rfl⟩ (pj_Y_up (by decide) (ct_172 G0 hI (Int32.ofInt 1) ⟨by omega, by omega⟩)) ?_
            rintro _ _ ⟨y43, rfl, rfl, ry43, ey43⟩
            show pj_X _ _ G0 120 [(4, .int y20), (3, .int z10), (0, .ref 171), (1, .int p), (2, .int c)] [.int y43, .int z23, .int z22, .ref 179] _
            refine pj_X_of (fun r h => pj_R_to (G0, 121, [(4, .int y20), (3, .int z10), (0, .ref 171), (1, .int p), (2, .int c)], [.int (z23 - y43), .int z22, .ref 179], 0, 0) 121 2 (fun _ => rfl) h) ?_
            obtain ⟨z44, hz44⟩ : ∃ z : Int32, z = z23 - y43 := ⟨_, rfl⟩
            refine pj_X_eqi hz44.symm ?_
            refine pj_X_of (fun r h => pj_T_is hI rfl rfl (by omega) (by omega) h) ?_
            show pj_X _ _ (pj_wa G0 179 z22.toInt.toNat z44) 122 [(4, .int y20), (3, .int z10), (0, .ref 171), (1, .int p), (2, .int c)] [] _
            obtain ⟨G45, hG45⟩ : ∃ H, H = pj_wa G0 179 z22.toInt.toNat z44 := ⟨_, rfl⟩
            have iG45 : pj_Inv G45 := by rw [hG45]; exact pj_Inv_wa hI rfl (fun q hq => by cases hq) (fun n hn => ⟨fun h1 => ⟨fun h2 => by omega, fun h2 => by omega⟩, fun h1 => by omega⟩)
            have kG45 : pj_kpt kc_222 G0 G45 := by rw [hG45]; exact pj_kpt_a hK rfl
            rw [← hG45]
            refine pj_X_of (fun r h => pj_R_to (G45, 123, [(4, .int y20), (3, .int z10), (0, .ref 171), (1, .int p), (2, .int c)], [.ref 171], 0, 0) 123 2 (fun _ => rfl) h) ?_
            refine pj_X_of (fun r h => pj_T_gr iG45 rfl rfl rfl h) ?_
            refine pj_X_of (fun r h => pj_R_to (G45, 130, [(4, .int y20), (3, .int z10), (0, .ref 171), (1, .int p), (2, .int c)], [.int (((Int8.ofInt 24).toInt32) + p), .ref 179], 0, 0) 130 4 (fun _ => rfl) h) ?_
            obtain ⟨z46, hz46⟩ : ∃ z : Int32, z = ((Int8.ofInt 24).toInt32) + p := ⟨_, rfl⟩
            refine pj_X_eqi hz46.symm ?_
            have fz46_0 : z46.toInt = ((Int8.ofInt 24).toInt32).toInt + p.toInt := by rw [hz46]; exact pj_addI (by have := pj_i32 ((Int8.ofInt 24).toInt32); have := pj_i32 p; omega) (by have := pj_i32 ((Int8.ofInt 24).toInt32); have := pj_i32 p; omega)
            refine pj_X_of (fun r h => pj_R_to (G45, 131, [(4, .int y20), (3, .int z10), (0, .ref 171), (1, .int p), (2, .int c)], [.ref 171, .int z46, .ref 179], 0, 0) 131 2 (fun _ => rfl) h) ?_
            refine pj_X_of (fun r h => pj_T_gr iG45 rfl rfl rfl h) ?_
            refine pj_X_of (fun r h => pj_R_to (G45, 135, [(4, .int y20), (3, .int z10), (0, .ref 171), (1, .int p), (2, .int c)], [.int c, .ref 173, .int z46, .ref 179], 0, 0) 135 2 (fun _ => rfl) h) ?_
            refine pj_X_of (fun r h => pj_T_il iG45 rfl rfl (by omega) (by omega) h) ?_
            show pj_X _ _ G45 136 [(4, .int y20), (3, .int z10), (0, .ref 171), (1, .int p), (2, .int c)] [.int (pj_ai G45 173 c.toInt.toNat), .int z46, .ref 179] _
            obtain ⟨z47, hz47⟩ : ∃ z : Int32, z = pj_ai G45 173 c.toInt.toNat := ⟨_, rfl⟩
            refine pj_X_eqi hz47.symm ?_
            have ez47 : (pj_ai G45 173 c.toInt.toNat).toInt = z47.toInt := by rw [hz47]
            have fz47_0 : (0 : Int) ≤ z47.toInt ∧ z47.toInt ≤ 7 ∧ (z47.toInt ≤ 0 ∨ 0 ≤ z47.toInt) := by rw [hz47]; exact iG45.2.2.1 173 (10, 0, 7, 0, 0) rfl _ (by show _ < 10; omega)
            have xz47_z11 : z47.toInt = z11.toInt := by rw [hz47, hG45, pj_ai_wa_ne _ _ _ _ _ _ (by decide), show c.toInt.toNat = c.toInt.toNat by omega, hz11]
            refine pj_X_of (fun r h => pj_R_to (G45, 137, [(4, .int y20), (3, .int z10), (0, .ref 171), (1, .int p), (2, .int c)], [.ref 171, .int z47, .int z46, .ref 179], 0, 0) 137 2 (fun _ => rfl) h) ?_
            refine pj_X_of (fun r h => pj_T_gr iG45 rfl rfl rfl h) ?_
            refine pj_X_of (fun r h => pj_R_to (G45, 141, [(4, .int y20), (3, .int z10), (0, .ref 171), (1, .int p), (2, .int c)], [.int c, .ref 174, .int z47, .int z46, .ref 179], 0, 0) 141 2 (fun _ => rfl) h) ?_
            refine pj_X_of (fun r h => pj_T_il iG45 rfl rfl (by omega) (by omega) h) ?_
            show pj_X _ _ G45 142 [(4, .int y20), (3, .int z10), (0, .ref 171), (1, .int p), (2, .int c)] [.int (pj_ai G45 174 c.toInt.toNat), .int z47, .int z46, .ref 179] _
            obtain ⟨z48, hz48⟩ : ∃ z : Int32, z = pj_ai G45 174 c.toInt.toNat := ⟨_, rfl⟩
            refine pj_X_eqi hz48.symm ?_
            have ez48 : (pj_ai G45 174 c.toInt.toNat).toInt = z48.toInt := by rw [hz48]
            have fz48_0 : (0 : Int) ≤ z48.toInt ∧ z48.toInt ≤ 7 ∧ (z48.toInt ≤ 0 ∨ 0 ≤ z48.toInt) := by rw [hz48]; exact iG45.2.2.1 174 (10, 0, 7, 0, 0) rfl _ (by show _ < 10; omega)
            refine pj_X_of (fun r h => pj_R_to (G45, 143, [(4, .int y20), (3, .int z10), (0, .ref 171), (1, .int p), (2, .int c)], [.int (z47 + z48), .int z46, .ref 179], 0, 0) 143 2 (fun _ => rfl) h) ?_
            obtain ⟨z49, hz49⟩ : ∃ z : Int32, z = z47 + z48 := ⟨_, rfl⟩
            refine pj_X_eqi hz49.symm ?_
            have fz49_0 : z49.toInt = z47.toInt + z48.toInt := by rw [hz49]; exact pj_addI (by have := pj_i32 z47; have := pj_i32 z48; omega) (by have := pj_i32 z47; have := pj_i32 z48; omega)
            refine pj_X_of (fun r h => pj_R_to (G45, 145, [(4, .int y20), (3, .int z10), (0, .ref 171), (1, .int p), (2, .int c)], [.int (z49 - z10), .int z46, .ref 179], 0, 0) 145 3 (fun _ => rfl) h) ?_
            obtain ⟨z50, hz50⟩ : ∃ z : Int32, z = z49 - z10 := ⟨_, rfl⟩
            refine pj_X_eqi hz50.symm ?_
            have fz50_0 : z50.toInt = z49.toInt - z10.toInt := by rw [hz50]; exact pj_subI (by have := pj_i32 z49; have := pj_i32 z10; omega) (by have := pj_i32 z49; have := pj_i32 z10; omega)
            refine pj_X_of (fun r h => pj_T_is iG45 rfl rfl (by omega) (by omega) h) ?_
            show pj_X _ _ (pj_wa G45 179 z46.toInt.toNat z50) 146 [(4, .int y20), (3, .int z10), (0, .ref 171), (1, .int p), (2, .int c)] [] _
            obtain ⟨G51, hG51⟩ : ∃ H, H = pj_wa G45 179 z46.toInt.toNat z50 := ⟨_, rfl⟩
            have iG51 : pj_Inv G51 := by rw [hG51]; exact pj_Inv_wa iG45 rfl (fun q hq => by cases hq) (fun n hn => ⟨fun h1 => ⟨fun h2 => by omega, fun h2 => by omega⟩, fun h1 => by omega⟩)
            have kG51 : pj_kpt kc_222 G0 G51 := by rw [hG51]; exact pj_kpt_a kG45 rfl
            rw [← hG51]
            refine pj_X_of (fun r h => pj_R_to (G51, 147, [(4, .int y20), (3, .int z10), (0, .ref 171), (1, .int p), (2, .int c)], [.ref 171], 0, 0) 147 2 (fun _ => rfl) h) ?_
            refine pj_X_of (fun r h => pj_T_gr iG51 rfl rfl rfl h) ?_
            refine pj_X_of (fun r h => pj_R_to (G51, 154, [(4, .int y20), (3, .int z10), (0, .ref 171), (1, .int p), (2, .int c)], [.int (((Int8.ofInt 24).toInt32) + p), .ref 179], 0, 0) 154 4 (fun _ => rfl) h) ?_
            obtain ⟨z52, hz52⟩ : ∃ z : Int32, z = ((Int8.ofInt 24).toInt32) + p := ⟨_, rfl⟩
            refine pj_X_eqi hz52.symm ?_
            have fz52_0 : z52.toInt = ((Int8.ofInt 24).toInt32).toInt + p.toInt := by rw [hz52]; exact pj_addI (by have := pj_i32 ((Int8.ofInt 24).toInt32); have := pj_i32 p; omega) (by have := pj_i32 ((Int8.ofInt 24).toInt32); have := pj_i32 p; omega)
            refine pj_X_of (fun r h => pj_T_il iG51 rfl rfl (by omega) (by omega) h) ?_
            show pj_X _ _ G51 155 [(4, .int y20), (3, .int z10), (0, .ref 171), (1, .int p), (2, .int c)] [.int (pj_ai G51 179 z52.toInt.toNat)] _
            obtain ⟨z53, hz53⟩ : ∃ z : Int32, z = pj_ai G51 179 z52.toInt.toNat := ⟨_, rfl⟩
            refine pj_X_eqi hz53.symm ?_
            have ez53 : (pj_ai G51 179 z52.toInt.toNat).toInt = z53.toInt := by rw [hz53]
            have fz53_0 : 0 ≤ z53.toInt ∧ z53.toInt ≤ 7 := by rw [hz53]; exact (iG51.2.2.2 179 32 rfl _ (by show _ < 32; omega)).2 ⟨by omega, by omega⟩
            have x54 : z53.toInt = z50.toInt := by rw [hz53, show z52.toInt.toNat = z46.toInt.toNat by omega, hG51, pj_ai_wa_eq iG45.1 rfl]
            have q55 : (pj_fi G51 171 5).toInt = y1.toInt := by rw [show pj_fi G51 171 5 = y1 from by rw [hG51, pj_fi_wa]; exact (by rw [hG45, pj_fi_wa]; exact hy1.symm)]
            exact pj_X_rt rfl rfl ⟨_, rfl, iG51, kG51, pj_i32 _⟩
        | false =>
          have ub18 := pj_u0_neF b18
          refine pj_X_of (fun r h => pj_R_ifF rfl b18 h) ?_
          refine pj_X_of (fun r h => pj_R_to (G0, 71, [(3, .int z10), (0, .ref 171), (1, .int p), (2, .int c)], [.int ((Int8.ofInt (-3)).toInt32)], 0, 0) 71 2 (fun _ => rfl) h) ?_
          have q56 : (pj_fi G0 171 5).toInt = y1.toInt := by rw [show pj_fi G0 171 5 = y1 from hy1.symm]
          exact pj_X_rt rfl rfl ⟨_, rfl, hI, hK, pj_i32 _⟩
      | false =>
        have ub12 := pj_u_eqF b12
        refine pj_X_of (fun r h => pj_R_icF rfl b12 h) ?_
        refine pj_X_of (fun r h => pj_R_to (G0, 40, [(3, .int z10), (0, .ref 171), (1, .int p), (2, .int c)], [.ref 171, .int z10], 0, 0) 40 3 (fun _ => rfl) h) ?_
        refine pj_X_of (fun r h => pj_T_gr hI rfl rfl rfl h) ?_
        refine pj_X_of (fun r h => pj_R_to (G0, 44, [(3, .int z10), (0, .ref 171), (1, .int p), (2, .int c)], [.int c, .ref 174, .int z10], 0, 0) 44 2 (fun _ => rfl) h) ?_
        refine pj_X_of (fun r h => pj_T_il hI rfl rfl (by omega) (by omega) h) ?_
        show pj_X _ _ G0 45 [(3, .int z10), (0, .ref 171), (1, .int p), (2, .int c)] [.int (pj_ai G0 174 c.toInt.toNat), .int z10] _
        obtain ⟨z57, hz57⟩ : ∃ z : Int32, z = pj_ai G0 174 c.toInt.toNat := ⟨_, rfl⟩
        refine pj_X_eqi hz57.symm ?_
        have ez57 : (pj_ai G0 174 c.toInt.toNat).toInt = z57.toInt := by rw [hz57]
        have fz57_0 : (0 : Int) ≤ z57.toInt ∧ z57.toInt ≤ 7 ∧ (z57.toInt ≤ 0 ∨ 0 ≤ z57.toInt) := by rw [hz57]; exact hI.2.2.1 174 (10, 0, 7, 0, 0) rfl _ (by show _ < 10; omega)
        cases b58 : pj_c1 .eq z10 z57 with
        | true =>
          have ub58 := pj_u_eqT b58
          refine pj_X_of (fun r h => pj_R_icT 51 rfl rfl b58 h) ?_
          refine pj_X_of (fun r h => pj_R_to (G0, 54, [(3, .int z10), (0, .ref 171), (1, .int p), (2, .int c)], [.ref 171, .int (Int32.ofInt 0), .ref 171], 0, 0) 54 4 (fun _ => rfl) h) ?_
          refine pj_X_of (fun r h => pj_T_gr hI rfl rfl rfl h) ?_
          refine pj_X_of (fun r h => pj_R_to (G0, 58, [(3, .int z10), (0, .ref 171), (1, .int p), (2, .int c)], [.int p, .ref 178, .int (Int32.ofInt 0), .ref 171], 0, 0) 58 2 (fun _ => rfl) h) ?_
          refine pj_X_of (fun r h => pj_T_il hI rfl rfl (by omega) (by omega) h) ?_
          show pj_X _ _ G0 59 [(3, .int z10), (0, .ref 171), (1, .int p), (2, .int c)] [.int (pj_ai G0 178 p.toInt.toNat), .int (Int32.ofInt 0), .ref 171] _
          obtain ⟨z59, hz59⟩ : ∃ z : Int32, z = pj_ai G0 178 p.toInt.toNat := ⟨_, rfl⟩
          refine pj_X_eqi hz59.symm ?_
          have ez59 : (pj_ai G0 178 p.toInt.toNat).toInt = z59.toInt := by rw [hz59]
          have q60 : (pj_fi G0 171 5).toInt = y1.toInt := by rw [show pj_fi G0 171 5 = y1 from hy1.symm]
          refine pj_X_ca (vs := [.ref 171, .int (Int32.ofInt 0), .int z59]) rfl (fun _ => rfl) ⟨Nat.le_of_ble_eq_true rfl, Nat.le_of_ble_eq_true rfl, pj_T_rcv hI rfl⟩ ⟨rfl, rfl⟩ (pj_Y_up (by decide) (ct_206 G0 hI (Int32.ofInt 0) z59)) ?_
          rintro _ _ ⟨y61, rfl, rfl, ry61, ey61⟩
          show pj_X _ _ G0 62 [(3, .int z10), (0, .ref 171), (1, .int p), (2, .int c)] [.int y61] _
          refine pj_X_of (fun r h => pj_R_to (G0, 63, [(3, .int z10), (0, .ref 171), (1, .int p), (2, .int c)], [.int c, .int y61], 0, 0) 63 2 (fun _ => rfl) h) ?_
          have q62 : (pj_fi G0 171 5).toInt = y1.toInt := by rw [show pj_fi G0 171 5 = y1 from hy1.symm]
          refine pj_X_ca (vs := [.int y61, .int c]) rfl (fun _ => rfl) ⟨Nat.le_of_ble_eq_true rfl, Nat.le_of_ble_eq_true rfl, rfl⟩ ⟨rfl, rfl⟩ (pj_Y_up (by decide) (ct_171b G0 hI y61 c)) ?_
          rintro _ _ ⟨y63, rfl, rfl, ry63, ey63⟩
          show pj_X _ _ G0 66 [(3, .int z10), (0, .ref 171), (1, .int p), (2, .int c)] [.int y63] _
          cases b64 : pj_c1 .ne y63 0 with
          | true =>
            have ub64 := pj_u0_neT b64
            refine pj_X_of (fun r h => pj_R_ifT 72 rfl rfl b64 h) ?_
            refine pj_X_of (fun r h => pj_R_to (G0, 75, [(3, .int z10), (0, .ref 171), (1, .int p), (2, .int c)], [.int (Int32.ofInt 1), .int c, .ref 171], 0, 0) 75 4 (fun _ => rfl) h) ?_
            have q65 : (pj_fi G0 171 5).toInt = y1.toInt := by rw [show pj_fi G0 171 5 = y1 from hy1.symm]
            refine pj_X_ca (vs := [.ref 171, .int c, .int (Int32.ofInt 1)]) rfl (fun _ => rfl) ⟨Nat.le_of_ble_eq_true rfl, Nat.le_of_ble_eq_true rfl, pj_T_rcv hI rfl⟩ ⟨rfl, rfl⟩ (pj_Y_up (by decide) (ct_205 G0 hI c (Int32.ofInt 1) ⟨by omega, by omega⟩)) ?_
            rintro _ _ ⟨y66, rfl, rfl, ry66, ey66⟩
            show pj_X _ _ G0 78 [(3, .int z10), (0, .ref 171), (1, .int p), (2, .int c)] [.int y66] _
            have hob : 0 ≤ y66.toInt := pj_ob hI ey61 (by rw [show (pj_fi G0 171 5).toInt = (pj_fi G0 171 5).toInt from rfl]; omega) (by omega) (ey63 (by omega)) (by omega) (by omega) ey66 (by omega)
            refine pj_X_of (fun r h => pj_R_to (G0, 81, [(4, .int y66), (3, .int z10), (0, .ref 171), (1, .int p), (2, .int c)], [.ref 171], 0, 0) 81 3 (fun _ => rfl) h) ?_
            refine pj_X_of (fun r h => pj_T_gr hI rfl rfl rfl h) ?_
            refine pj_X_of (fun r h => pj_R_to (G0, 88, [(4, .int y66), (3, .int z10), (0, .ref 171), (1, .int p), (2, .int c)], [.int ((Int32.ofInt 4) * y66), .ref 179], 0, 0) 88 4 (fun _ => rfl) h) ?_
            obtain ⟨z67, hz67⟩ : ∃ z : Int32, z = (Int32.ofInt 4) * y66 := ⟨_, rfl⟩
            refine pj_X_eqi hz67.symm ?_
            have fz67_0 : z67.toInt = 4 * y66.toInt := by rw [hz67]; exact pj_mulL (by decide) (by omega) (by omega)
            refine pj_X_of (fun r h => pj_R_to (G0, 90, [(4, .int y66), (3, .int z10), (0, .ref 171), (1, .int p), (2, .int c)], [.int (z67 + (Int32.ofInt 3)), .ref 179], 0, 0) 90 3 (fun _ => rfl) h) ?_
            obtain ⟨z68, hz68⟩ : ∃ z : Int32, z = z67 + (Int32.ofInt 3) := ⟨_, rfl⟩
            refine pj_X_eqi hz68.symm ?_
            have fz68_0 : z68.toInt = z67.toInt + (Int32.ofInt 3).toInt := by rw [hz68]; exact pj_addI (by have := pj_i32 z67; have := pj_i32 (Int32.ofInt 3); omega) (by have := pj_i32 z67; have := pj_i32 (Int32.ofInt 3); omega)
            refine pj_X_of (fun r h => pj_R_to (G0, 91, [(4, .int y66), (3, .int z10), (0, .ref 171), (1, .int p), (2, .int c)], [.int z68, .ref 179, .int z68, .ref 179], 0, 0) 91 2 (fun _ => rfl) h) ?_
            refine pj_X_of (fun r h => pj_T_il hI rfl rfl (by omega) (by omega) h) ?_
            show pj_X _ _ G0 92 [(4, .int y66), (3, .int z10), (0, .ref 171), (1, .int p), (2, .int c)] [.int (pj_ai G0 179 z68.toInt.toNat), .int z68, .ref 179] _
            obtain ⟨z69, hz69⟩ : ∃ z : Int32, z = pj_ai G0 179 z68.toInt.toNat := ⟨_, rfl⟩
            refine pj_X_eqi hz69.symm ?_
            have ez69 : (pj_ai G0 179 z68.toInt.toNat).toInt = z69.toInt := by rw [hz69]
            refine pj_X_of (fun r h => pj_R_to (G0, 93, [(4, .int y66), (3, .int z10), (0, .ref 171), (1, .int p), (2, .int c)], [.ref 171, .int z69, .int z68, .ref 179], 0, 0) 93 2 (fun _ => rfl) h) ?_
            refine pj_X_of (fun r h => pj_T_gr hI rfl rfl rfl h) ?_
            refine pj_X_of (fun r h => pj_R_to (G0, 100, [(4, .int y66), (3, .int z10), (0, .ref 171), (1, .int p), (2, .int c)], [.int ((Int32.ofInt 4) * y66), .ref 179, .int z69, .int z68, .ref 179], 0, 0) 100 4 (fun _ => rfl) h) ?_
            obtain ⟨z70, hz70⟩ : ∃ z : Int32, z = (Int32.ofInt 4) * y66 := ⟨_, rfl⟩
            refine pj_X_eqi hz70.symm ?_
            have fz70_0 : z70.toInt = 4 * y66.toInt := by rw [hz70]; exact pj_mulL (by decide) (by omega) (by omega)
            refine pj_X_of (fun r h => pj_R_to (G0, 102, [(4, .int y66), (3, .int z10), (0, .ref 171), (1, .int p), (2, .int c)], [.int (z70 + (Int32.ofInt 3)), .ref 179, .int z69, .int z68, .ref 179], 0, 0) 102 3 (fun _ => rfl) h) ?_
            obtain ⟨z71, hz71⟩ : ∃ z : Int32, z = z70 + (Int32.ofInt 3) := ⟨_, rfl⟩
            refine pj_X_eqi hz71.symm ?_
            have fz71_0 : z71.toInt = z70.toInt + (Int32.ofInt 3).toInt := by rw [hz71]; exact pj_addI (by have := pj_i32 z70; have := pj_i32 (Int32.ofInt 3); omega) (by have := pj_i32 z70; have := pj_i32 (Int32.ofInt 3); omega)
            refine pj_X_of (fun r h => pj_T_il hI rfl rfl (by omega) (by omega) h) ?_
            show pj_X _ _ G0 103 [(4, .int y66), (3, .int z10), (0, .ref 171), (1, .int p), (2, .int c)] [.int (pj_ai G0 179 z71.toInt.toNat), .int z69, .int z68, .ref 179] _
            obtain ⟨z72, hz72⟩ : ∃ z : Int32, z = pj_ai G0 179 z71.toInt.toNat := ⟨_, rfl⟩
            refine pj_X_eqi hz72.symm ?_
            have ez72 : (pj_ai G0 179 z71.toInt.toNat).toInt = z72.toInt := by rw [hz72]
            have xz72_z69 : z72.toInt = z69.toInt := by rw [hz72, show z71.toInt.toNat = z68.toInt.toNat by omega, hz69]
            refine pj_X_of (fun r h => pj_R_to (G0, 104, [(4, .int y66), (3, .int z10), (0, .ref 171), (1, .int p), (2, .int c)], [.ref 171, .int z72, .int z69, .int z68, .ref 179], 0, 0) 104 2 (fun _ => rfl) h) ?_
            refine pj_X_of (fun r h => pj_T_gr hI rfl rfl rfl h) ?_
            refine pj_X_of (fun r h => pj_R_to (G0, 108, [(4, .int y66), (3, .int z10), (0, .ref 171), (1, .int p), (2, .int c)], [.int p, .ref 178, .int z72, .int z69, .int z68, .ref 179], 0, 0) 108 2 (fun _ => rfl) h) ?_
            refine pj_X_of (fun r h => pj_T_il hI rfl rfl (by omega) (by omega) h) ?_
            show pj_X _ _ G0 109 [(4, .int y66), (3, .int z10), (0, .ref 171), (1, .int p), (2, .int c)] [.int (pj_ai G0 178 p.toInt.toNat), .int z72, .int z69, .int z68, .ref 179] _
            refine pj_X_eqi hz59.symm ?_
            cases b73 : pj_c1 .ne z72 z59 with
            | true =>
              have ub73 := pj_u_neT b73
              refine pj_X_of (fun r h => pj_R_icT 116 rfl rfl b73 h) ?_
              refine pj_X_of (fun r h => pj_R_to (G0, 117, [(4, .int y66), (3, .int z10), (0, .ref 171), (1, .int p), (2, .int c)], [.int (Int32.ofInt 0), .int z69, .int z68, .ref 179], 0, 0) 117 2 (fun _ => rfl) h) ?_
              have q74 : (pj_fi G0 171 5).toInt = y1.toInt := by rw [show pj_fi G0 171 5 = y1 from hy1.symm]
              refine pj_X_ca (vs := [.int (Int32.ofInt 0)]) rfl (fun _ => rfl) ⟨Nat.le_of_ble_eq_true rfl, Nat.le_of_ble_eq_true rfl, rfl⟩ ⟨rfl, rfl⟩ (pj_Y_up (by decide) (ct_172 G0 hI (Int32.ofInt 0) ⟨by omega, by omega⟩)) ?_
              rintro _ _ ⟨y75, rfl, rfl, ry75, ey75⟩
              show pj_X _ _ G0 120 [(4, .int y66), (3, .int z10), (0, .ref 171), (1, .int p), (2, .int c)] [.int y75, .int z69, .int z68, .ref 179] _
              refine pj_X_of (fun r h => pj_R_to (G0, 121, [(4, .int y66), (3, .int z10), (0, .ref 171), (1, .int p), (2, .int c)], [.int (z69 - y75), .int z68, .ref 179], 0, 0) 121 2 (fun _ => rfl) h) ?_
              obtain ⟨z76, hz76⟩ : ∃ z : Int32, z = z69 - y75 := ⟨_, rfl⟩
              refine pj_X_eqi hz76.symm ?_
              refine pj_X_of (fun r h => pj_T_is hI rfl rfl (by omega) (by omega) h) ?_
              show pj_X _ _ (pj_wa G0 179 z68.toInt.toNat z76) 122 [(4, .int y66), (3, .int z10), (0, .ref 171), (1, .int p), (2, .int c)] [] _
              obtain ⟨G77, hG77⟩ : ∃ H, H = pj_wa G0 179 z68.toInt.toNat z76 := ⟨_, rfl⟩
              have iG77 : pj_Inv G77 := by rw [hG77]; exact pj_Inv_wa hI rfl (fun q hq => by cases hq) (fun n hn => ⟨fun h1 => ⟨fun h2 => by omega, fun h2 => by omega⟩, fun h1 => by omega⟩)
              have kG77 : pj_kpt kc_222 G0 G77 := by rw [hG77]; exact pj_kpt_a hK rfl
              rw [← hG77]
              refine pj_X_of (fun r h => pj_R_to (G77, 123, [(4, .int y66), (3, .int z10), (0, .ref 171), (1, .int p), (2, .int c)], [.ref 171], 0, 0) 123 2 (fun _ => rfl) h) ?_
              refine pj_X_of (fun r h => pj_T_gr iG77 rfl rfl rfl h) ?_
              refine pj_X_of (fun r h => pj_R_to (G77, 130, [(4, .int y66), (3, .int z10), (0, .ref 171), (1, .int p), (2, .int c)], [.int (((Int8.ofInt 24).toInt32) + p), .ref 179], 0, 0) 130 4 (fun _ => rfl) h) ?_
              obtain ⟨z78, hz78⟩ : ∃ z : Int32, z = ((Int8.ofInt 24).toInt32) + p := ⟨_, rfl⟩
              refine pj_X_eqi hz78.symm ?_
              have fz78_0 : z78.toInt = ((Int8.ofInt 24).toInt32).toInt + p.toInt := by rw [hz78]; exact pj_addI (by have := pj_i32 ((Int8.ofInt 24).toInt32); have := pj_i32 p; omega) (by have := pj_i32 ((Int8.ofInt 24).toInt32); have := pj_i32 p; omega)
              refine pj_X_of (fun r h => pj_R_to (G77, 131, [(4, .int y66), (3, .int z10), (0, .ref 171), (1, .int p), (2, .int c)], [.ref 171, .int z78, .ref 179], 0, 0) 131 2 (fun _ => rfl) h) ?_
              refine pj_X_of (fun r h => pj_T_gr iG77 rfl rfl rfl h) ?_
              refine pj_X_of (fun r h => pj_R_to (G77, 135, [(4, .int y66), (3, .int z10), (0, .ref 171), (1, .int p), (2, .int c)], [.int c, .ref 173, .int z78, .ref 179], 0, 0) 135 2 (fun _ => rfl) h) ?_
              refine pj_X_of (fun r h => pj_T_il iG77 rfl rfl (by omega) (by omega) h) ?_
              show pj_X _ _ G77 136 [(4, .int y66), (3, .int z10), (0, .ref 171), (1, .int p), (2, .int c)] [.int (pj_ai G77 173 c.toInt.toNat), .int z78, .ref 179] _
              obtain ⟨z79, hz79⟩ : ∃ z : Int32, z = pj_ai G77 173 c.toInt.toNat := ⟨_, rfl⟩
              refine pj_X_eqi hz79.symm ?_
              have ez79 : (pj_ai G77 173 c.toInt.toNat).toInt = z79.toInt := by rw [hz79]
              have fz79_0 : (0 : Int) ≤ z79.toInt ∧ z79.toInt ≤ 7 ∧ (z79.toInt ≤ 0 ∨ 0 ≤ z79.toInt) := by rw [hz79]; exact iG77.2.2.1 173 (10, 0, 7, 0, 0) rfl _ (by show _ < 10; omega)
              have xz79_z11 : z79.toInt = z11.toInt := by rw [hz79, hG77, pj_ai_wa_ne _ _ _ _ _ _ (by decide), show c.toInt.toNat = c.toInt.toNat by omega, hz11]
              refine pj_X_of (fun r h => pj_R_to (G77, 137, [(4, .int y66), (3, .int z10), (0, .ref 171), (1, .int p), (2, .int c)], [.ref 171, .int z79, .int z78, .ref 179], 0, 0) 137 2 (fun _ => rfl) h) ?_
              refine pj_X_of (fun r h => pj_T_gr iG77 rfl rfl rfl h) ?_
              refine pj_X_of (fun r h => pj_R_to (G77, 141, [(4, .int y66), (3, .int z10), (0, .ref 171), (1, .int p), (2, .int c)], [.int c, .ref 174, .int z79, .int z78, .ref 179], 0, 0) 141 2 (fun _ => rfl) h) ?_
              refine pj_X_of (fun r h => pj_T_il iG77 rfl rfl (by omega) (by omega) h) ?_
              show pj_X _ _ G77 142 [(4, .int y66), (3, .int z10), (0, .ref 171), (1, .int p), (2, .int c)] [.int (pj_ai G77 174 c.toInt.toNat), .int z79, .int z78, .ref 179] _
              obtain ⟨z80, hz80⟩ : ∃ z : Int32, z = pj_ai G77 174 c.toInt.toNat := ⟨_, rfl⟩
              refine pj_X_eqi hz80.symm ?_
              have ez80 : (pj_ai G77 174 c.toInt.toNat).toInt = z80.toInt := by rw [hz80]
              have fz80_0 : (0 : Int) ≤ z80.toInt ∧ z80.toInt ≤ 7 ∧ (z80.toInt ≤ 0 ∨ 0 ≤ z80.toInt) := by rw [hz80]; exact iG77.2.2.1 174 (10, 0, 7, 0, 0) rfl _ (by show _ < 10; omega)
              have xz80_z57 : z80.toInt = z57.toInt := by rw [hz80, hG77, pj_ai_wa_ne _ _ _ _ _ _ (by decide), show c.toInt.toNat = c.toInt.toNat by omega, hz57]
              refine pj_X_of (fun r h => pj_R_to (G77, 143, [(4, .int y66), (3, .int z10), (0, .ref 171), (1, .int p), (2, .int c)], [.int (z79 + z80), .int z78, .ref 179], 0, 0) 143 2 (fun _ => rfl) h) ?_
              obtain ⟨z81, hz81⟩ : ∃ z : Int32, z = z79 + z80 := ⟨_, rfl⟩
              refine pj_X_eqi hz81.symm ?_
              have fz81_0 : z81.toInt = z79.toInt + z80.toInt := by rw [hz81]; exact pj_addI (by have := pj_i32 z79; have := pj_i32 z80; omega) (by have := pj_i32 z79; have := pj_i32 z80; omega)
              refine pj_X_of (fun r h => pj_R_to (G77, 145, [(4, .int y66), (3, .int z10), (0, .ref 171), (1, .int p), (2, .int c)], [.int (z81 - z10), .int z78, .ref 179], 0, 0) 145 3 (fun _ => rfl) h) ?_
              obtain ⟨z82, hz82⟩ : ∃ z : Int32, z = z81 - z10 := ⟨_, rfl⟩
              refine pj_X_eqi hz82.symm ?_
              have fz82_0 : z82.toInt = z81.toInt - z10.toInt := by rw [hz82]; exact pj_subI (by have := pj_i32 z81; have := pj_i32 z10; omega) (by have := pj_i32 z81; have := pj_i32 z10; omega)
              refine pj_X_of (fun r h => pj_T_is iG77 rfl rfl (by omega) (by omega) h) ?_
              show pj_X _ _ (pj_wa G77 179 z78.toInt.toNat z82) 146 [(4, .int y66), (3, .int z10), (0, .ref 171), (1, .int p), (2, .int c)] [] _
              obtain ⟨G83, hG83⟩ : ∃ H, H = pj_wa G77 179 z78.toInt.toNat z82 := ⟨_, rfl⟩
              have iG83 : pj_Inv G83 := by rw [hG83]; exact pj_Inv_wa iG77 rfl (fun q hq => by cases hq) (fun n hn => ⟨fun h1 => ⟨fun h2 => by omega, fun h2 => by omega⟩, fun h1 => by omega⟩)
              have kG83 : pj_kpt kc_222 G0 G83 := by rw [hG83]; exact pj_kpt_a kG77 rfl
              rw [← hG83]
              refine pj_X_of (fun r h => pj_R_to (G83, 147, [(4, .int y66), (3, .int z10), (0, .ref 171), (1, .int p), (2, .int c)], [.ref 171], 0, 0) 147 2 (fun _ => rfl) h) ?_
              refine pj_X_of (fun r h => pj_T_gr iG83 rfl rfl rfl h) ?_
              refine pj_X_of (fun r h => pj_R_to (G83, 154, [(4, .int y66), (3, .int z10), (0, .ref 171), (1, .int p), (2, .int c)], [.int (((Int8.ofInt 24).toInt32) + p), .ref 179], 0, 0) 154 4 (fun _ => rfl) h) ?_
              obtain ⟨z84, hz84⟩ : ∃ z : Int32, z = ((Int8.ofInt 24).toInt32) + p := ⟨_, rfl⟩
              refine pj_X_eqi hz84.symm ?_
              have fz84_0 : z84.toInt = ((Int8.ofInt 24).toInt32).toInt + p.toInt := by rw [hz84]; exact pj_addI (by have := pj_i32 ((Int8.ofInt 24).toInt32); have := pj_i32 p; omega) (by have := pj_i32 ((Int8.ofInt 24).toInt32); have := pj_i32 p; omega)
              refine pj_X_of (fun r h => pj_T_il iG83 rfl rfl (by omega) (by omega) h) ?_
              show pj_X _ _ G83 155 [(4, .int y66), (3, .int z10), (0, .ref 171), (1, .int p), (2, .int c)] [.int (pj_ai G83 179 z84.toInt.toNat)] _
              obtain ⟨z85, hz85⟩ : ∃ z : Int32, z = pj_ai G83 179 z84.toInt.toNat := ⟨_, rfl⟩
              refine pj_X_eqi hz85.symm ?_
              have ez85 : (pj_ai G83 179 z84.toInt.toNat).toInt = z85.toInt := by rw [hz85]
              have fz85_0 : 0 ≤ z85.toInt ∧ z85.toInt ≤ 7 := by rw [hz85]; exact (iG83.2.2.2 179 32 rfl _ (by show _ < 32; omega)).2 ⟨by omega, by omega⟩
              have x86 : z85.toInt = z82.toInt := by rw [hz85, show z84.toInt.toNat = z78.toInt.toNat by omega, hG83, pj_ai_wa_eq iG77.1 rfl]
              have q87 : (pj_fi G83 171 5).toInt = y1.toInt := by rw [show pj_fi G83 171 5 = y1 from by rw [hG83, pj_fi_wa]; exact (by rw [hG77, pj_fi_wa]; exact hy1.symm)]
              exact pj_X_rt rfl rfl ⟨_, rfl, iG83, kG83, pj_i32 _⟩
            | false =>
              have ub73 := pj_u_neF b73
              refine pj_X_of (fun r h => pj_R_icF rfl b73 h) ?_
              refine pj_X_of (fun r h => pj_R_to (G0, 117, [(4, .int y66), (3, .int z10), (0, .ref 171), (1, .int p), (2, .int c)], [.int (Int32.ofInt 1), .int z69, .int z68, .ref 179], 0, 0) 117 3 (fun _ => rfl) h) ?_
              have q88 : (pj_fi G0 171 5).toInt = y1.toInt := by rw [show pj_fi G0 171 5 = y1 from hy1.symm]
              refine pj_X_ca (vs := [.int (Int32.ofInt 1)]) rfl (fun _ => rfl) ⟨Nat.le_of_ble_eq_true rfl, Nat.le_of_ble_eq_true rfl, rfl⟩ ⟨rfl, rfl⟩ (pj_Y_up (by decide) (ct_172 G0 hI (Int32.ofInt 1) ⟨by omega, by omega⟩)) ?_
              rintro _ _ ⟨y89, rfl, rfl, ry89, ey89⟩
              show pj_X _ _ G0 120 [(4, .int y66), (3, .int z10), (0, .ref 171), (1, .int p), (2, .int c)] [.int y89, .int z69, .int z68, .ref 179] _
              refine pj_X_of (fun r h => pj_R_to (G0, 121, [(4, .int y66), (3, .int z10), (0, .ref 171), (1, .int p), (2, .int c)], [.int (z69 - y89), .int z68, .ref 179], 0, 0) 121 2 (fun _ => rfl) h) ?_
              obtain ⟨z90, hz90⟩ : ∃ z : Int32, z = z69 - y89 := ⟨_, rfl⟩
              refine pj_X_eqi hz90.symm ?_
              refine pj_X_of (fun r h => pj_T_is hI rfl rfl (by omega) (by omega) h) ?_
              show pj_X _ _ (pj_wa G0 179 z68.toInt.toNat z90) 122 [(4, .int y66), (3, .int z10), (0, .ref 171), (1, .int p), (2, .int c)] [] _
              obtain ⟨G91, hG91⟩ : ∃ H, H = pj_wa G0 179 z68.toInt.toNat z90 := ⟨_, rfl⟩
              have iG91 : pj_Inv G91 := by rw [hG91]; exact pj_Inv_wa hI rfl (fun q hq => by cases hq) (fun n hn => ⟨fun h1 => ⟨fun h2 => by omega, fun h2 => by omega⟩, fun h1 => by omega⟩)
              have kG91 : pj_kpt kc_222 G0 G91 := by rw [hG91]; exact pj_kpt_a hK rfl
              rw [← hG91]
              refine pj_X_of (fun r h => pj_R_to (G91, 123, [(4, .int y66), (3, .int z10), (0, .ref 171), (1, .int p), (2, .int c)], [.ref 171], 0, 0) 123 2 (fun _ => rfl) h) ?_
              refine pj_X_of (fun r h => pj_T_gr iG91 rfl rfl rfl h) ?_
              refine pj_X_of (fun r h => pj_R_to (G91, 130, [(4, .int y66), (3, .int z10), (0, .ref 171), (1, .int p), (2, .int c)], [.int (((Int8.ofInt 24).toInt32) + p), .ref 179], 0, 0) 130 4 (fun _ => rfl) h) ?_
              obtain ⟨z92, hz92⟩ : ∃ z : Int32, z = ((Int8.ofInt 24).toInt32) + p := ⟨_, rfl⟩
              refine pj_X_eqi hz92.symm ?_
              have fz92_0 : z92.toInt = ((Int8.ofInt 24).toInt32).toInt + p.toInt := by rw [hz92]; exact pj_addI (by have := pj_i32 ((Int8.ofInt 24).toInt32); have := pj_i32 p; omega) (by have := pj_i32 ((Int8.ofInt 24).toInt32); have := pj_i32 p; omega)
              refine pj_X_of (fun r h => pj_R_to (G91, 131, [(4, .int y66), (3, .int z10), (0, .ref 171), (1, .int p), (2, .int c)], [.ref 171, .int z92, .ref 179], 0, 0) 131 2 (fun _ => rfl) h) ?_
              refine pj_X_of (fun r h => pj_T_gr iG91 rfl rfl rfl h) ?_
              refine pj_X_of (fun r h => pj_R_to (G91, 135, [(4, .int y66), (3, .int z10), (0, .ref 171), (1, .int p), (2, .int c)], [.int c, .ref 173, .int z92, .ref 179], 0, 0) 135 2 (fun _ => rfl) h) ?_
              refine pj_X_of (fun r h => pj_T_il iG91 rfl rfl (by omega) (by omega) h) ?_
              show pj_X _ _ G91 136 [(4, .int y66), (3, .int z10), (0, .ref 171), (1, .int p), (2, .int c)] [.int (pj_ai G91 173 c.toInt.toNat), .int z92, .ref 179] _
              obtain ⟨z93, hz93⟩ : ∃ z : Int32, z = pj_ai G91 173 c.toInt.toNat := ⟨_, rfl⟩
              refine pj_X_eqi hz93.symm ?_
              have ez93 : (pj_ai G91 173 c.toInt.toNat).toInt = z93.toInt := by rw [hz93]
              have fz93_0 : (0 : Int) ≤ z93.toInt ∧ z93.toInt ≤ 7 ∧ (z93.toInt ≤ 0 ∨ 0 ≤ z93.toInt) := by rw [hz93]; exact iG91.2.2.1 173 (10, 0, 7, 0, 0) rfl _ (by show _ < 10; omega)
              have xz93_z11 : z93.toInt = z11.toInt := by rw [hz93, hG91, pj_ai_wa_ne _ _ _ _ _ _ (by decide), show c.toInt.toNat = c.toInt.toNat by omega, hz11]
              refine pj_X_of (fun r h => pj_R_to (G91, 137, [(4, .int y66), (3, .int z10), (0, .ref 171), (1, .int p), (2, .int c)], [.ref 171, .int z93, .int z92, .ref 179], 0, 0) 137 2 (fun _ => rfl) h) ?_
              refine pj_X_of (fun r h => pj_T_gr iG91 rfl rfl rfl h) ?_
              refine pj_X_of (fun r h => pj_R_to (G91, 141, [(4, .int y66), (3, .int z10), (0, .ref 171), (1, .int p), (2, .int c)], [.int c, .ref 174, .int z93, .int z92, .ref 179], 0, 0) 141 2 (fun _ => rfl) h) ?_
              refine pj_X_of (fun r h => pj_T_il iG91 rfl rfl (by omega) (by omega) h) ?_
              show pj_X _ _ G91 142 [(4, .int y66), (3, .int z10), (0, .ref 171), (1, .int p), (2, .int c)] [.int (pj_ai G91 174 c.toInt.toNat), .int z93, .int z92, .ref 179] _
              obtain ⟨z94, hz94⟩ : ∃ z : Int32, z = pj_ai G91 174 c.toInt.toNat := ⟨_, rfl⟩
              refine pj_X_eqi hz94.symm ?_
              have ez94 : (pj_ai G91 174 c.toInt.toNat).toInt = z94.toInt := by rw [hz94]
              have fz94_0 : (0 : Int) ≤ z94.toInt ∧ z94.toInt ≤ 7 ∧ (z94.toInt ≤ 0 ∨ 0 ≤ z94.toInt) := by rw [hz94]; exact iG91.2.2.1 174 (10, 0, 7, 0, 0) rfl _ (by show _ < 10; omega)
              have xz94_z57 : z94.toInt = z57.toInt := by rw [hz94, hG91, pj_ai_wa_ne _ _ _ _ _ _ (by decide), show c.toInt.toNat = c.toInt.toNat by omega, hz57]
              refine pj_X_of (fun r h => pj_R_to (G91, 143, [(4, .int y66), (3, .int z10), (0, .ref 171), (1, .int p), (2, .int c)], [.int (z93 + z94), .int z92, .ref 179], 0, 0) 143 2 (fun _ => rfl) h) ?_
              obtain ⟨z95, hz95⟩ : ∃ z : Int32, z = z93 + z94 := ⟨_, rfl⟩
              refine pj_X_eqi hz95.symm ?_
              have fz95_0 : z95.toInt = z93.toInt + z94.toInt := by rw [hz95]; exact pj_addI (by have := pj_i32 z93; have := pj_i32 z94; omega) (by have := pj_i32 z93; have := pj_i32 z94; omega)
              refine pj_X_of (fun r h => pj_R_to (G91, 145, [(4, .int y66), (3, .int z10), (0, .ref 171), (1, .int p), (2, .int c)], [.int (z95 - z10), .int z92, .ref 179], 0, 0) 145 3 (fun _ => rfl) h) ?_
              obtain ⟨z96, hz96⟩ : ∃ z : Int32, z = z95 - z10 := ⟨_, rfl⟩
              refine pj_X_eqi hz96.symm ?_
              have fz96_0 : z96.toInt = z95.toInt - z10.toInt := by rw [hz96]; exact pj_subI (by have := pj_i32 z95; have := pj_i32 z10; omega) (by have := pj_i32 z95; have := pj_i32 z10; omega)
              refine pj_X_of (fun r h => pj_T_is iG91 rfl rfl (by omega) (by omega) h) ?_
              show pj_X _ _ (pj_wa G91 179 z92.toInt.toNat z96) 146 [(4, .int y66), (3, .int z10), (0, .ref 171), (1, .int p), (2, .int c)] [] _
              obtain ⟨G97, hG97⟩ : ∃ H, H = pj_wa G91 179 z92.toInt.toNat z96 := ⟨_, rfl⟩
              have iG97 : pj_Inv G97 := by rw [hG97]; exact pj_Inv_wa iG91 rfl (fun q hq => by cases hq) (fun n hn => ⟨fun h1 => ⟨fun h2 => by omega, fun h2 => by omega⟩, fun h1 => by omega⟩)
              have kG97 : pj_kpt kc_222 G0 G97 := by rw [hG97]; exact pj_kpt_a kG91 rfl
              rw [← hG97]
              refine pj_X_of (fun r h => pj_R_to (G97, 147, [(4, .int y66), (3, .int z10), (0, .ref 171), (1, .int p), (2, .int c)], [.ref 171], 0, 0) 147 2 (fun _ => rfl) h) ?_
              refine pj_X_of (fun r h => pj_T_gr iG97 rfl rfl rfl h) ?_
              refine pj_X_of (fun r h => pj_R_to (G97, 154, [(4, .int y66), (3, .int z10), (0, .ref 171), (1, .int p), (2, .int c)], [.int (((Int8.ofInt 24).toInt32) + p), .ref 179], 0, 0) 154 4 (fun _ => rfl) h) ?_
              obtain ⟨z98, hz98⟩ : ∃ z : Int32, z = ((Int8.ofInt 24).toInt32) + p := ⟨_, rfl⟩
              refine pj_X_eqi hz98.symm ?_
              have fz98_0 : z98.toInt = ((Int8.ofInt 24).toInt32).toInt + p.toInt := by rw [hz98]; exact pj_addI (by have := pj_i32 ((Int8.ofInt 24).toInt32); have := pj_i32 p; omega) (by have := pj_i32 ((Int8.ofInt 24).toInt32); have := pj_i32 p; omega)
              refine pj_X_of (fun r h => pj_T_il iG97 rfl rfl (by omega) (by omega) h) ?_
              show pj_X _ _ G97 155 [(4, .int y66), (3, .int z10), (0, .ref 171), (1, .int p), (2, .int c)] [.int (pj_ai G97 179 z98.toInt.toNat)] _
              obtain ⟨z99, hz99⟩ : ∃ z : Int32, z = pj_ai G97 179 z98.toInt.toNat := ⟨_, rfl⟩
              refine pj_X_eqi hz99.symm ?_
              have ez99 : (pj_ai G97 179 z98.toInt.toNat).toInt = z99.toInt := by rw [hz99]
              have fz99_0 : 0 ≤ z99.toInt ∧ z99.toInt ≤ 7 := by rw [hz99]; exact (iG97.2.2.2 179 32 rfl _ (by show _ < 32; omega)).2 ⟨by omega, by omega⟩
              have x100 : z99.toInt = z96.toInt := by rw [hz99, show z98.toInt.toNat = z92.toInt.toNat by omega, hG97, pj_ai_wa_eq iG91.1 rfl]
              have q101 : (pj_fi G97 171 5).toInt = y1.toInt := by rw [show pj_fi G97 171 5 = y1 from by rw [hG97, pj_fi_wa]; exact (by rw [hG91, pj_fi_wa]; exact hy1.symm)]
              exact pj_X_rt rfl rfl ⟨_, rfl, iG97, kG97, pj_i32 _⟩
          | false =>
            have ub64 := pj_u0_neF b64
            refine pj_X_of (fun r h => pj_R_ifF rfl b64 h) ?_
            refine pj_X_of (fun r h => pj_R_to (G0, 71, [(3, .int z10), (0, .ref 171), (1, .int p), (2, .int c)], [.int ((Int8.ofInt (-3)).toInt32)], 0, 0) 71 2 (fun _ => rfl) h) ?_
            have q102 : (pj_fi G0 171 5).toInt = y1.toInt := by rw [show pj_fi G0 171 5 = y1 from hy1.symm]
            exact pj_X_rt rfl rfl ⟨_, rfl, hI, hK, pj_i32 _⟩
        | false =>
          have ub58 := pj_u_eqF b58
          refine pj_X_of (fun r h => pj_R_icF rfl b58 h) ?_
          refine pj_X_of (fun r h => pj_R_to (G0, 50, [(3, .int z10), (0, .ref 171), (1, .int p), (2, .int c)], [.int ((Int8.ofInt (-2)).toInt32)], 0, 0) 50 2 (fun _ => rfl) h) ?_
          have q103 : (pj_fi G0 171 5).toInt = y1.toInt := by rw [show pj_fi G0 171 5 = y1 from hy1.symm]
          exact pj_X_rt rfl rfl ⟨_, rfl, hI, hK, pj_i32 _⟩
    | false =>
      have ub8 := pj_u0_neF b8
      refine pj_X_of (fun r h => pj_R_ifF rfl b8 h) ?_
      refine pj_X_of (fun r h => pj_R_to (G0, 17, [(0, .ref 171), (1, .int p), (2, .int c)], [.int (Int32.ofInt (-1))], 0, 0) 17 2 (fun _ => rfl) h) ?_
      have q104 : (pj_fi G0 171 5).toInt = y1.toInt := by rw [show pj_fi G0 171 5 = y1 from hy1.symm]
      exact pj_X_rt rfl rfl ⟨_, rfl, hI, hK, pj_i32 _⟩
def kc_223 : pj_KT := ([(171, 33), (171, 34), (171, 35)], [171], [])
theorem ct_223 (G0 : pj_G) (hI : pj_Inv G0) : pj_Y 1 223 [.ref 171] G0 (fun v G' => v = none ∧ pj_Inv G' ∧ pj_kpt kc_223 G0 G') := by
  have c0_ : (Int32.ofInt 0).toInt = 0 := by decide
  refine pj_Y_X (M := pj_m223) rfl rfl (Nat.le_of_ble_eq_true rfl) ?_
  have hK : pj_kpt kc_223 G0 G0 := pj_kpt_r _ _
  show pj_X _ _ G0 0 [(0, .ref 171)] [] _
  refine pj_X_of (fun r h => pj_R_to (G0, 2, [(0, .ref 171)], [.int (Int32.ofInt 0), .ref 171], 0, 0) 2 3 (fun _ => rfl) h) ?_
  refine pj_X_of (fun r h => pj_T_pf hI rfl rfl rfl h) ?_
  show pj_X _ _ (pj_wv G0 171 33 (.int (Int32.ofInt 0))) 5 [(0, .ref 171)] [] _
  obtain ⟨G1, hG1⟩ : ∃ H, H = pj_wv G0 171 33 (.int (Int32.ofInt 0)) := ⟨_, rfl⟩
  have iG1 : pj_Inv G1 := by rw [hG1]; exact pj_Inv_wi hI (ci := 12) rfl (fun q hq => by cases hq)
  have kG1 : pj_kpt kc_223 G0 G1 := by rw [hG1]; exact pj_kpt_v hK rfl
  rw [← hG1]
  refine pj_X_of (fun r h => pj_R_to (G1, 7, [(0, .ref 171)], [.int (Int32.ofInt 0), .ref 171], 0, 0) 7 3 (fun _ => rfl) h) ?_
  refine pj_X_of (fun r h => pj_T_pf iG1 rfl rfl rfl h) ?_
  show pj_X _ _ (pj_wv G1 171 34 (.int (Int32.ofInt 0))) 10 [(0, .ref 171)] [] _
  obtain ⟨G2, hG2⟩ : ∃ H, H = pj_wv G1 171 34 (.int (Int32.ofInt 0)) := ⟨_, rfl⟩
  have iG2 : pj_Inv G2 := by rw [hG2]; exact pj_Inv_wi iG1 (ci := 12) rfl (fun q hq => by cases hq)
  have kG2 : pj_kpt kc_223 G0 G2 := by rw [hG2]; exact pj_kpt_v kG1 rfl
  rw [← hG2]
  refine pj_X_of (fun r h => pj_R_to (G2, 12, [(0, .ref 171)], [.int (Int32.ofInt 0), .ref 171], 0, 0) 12 3 (fun _ => rfl) h) ?_
  refine pj_X_of (fun r h => pj_T_pf iG2 rfl rfl rfl h) ?_
  show pj_X _ _ (pj_wv G2 171 35 (.int (Int32.ofInt 0))) 15 [(0, .ref 171)] [] _
  obtain ⟨G3, hG3⟩ : ∃ H, H = pj_wv G2 171 35 (.int (Int32.ofInt 0)) := ⟨_, rfl⟩
  have iG3 : pj_Inv G3 := by rw [hG3]; exact pj_Inv_wi iG2 (ci := 12) rfl (fun q hq => by cases hq)
  have kG3 : pj_kpt kc_223 G0 G3 := by rw [hG3]; exact pj_kpt_v kG2 rfl
  rw [← hG3]
  exact pj_X_rt rfl rfl ⟨rfl, iG3, kG3⟩
def kc_224 : pj_KT := ([(171, 33), (171, 34), (171, 35)], [171, 179], [179])
theorem lp_ct_224 (G0 : pj_G) (hI0 : pj_Inv G0) : ∀ mn : Nat, (∀ (G : pj_G) (hI : pj_Inv G) (hK : pj_kpt kc_224 G0 G) (v1 : Int32), ((0 : Int) ≤ v1.toInt ∧ v1.toInt ≤ 6) → 6 - v1.toInt < (mn : Int) → pj_X 1 pj_m224 G 13 [(0, .ref 171), (1, .int v1)] [] (fun v G' => v = none ∧ pj_Inv G' ∧ pj_kpt kc_224 G0 G')) := by
  have c0_ : ((Int8.ofInt 30).toInt32).toInt = 30 := by decide
  have c1_ : ((Int8.ofInt 31).toInt32).toInt = 31 := by decide
  have c2_ : (Int32.ofInt (-1)).toInt = -1 := by decide
  have c3_ : (Int32.ofInt 0).toInt = 0 := by decide
  have c4_ : (Int32.ofInt 1).toInt = 1 := by decide
  have c5_ : (Int32.ofInt 2).toInt = 2 := by decide
  have c6_ : (Int32.ofInt 4).toInt = 4 := by decide
  intro mn
  induction mn with
  | zero =>
    intro G hI hK v1 rv1 hm
    exfalso
    omega
  | succ mn ih =>
    intro G hI hK v1 rv1 hm
    refine pj_X_of (fun r h => pj_R_to (G, 15, [(0, .ref 171), (1, .int v1)], [.ref 171, .int v1], 0, 0) 15 3 (fun _ => rfl) h) ?_
    refine pj_X_of (fun r h => pj_T_gi hI rfl rfl h) ?_
    show pj_X _ _ G 18 [(0, .ref 171), (1, .int v1)] [.int (pj_fi G 171 5), .int v1] _
    obtain ⟨y1, hy1⟩ : ∃ z : Int32, z = pj_fi G 171 5 := ⟨_, rfl⟩
    refine pj_X_eqi hy1.symm ?_
    have ey1 : (pj_fi G 171 5).toInt = y1.toInt := by rw [hy1]
    have ry1 : (0 : Int) ≤ y1.toInt ∧ y1.toInt ≤ 6 := by rw [hy1]; exact hI.2.1 171 5 (0, 6) rfl
    cases b2 : pj_c1 .ge v1 y1 with
    | true =>
      have ub2 := pj_u_geT b2
      refine pj_X_of (fun r h => pj_R_icT 199 rfl rfl b2 h) ?_
      exact pj_X_rt rfl rfl ⟨rfl, hI, hK⟩
    | false =>
      have ub2 := pj_u_geF b2
      refine pj_X_of (fun r h => pj_R_icF rfl b2 h) ?_
      refine pj_X_of (fun r h => pj_R_to (G, 24, [(0, .ref 171), (1, .int v1)], [.int ((Int32.ofInt 4) * v1)], 0, 0) 24 4 (fun _ => rfl) h) ?_
      obtain ⟨z3, hz3⟩ : ∃ z : Int32, z = (Int32.ofInt 4) * v1 := ⟨_, rfl⟩
      refine pj_X_eqi hz3.symm ?_
      have fz3_0 : z3.toInt = 4 * v1.toInt := by rw [hz3]; exact pj_mulL (by decide) (by omega) (by omega)
      refine pj_X_of (fun r h => pj_R_to (G, 26, [(2, .int z3), (0, .ref 171), (1, .int v1)], [.ref 171], 0, 0) 26 3 (fun _ => rfl) h) ?_
      refine pj_X_of (fun r h => pj_T_gr hI rfl rfl rfl h) ?_
      refine pj_X_of (fun r h => pj_R_to (G, 32, [(2, .int z3), (0, .ref 171), (1, .int v1)], [.int (z3 + (Int32.ofInt 1)), .ref 179], 0, 0) 32 4 (fun _ => rfl) h) ?_
      obtain ⟨z4, hz4⟩ : ∃ z : Int32, z = z3 + (Int32.ofInt 1) := ⟨_, rfl⟩
      refine pj_X_eqi hz4.symm ?_
      have fz4_0 : z4.toInt = z3.toInt + (Int32.ofInt 1).toInt := by rw [hz4]; exact pj_addI (by have := pj_i32 z3; have := pj_i32 (Int32.ofInt 1); omega) (by have := pj_i32 z3; have := pj_i32 (Int32.ofInt 1); omega)
      refine pj_X_of (fun r h => pj_T_il hI rfl rfl (by omega) (by omega) h) ?_
      show pj_X _ _ G 33 [(2, .int z3), (0, .ref 171), (1, .int v1)] [.int (pj_ai G 179 z4.toInt.toNat)] _
      obtain ⟨z5, hz5⟩ : ∃ z : Int32, z = pj_ai G 179 z4.toInt.toNat := ⟨_, rfl⟩
      refine pj_X_eqi hz5.symm ?_
      have ez5 : (pj_ai G 179 z4.toInt.toNat).toInt = z5.toInt := by rw [hz5]
      have fz5_0 : 0 ≤ z5.toInt := by rw [hz5]; exact ((hI.2.2.2 179 32 rfl _ (by show _ < 32; omega)).1 (by omega)).2 (by omega)
      cases b6 : pj_c1 .le z5 0 with
      | true =>
        have ub6 := pj_u0_leT b6
        refine pj_X_of (fun r h => pj_R_ifT 75 rfl rfl b6 h) ?_
        refine pj_X_of (fun r h => pj_R_to (G, 76, [(2, .int z3), (0, .ref 171), (1, .int v1)], [.ref 171], 0, 0) 76 2 (fun _ => rfl) h) ?_
        refine pj_X_of (fun r h => pj_T_gr hI rfl rfl rfl h) ?_
        refine pj_X_of (fun r h => pj_R_to (G, 82, [(2, .int z3), (0, .ref 171), (1, .int v1)], [.int (z3 + (Int32.ofInt 2)), .ref 179], 0, 0) 82 4 (fun _ => rfl) h) ?_
        obtain ⟨z7, hz7⟩ : ∃ z : Int32, z = z3 + (Int32.ofInt 2) := ⟨_, rfl⟩
        refine pj_X_eqi hz7.symm ?_
        have fz7_0 : z7.toInt = z3.toInt + (Int32.ofInt 2).toInt := by rw [hz7]; exact pj_addI (by have := pj_i32 z3; have := pj_i32 (Int32.ofInt 2); omega) (by have := pj_i32 z3; have := pj_i32 (Int32.ofInt 2); omega)
        refine pj_X_of (fun r h => pj_T_il hI rfl rfl (by omega) (by omega) h) ?_
        show pj_X _ _ G 83 [(2, .int z3), (0, .ref 171), (1, .int v1)] [.int (pj_ai G 179 z7.toInt.toNat)] _
        obtain ⟨z8, hz8⟩ : ∃ z : Int32, z = pj_ai G 179 z7.toInt.toNat := ⟨_, rfl⟩
        refine pj_X_eqi hz8.symm ?_
        have ez8 : (pj_ai G 179 z7.toInt.toNat).toInt = z8.toInt := by rw [hz8]
        refine pj_X_of (fun r h => pj_R_to (G, 84, [(2, .int z3), (0, .ref 171), (1, .int v1)], [.ref 171, .int z8], 0, 0) 84 2 (fun _ => rfl) h) ?_
        refine pj_X_of (fun r h => pj_T_gr hI rfl rfl rfl h) ?_
        refine pj_X_of (fun r h => pj_R_to (G, 89, [(2, .int z3), (0, .ref 171), (1, .int v1)], [.int ((Int8.ofInt 30).toInt32), .ref 179, .int z8], 0, 0) 89 2 (fun _ => rfl) h) ?_
        refine pj_X_of (fun r h => pj_T_il hI rfl rfl (by omega) (by omega) h) ?_
        show pj_X _ _ G 90 [(2, .int z3), (0, .ref 171), (1, .int v1)] [.int (pj_ai G 179 ((Int8.ofInt 30).toInt32).toInt.toNat), .int z8] _
        obtain ⟨z9, hz9⟩ : ∃ z : Int32, z = pj_ai G 179 ((Int8.ofInt 30).toInt32).toInt.toNat := ⟨_, rfl⟩
        refine pj_X_eqi hz9.symm ?_
        have ez9 : (pj_ai G 179 ((Int8.ofInt 30).toInt32).toInt.toNat).toInt = z9.toInt := by rw [hz9]
        cases b10 : pj_c1 .ne z8 z9 with
        | true =>
          have ub10 := pj_u_neT b10
          refine pj_X_of (fun r h => pj_R_icT 193 rfl rfl b10 h) ?_
          refine pj_X_of (fun r h => pj_R_to (G, 196, [(1, .int (v1 + Int32.ofInt 1)), (2, .int z3), (0, .ref 171)], [], 0, 0) 196 2 (fun _ => rfl) h) ?_
          obtain ⟨z11, hz11⟩ : ∃ z : Int32, z = v1 + Int32.ofInt 1 := ⟨_, rfl⟩
          rw [← hz11]
          have fz11_0 : z11.toInt = v1.toInt + (Int32.ofInt 1).toInt := by rw [hz11]; exact pj_addI (by have := pj_i32 v1; have := pj_i32 (Int32.ofInt 1); omega) (by have := pj_i32 v1; have := pj_i32 (Int32.ofInt 1); omega)
          refine pj_X_of (fun r h => pj_R_to (G, 13, [(1, .int z11), (2, .int z3), (0, .ref 171)], [], 0, 0) 13 2 (fun _ => rfl) h) ?_
          exact pj_X_sub [(0, .ref 171), (1, .int z11)] (show List.Nodup [0, 1] by decide) ⟨rfl, rfl, trivial⟩ (ih G hI hK z11 ⟨by omega, by omega⟩ (by omega))
        | false =>
          have ub10 := pj_u_neF b10
          refine pj_X_of (fun r h => pj_R_icF rfl b10 h) ?_
          refine pj_X_of (fun r h => pj_R_to (G, 94, [(2, .int z3), (0, .ref 171), (1, .int v1)], [.ref 171], 0, 0) 94 2 (fun _ => rfl) h) ?_
          refine pj_X_of (fun r h => pj_T_gr hI rfl rfl rfl h) ?_
          refine pj_X_of (fun r h => pj_R_to (G, 100, [(2, .int z3), (0, .ref 171), (1, .int v1)], [.int (z3 + (Int32.ofInt 2)), .ref 179], 0, 0) 100 4 (fun _ => rfl) h) ?_
          obtain ⟨z12, hz12⟩ : ∃ z : Int32, z = z3 + (Int32.ofInt 2) := ⟨_, rfl⟩
          refine pj_X_eqi hz12.symm ?_
          have fz12_0 : z12.toInt = z3.toInt + (Int32.ofInt 2).toInt := by rw [hz12]; exact pj_addI (by have := pj_i32 z3; have := pj_i32 (Int32.ofInt 2); omega) (by have := pj_i32 z3; have := pj_i32 (Int32.ofInt 2); omega)
          refine pj_X_of (fun r h => pj_R_to (G, 101, [(2, .int z3), (0, .ref 171), (1, .int v1)], [.int (Int32.ofInt (-1)), .int z12, .ref 179], 0, 0) 101 2 (fun _ => rfl) h) ?_
          refine pj_X_of (fun r h => pj_T_is hI rfl rfl (by omega) (by omega) h) ?_
          show pj_X _ _ (pj_wa G 179 z12.toInt.toNat (Int32.ofInt (-1))) 102 [(2, .int z3), (0, .ref 171), (1, .int v1)] [] _
          obtain ⟨G13, hG13⟩ : ∃ H, H = pj_wa G 179 z12.toInt.toNat (Int32.ofInt (-1)) := ⟨_, rfl⟩
          have iG13 : pj_Inv G13 := by rw [hG13]; exact pj_Inv_wa hI rfl (fun q hq => by cases hq) (fun n hn => ⟨fun h1 => ⟨fun h2 => by omega, fun h2 => by omega⟩, fun h1 => by omega⟩)
          have kG13 : pj_kpt kc_224 G0 G13 := by rw [hG13]; exact pj_kpt_a hK rfl
          rw [← hG13]
          refine pj_X_of (fun r h => pj_R_to (G13, 103, [(2, .int z3), (0, .ref 171), (1, .int v1)], [.ref 171], 0, 0) 103 2 (fun _ => rfl) h) ?_
          refine pj_X_of (fun r h => pj_T_gr iG13 rfl rfl rfl h) ?_
          refine pj_X_of (fun r h => pj_R_to (G13, 109, [(2, .int z3), (0, .ref 171), (1, .int v1)], [.int (z3 + (Int32.ofInt 0)), .ref 179], 0, 0) 109 4 (fun _ => rfl) h) ?_
          obtain ⟨z14, hz14⟩ : ∃ z : Int32, z = z3 + (Int32.ofInt 0) := ⟨_, rfl⟩
          refine pj_X_eqi hz14.symm ?_
          have fz14_0 : z14.toInt = z3.toInt + (Int32.ofInt 0).toInt := by rw [hz14]; exact pj_addI (by have := pj_i32 z3; have := pj_i32 (Int32.ofInt 0); omega) (by have := pj_i32 z3; have := pj_i32 (Int32.ofInt 0); omega)
          refine pj_X_of (fun r h => pj_T_il iG13 rfl rfl (by omega) (by omega) h) ?_
          show pj_X _ _ G13 110 [(2, .int z3), (0, .ref 171), (1, .int v1)] [.int (pj_ai G13 179 z14.toInt.toNat)] _
          obtain ⟨z15, hz15⟩ : ∃ z : Int32, z = pj_ai G13 179 z14.toInt.toNat := ⟨_, rfl⟩
          refine pj_X_eqi hz15.symm ?_
          have ez15 : (pj_ai G13 179 z14.toInt.toNat).toInt = z15.toInt := by rw [hz15]
          have fz15_0 : -1 ≤ z15.toInt ∧ z15.toInt ≤ 9 := by rw [hz15]; exact ((iG13.2.2.2 179 32 rfl _ (by show _ < 32; omega)).1 (by omega)).1 (by omega)
          cases b16 : pj_c1 .ge z15 0 with
          | true =>
            have ub16 := pj_u0_geT b16
            refine pj_X_of (fun r h => pj_R_ifT 128 rfl rfl b16 h) ?_
            refine pj_X_of (fun r h => pj_R_to (G13, 132, [(3, .int (Int32.ofInt 0)), (2, .int z3), (0, .ref 171), (1, .int v1)], [.ref 171, .ref 171], 0, 0) 132 5 (fun _ => rfl) h) ?_
            refine pj_X_of (fun r h => pj_T_gi iG13 rfl rfl h) ?_
            show pj_X _ _ G13 135 [(3, .int (Int32.ofInt 0)), (2, .int z3), (0, .ref 171), (1, .int v1)] [.int (pj_fi G13 171 34), .ref 171] _
            obtain ⟨y17, hy17⟩ : ∃ z : Int32, z = pj_fi G13 171 34 := ⟨_, rfl⟩
            refine pj_X_eqi hy17.symm ?_
            have ey17 : (pj_fi G13 171 34).toInt = y17.toInt := by rw [hy17]
            refine pj_X_of (fun r h => pj_R_to (G13, 136, [(3, .int (Int32.ofInt 0)), (2, .int z3), (0, .ref 171), (1, .int v1)], [.int (Int32.ofInt 0), .int y17, .ref 171], 0, 0) 136 2 (fun _ => rfl) h) ?_
            refine pj_X_of (fun r h => pj_R_ifT 143 rfl rfl (pj_b0_eqT (by omega)) h) ?_
            refine pj_X_of (fun r h => pj_R_to (G13, 146, [(3, .int (Int32.ofInt 0)), (2, .int z3), (0, .ref 171), (1, .int v1)], [.int ((Int32.ofInt 1) <<< (v1 &&& 31)), .int y17, .ref 171], 0, 0) 146 4 (fun _ => rfl) h) ?_
            obtain ⟨z18, hz18⟩ : ∃ z : Int32, z = (Int32.ofInt 1) <<< (v1 &&& 31) := ⟨_, rfl⟩
            refine pj_X_eqi hz18.symm ?_
            have fz18_0 : 1 ≤ z18.toInt ∧ z18.toInt ≤ 32 := by rw [hz18]; exact pj_shlI5 (by omega) (by omega)
            refine pj_X_of (fun r h => pj_R_to (G13, 147, [(3, .int (Int32.ofInt 0)), (2, .int z3), (0, .ref 171), (1, .int v1)], [.int (y17 ||| z18), .ref 171], 0, 0) 147 2 (fun _ => rfl) h) ?_
            obtain ⟨z19, hz19⟩ : ∃ z : Int32, z = y17 ||| z18 := ⟨_, rfl⟩
            refine pj_X_eqi hz19.symm ?_
            refine pj_X_of (fun r h => pj_T_pf iG13 rfl rfl rfl h) ?_
            show pj_X _ _ (pj_wv G13 171 34 (.int z19)) 150 [(3, .int (Int32.ofInt 0)), (2, .int z3), (0, .ref 171), (1, .int v1)] [] _
            obtain ⟨G20, hG20⟩ : ∃ H, H = pj_wv G13 171 34 (.int z19) := ⟨_, rfl⟩
            have iG20 : pj_Inv G20 := by rw [hG20]; exact pj_Inv_wi iG13 (ci := 12) rfl (fun q hq => by cases hq)
            have kG20 : pj_kpt kc_224 G0 G20 := by rw [hG20]; exact pj_kpt_v kG13 rfl
            rw [← hG20]
            refine pj_X_of (fun r h => pj_R_to (G20, 152, [(3, .int (Int32.ofInt 0)), (2, .int z3), (0, .ref 171), (1, .int v1)], [.ref 171, .ref 171], 0, 0) 152 3 (fun _ => rfl) h) ?_
            refine pj_X_of (fun r h => pj_T_gi iG20 rfl rfl h) ?_
            show pj_X _ _ G20 155 [(3, .int (Int32.ofInt 0)), (2, .int z3), (0, .ref 171), (1, .int v1)] [.int (pj_fi G20 171 35), .ref 171] _
            obtain ⟨y21, hy21⟩ : ∃ z : Int32, z = pj_fi G20 171 35 := ⟨_, rfl⟩
            refine pj_X_eqi hy21.symm ?_
            have ey21 : (pj_fi G20 171 35).toInt = y21.toInt := by rw [hy21]
            refine pj_X_of (fun r h => pj_R_to (G20, 156, [(3, .int (Int32.ofInt 0)), (2, .int z3), (0, .ref 171), (1, .int v1)], [.int (Int32.ofInt 0), .int y21, .ref 171], 0, 0) 156 2 (fun _ => rfl) h) ?_
            refine pj_X_of (fun r h => pj_R_ifF rfl (pj_b0_neF (by omega)) h) ?_
            refine pj_X_of (fun r h => pj_R_to (G20, 164, [(3, .int (Int32.ofInt 0)), (2, .int z3), (0, .ref 171), (1, .int v1)], [.int (Int32.ofInt 1), .int y21, .ref 171], 0, 0) 164 3 (fun _ => rfl) h) ?_
            refine pj_X_ca (vs := [.int (Int32.ofInt 1)]) rfl (fun _ => rfl) ⟨Nat.le_of_ble_eq_true rfl, Nat.le_of_ble_eq_true rfl, rfl⟩ ⟨rfl, rfl⟩ (pj_Y_up (by decide) (ct_172 G20 iG20 (Int32.ofInt 1) ⟨by omega, by omega⟩)) ?_
            rintro _ _ ⟨y22, rfl, rfl, ry22, ey22⟩
            show pj_X _ _ G20 167 [(3, .int (Int32.ofInt 0)), (2, .int z3), (0, .ref 171), (1, .int v1)] [.int y22, .int y21, .ref 171] _
            refine pj_X_of (fun r h => pj_R_to (G20, 168, [(3, .int (Int32.ofInt 0)), (2, .int z3), (0, .ref 171), (1, .int v1)], [.int (y21 + y22), .ref 171], 0, 0) 168 2 (fun _ => rfl) h) ?_
            obtain ⟨z23, hz23⟩ : ∃ z : Int32, z = y21 + y22 := ⟨_, rfl⟩
            refine pj_X_eqi hz23.symm ?_
            refine pj_X_of (fun r h => pj_T_pf iG20 rfl rfl rfl h) ?_
            show pj_X _ _ (pj_wv G20 171 35 (.int z23)) 171 [(3, .int (Int32.ofInt 0)), (2, .int z3), (0, .ref 171), (1, .int v1)] [] _
            obtain ⟨G24, hG24⟩ : ∃ H, H = pj_wv G20 171 35 (.int z23) := ⟨_, rfl⟩
            have iG24 : pj_Inv G24 := by rw [hG24]; exact pj_Inv_wi iG20 (ci := 12) rfl (fun q hq => by cases hq)
            have kG24 : pj_kpt kc_224 G0 G24 := by rw [hG24]; exact pj_kpt_v kG20 rfl
            rw [← hG24]
            refine pj_X_of (fun r h => pj_R_to (G24, 172, [(3, .int (Int32.ofInt 0)), (2, .int z3), (0, .ref 171), (1, .int v1)], [.ref 171], 0, 0) 172 2 (fun _ => rfl) h) ?_
            refine pj_X_of (fun r h => pj_T_gr iG24 rfl rfl rfl h) ?_
            refine pj_X_of (fun r h => pj_R_to (G24, 178, [(3, .int (Int32.ofInt 0)), (2, .int z3), (0, .ref 171), (1, .int v1)], [.int ((Int8.ofInt 31).toInt32), .ref 179, .int ((Int8.ofInt 31).toInt32), .ref 179], 0, 0) 178 3 (fun _ => rfl) h) ?_
            refine pj_X_of (fun r h => pj_T_il iG24 rfl rfl (by omega) (by omega) h) ?_
            show pj_X _ _ G24 179 [(3, .int (Int32.ofInt 0)), (2, .int z3), (0, .ref 171), (1, .int v1)] [.int (pj_ai G24 179 ((Int8.ofInt 31).toInt32).toInt.toNat), .int ((Int8.ofInt 31).toInt32), .ref 179] _
            obtain ⟨z25, hz25⟩ : ∃ z : Int32, z = pj_ai G24 179 ((Int8.ofInt 31).toInt32).toInt.toNat := ⟨_, rfl⟩
            refine pj_X_eqi hz25.symm ?_
            have ez25 : (pj_ai G24 179 ((Int8.ofInt 31).toInt32).toInt.toNat).toInt = z25.toInt := by rw [hz25]
            refine pj_X_of (fun r h => pj_R_to (G24, 180, [(3, .int (Int32.ofInt 0)), (2, .int z3), (0, .ref 171), (1, .int v1)], [.int (Int32.ofInt 0), .int z25, .int ((Int8.ofInt 31).toInt32), .ref 179], 0, 0) 180 2 (fun _ => rfl) h) ?_
            refine pj_X_of (fun r h => pj_R_ifF rfl (pj_b0_neF (by omega)) h) ?_
            refine pj_X_of (fun r h => pj_R_to (G24, 188, [(3, .int (Int32.ofInt 0)), (2, .int z3), (0, .ref 171), (1, .int v1)], [.int (Int32.ofInt 1), .int z25, .int ((Int8.ofInt 31).toInt32), .ref 179], 0, 0) 188 3 (fun _ => rfl) h) ?_
            refine pj_X_ca (vs := [.int (Int32.ofInt 1)]) rfl (fun _ => rfl) ⟨Nat.le_of_ble_eq_true rfl, Nat.le_of_ble_eq_true rfl, rfl⟩ ⟨rfl, rfl⟩ (pj_Y_up (by decide) (ct_172 G24 iG24 (Int32.ofInt 1) ⟨by omega, by omega⟩)) ?_
            rintro _ _ ⟨y26, rfl, rfl, ry26, ey26⟩
            show pj_X _ _ G24 191 [(3, .int (Int32.ofInt 0)), (2, .int z3), (0, .ref 171), (1, .int v1)] [.int y26, .int z25, .int ((Int8.ofInt 31).toInt32), .ref 179] _
            refine pj_X_of (fun r h => pj_R_to (G24, 192, [(3, .int (Int32.ofInt 0)), (2, .int z3), (0, .ref 171), (1, .int v1)], [.int (z25 + y26), .int ((Int8.ofInt 31).toInt32), .ref 179], 0, 0) 192 2 (fun _ => rfl) h) ?_
            obtain ⟨z27, hz27⟩ : ∃ z : Int32, z = z25 + y26 := ⟨_, rfl⟩
            refine pj_X_eqi hz27.symm ?_
            refine pj_X_of (fun r h => pj_T_is iG24 rfl rfl (by omega) (by omega) h) ?_
            show pj_X _ _ (pj_wa G24 179 ((Int8.ofInt 31).toInt32).toInt.toNat z27) 193 [(3, .int (Int32.ofInt 0)), (2, .int z3), (0, .ref 171), (1, .int v1)] [] _
            obtain ⟨G28, hG28⟩ : ∃ H, H = pj_wa G24 179 ((Int8.ofInt 31).toInt32).toInt.toNat z27 := ⟨_, rfl⟩
            have iG28 : pj_Inv G28 := by rw [hG28]; exact pj_Inv_wa iG24 rfl (fun q hq => by cases hq) (fun n hn => ⟨fun h1 => ⟨fun h2 => by omega, fun h2 => by omega⟩, fun h1 => by omega⟩)
            have kG28 : pj_kpt kc_224 G0 G28 := by rw [hG28]; exact pj_kpt_a kG24 rfl
            rw [← hG28]
            refine pj_X_of (fun r h => pj_R_to (G28, 196, [(1, .int (v1 + Int32.ofInt 1)), (3, .int (Int32.ofInt 0)), (2, .int z3), (0, .ref 171)], [], 0, 0) 196 2 (fun _ => rfl) h) ?_
            obtain ⟨z29, hz29⟩ : ∃ z : Int32, z = v1 + Int32.ofInt 1 := ⟨_, rfl⟩
            rw [← hz29]
            have fz29_0 : z29.toInt = v1.toInt + (Int32.ofInt 1).toInt := by rw [hz29]; exact pj_addI (by have := pj_i32 v1; have := pj_i32 (Int32.ofInt 1); omega) (by have := pj_i32 v1; have := pj_i32 (Int32.ofInt 1); omega)
            refine pj_X_of (fun r h => pj_R_to (G28, 13, [(1, .int z29), (3, .int (Int32.ofInt 0)), (2, .int z3), (0, .ref 171)], [], 0, 0) 13 2 (fun _ => rfl) h) ?_
            exact pj_X_sub [(0, .ref 171), (1, .int z29)] (show List.Nodup [0, 1] by decide) ⟨rfl, rfl, trivial⟩ (ih G28 iG28 kG28 z29 ⟨by omega, by omega⟩ (by omega))
          | false =>
            have ub16 := pj_u0_geF b16
            refine pj_X_of (fun r h => pj_R_ifF rfl b16 h) ?_
            refine pj_X_of (fun r h => pj_R_to (G13, 114, [(2, .int z3), (0, .ref 171), (1, .int v1)], [.ref 171], 0, 0) 114 2 (fun _ => rfl) h) ?_
            refine pj_X_of (fun r h => pj_T_gr iG13 rfl rfl rfl h) ?_
            refine pj_X_of (fun r h => pj_R_to (G13, 120, [(2, .int z3), (0, .ref 171), (1, .int v1)], [.int (z3 + (Int32.ofInt 1)), .ref 179], 0, 0) 120 4 (fun _ => rfl) h) ?_
            obtain ⟨z30, hz30⟩ : ∃ z : Int32, z = z3 + (Int32.ofInt 1) := ⟨_, rfl⟩
            refine pj_X_eqi hz30.symm ?_
            have fz30_0 : z30.toInt = z3.toInt + (Int32.ofInt 1).toInt := by rw [hz30]; exact pj_addI (by have := pj_i32 z3; have := pj_i32 (Int32.ofInt 1); omega) (by have := pj_i32 z3; have := pj_i32 (Int32.ofInt 1); omega)
            refine pj_X_of (fun r h => pj_T_il iG13 rfl rfl (by omega) (by omega) h) ?_
            show pj_X _ _ G13 121 [(2, .int z3), (0, .ref 171), (1, .int v1)] [.int (pj_ai G13 179 z30.toInt.toNat)] _
            obtain ⟨z31, hz31⟩ : ∃ z : Int32, z = pj_ai G13 179 z30.toInt.toNat := ⟨_, rfl⟩
            refine pj_X_eqi hz31.symm ?_
            have ez31 : (pj_ai G13 179 z30.toInt.toNat).toInt = z31.toInt := by rw [hz31]
            have fz31_0 : 0 ≤ z31.toInt := by rw [hz31]; exact ((iG13.2.2.2 179 32 rfl _ (by show _ < 32; omega)).1 (by omega)).2 (by omega)
            cases b32 : pj_c1 .ne z31 0 with
            | true =>
              have ub32 := pj_u0_neT b32
              refine pj_X_of (fun r h => pj_R_ifT 128 rfl rfl b32 h) ?_
              refine pj_X_of (fun r h => pj_R_to (G13, 132, [(3, .int (Int32.ofInt 0)), (2, .int z3), (0, .ref 171), (1, .int v1)], [.ref 171, .ref 171], 0, 0) 132 5 (fun _ => rfl) h) ?_
              refine pj_X_of (fun r h => pj_T_gi iG13 rfl rfl h) ?_
              show pj_X _ _ G13 135 [(3, .int (Int32.ofInt 0)), (2, .int z3), (0, .ref 171), (1, .int v1)] [.int (pj_fi G13 171 34), .ref 171] _
              obtain ⟨y33, hy33⟩ : ∃ z : Int32, z = pj_fi G13 171 34 := ⟨_, rfl⟩
              refine pj_X_eqi hy33.symm ?_
              have ey33 : (pj_fi G13 171 34).toInt = y33.toInt := by rw [hy33]
              refine pj_X_of (fun r h => pj_R_to (G13, 136, [(3, .int (Int32.ofInt 0)), (2, .int z3), (0, .ref 171), (1, .int v1)], [.int (Int32.ofInt 0), .int y33, .ref 171], 0, 0) 136 2 (fun _ => rfl) h) ?_
              refine pj_X_of (fun r h => pj_R_ifT 143 rfl rfl (pj_b0_eqT (by omega)) h) ?_
              refine pj_X_of (fun r h => pj_R_to (G13, 146, [(3, .int (Int32.ofInt 0)), (2, .int z3), (0, .ref 171), (1, .int v1)], [.int ((Int32.ofInt 1) <<< (v1 &&& 31)), .int y33, .ref 171], 0, 0) 146 4 (fun _ => rfl) h) ?_
              obtain ⟨z34, hz34⟩ : ∃ z : Int32, z = (Int32.ofInt 1) <<< (v1 &&& 31) := ⟨_, rfl⟩
              refine pj_X_eqi hz34.symm ?_
              have fz34_0 : 1 ≤ z34.toInt ∧ z34.toInt ≤ 32 := by rw [hz34]; exact pj_shlI5 (by omega) (by omega)
              refine pj_X_of (fun r h => pj_R_to (G13, 147, [(3, .int (Int32.ofInt 0)), (2, .int z3), (0, .ref 171), (1, .int v1)], [.int (y33 ||| z34), .ref 171], 0, 0) 147 2 (fun _ => rfl) h) ?_
              obtain ⟨z35, hz35⟩ : ∃ z : Int32, z = y33 ||| z34 := ⟨_, rfl⟩
              refine pj_X_eqi hz35.symm ?_
              refine pj_X_of (fun r h => pj_T_pf iG13 rfl rfl rfl h) ?_
              show pj_X _ _ (pj_wv G13 171 34 (.int z35)) 150 [(3, .int (Int32.ofInt 0)), (2, .int z3), (0, .ref 171), (1, .int v1)] [] _
              obtain ⟨G36, hG36⟩ : ∃ H, H = pj_wv G13 171 34 (.int z35) := ⟨_, rfl⟩
              have iG36 : pj_Inv G36 := by rw [hG36]; exact pj_Inv_wi iG13 (ci := 12) rfl (fun q hq => by cases hq)
              have kG36 : pj_kpt kc_224 G0 G36 := by rw [hG36]; exact pj_kpt_v kG13 rfl
              rw [← hG36]
              refine pj_X_of (fun r h => pj_R_to (G36, 152, [(3, .int (Int32.ofInt 0)), (2, .int z3), (0, .ref 171), (1, .int v1)], [.ref 171, .ref 171], 0, 0) 152 3 (fun _ => rfl) h) ?_
              refine pj_X_of (fun r h => pj_T_gi iG36 rfl rfl h) ?_
              show pj_X _ _ G36 155 [(3, .int (Int32.ofInt 0)), (2, .int z3), (0, .ref 171), (1, .int v1)] [.int (pj_fi G36 171 35), .ref 171] _
              obtain ⟨y37, hy37⟩ : ∃ z : Int32, z = pj_fi G36 171 35 := ⟨_, rfl⟩
              refine pj_X_eqi hy37.symm ?_
              have ey37 : (pj_fi G36 171 35).toInt = y37.toInt := by rw [hy37]
              refine pj_X_of (fun r h => pj_R_to (G36, 156, [(3, .int (Int32.ofInt 0)), (2, .int z3), (0, .ref 171), (1, .int v1)], [.int (Int32.ofInt 0), .int y37, .ref 171], 0, 0) 156 2 (fun _ => rfl) h) ?_
              refine pj_X_of (fun r h => pj_R_ifF rfl (pj_b0_neF (by omega)) h) ?_
              refine pj_X_of (fun r h => pj_R_to (G36, 164, [(3, .int (Int32.ofInt 0)), (2, .int z3), (0, .ref 171), (1, .int v1)], [.int (Int32.ofInt 1), .int y37, .ref 171], 0, 0) 164 3 (fun _ => rfl) h) ?_
              refine pj_X_ca (vs := [.int (Int32.ofInt 1)]) rfl (fun _ => rfl) ⟨Nat.le_of_ble_eq_true rfl, Nat.le_of_ble_eq_true rfl, rfl⟩ ⟨rfl, rfl⟩ (pj_Y_up (by decide) (ct_172 G36 iG36 (Int32.ofInt 1) ⟨by omega, by omega⟩)) ?_
              rintro _ _ ⟨y38, rfl, rfl, ry38, ey38⟩
              show pj_X _ _ G36 167 [(3, .int (Int32.ofInt 0)), (2, .int z3), (0, .ref 171), (1, .int v1)] [.int y38, .int y37, .ref 171] _
              refine pj_X_of (fun r h => pj_R_to (G36, 168, [(3, .int (Int32.ofInt 0)), (2, .int z3), (0, .ref 171), (1, .int v1)], [.int (y37 + y38), .ref 171], 0, 0) 168 2 (fun _ => rfl) h) ?_
              obtain ⟨z39, hz39⟩ : ∃ z : Int32, z = y37 + y38 := ⟨_, rfl⟩
              refine pj_X_eqi hz39.symm ?_
              refine pj_X_of (fun r h => pj_T_pf iG36 rfl rfl rfl h) ?_
              show pj_X _ _ (pj_wv G36 171 35 (.int z39)) 171 [(3, .int (Int32.ofInt 0)), (2, .int z3), (0, .ref 171), (1, .int v1)] [] _
              obtain ⟨G40, hG40⟩ : ∃ H, H = pj_wv G36 171 35 (.int z39) := ⟨_, rfl⟩
              have iG40 : pj_Inv G40 := by rw [hG40]; exact pj_Inv_wi iG36 (ci := 12) rfl (fun q hq => by cases hq)
              have kG40 : pj_kpt kc_224 G0 G40 := by rw [hG40]; exact pj_kpt_v kG36 rfl
              rw [← hG40]
              refine pj_X_of (fun r h => pj_R_to (G40, 172, [(3, .int (Int32.ofInt 0)), (2, .int z3), (0, .ref 171), (1, .int v1)], [.ref 171], 0, 0) 172 2 (fun _ => rfl) h) ?_
              refine pj_X_of (fun r h => pj_T_gr iG40 rfl rfl rfl h) ?_
              refine pj_X_of (fun r h => pj_R_to (G40, 178, [(3, .int (Int32.ofInt 0)), (2, .int z3), (0, .ref 171), (1, .int v1)], [.int ((Int8.ofInt 31).toInt32), .ref 179, .int ((Int8.ofInt 31).toInt32), .ref 179], 0, 0) 178 3 (fun _ => rfl) h) ?_
              refine pj_X_of (fun r h => pj_T_il iG40 rfl rfl (by omega) (by omega) h) ?_
              show pj_X _ _ G40 179 [(3, .int (Int32.ofInt 0)), (2, .int z3), (0, .ref 171), (1, .int v1)] [.int (pj_ai G40 179 ((Int8.ofInt 31).toInt32).toInt.toNat), .int ((Int8.ofInt 31).toInt32), .ref 179] _
              obtain ⟨z41, hz41⟩ : ∃ z : Int32, z = pj_ai G40 179 ((Int8.ofInt 31).toInt32).toInt.toNat := ⟨_, rfl⟩
              refine pj_X_eqi hz41.symm ?_
              have ez41 : (pj_ai G40 179 ((Int8.ofInt 31).toInt32).toInt.toNat).toInt = z41.toInt := by rw [hz41]
              refine pj_X_of (fun r h => pj_R_to (G40, 180, [(3, .int (Int32.ofInt 0)), (2, .int z3), (0, .ref 171), (1, .int v1)], [.int (Int32.ofInt 0), .int z41, .int ((Int8.ofInt 31).toInt32), .ref 179], 0, 0) 180 2 (fun _ => rfl) h) ?_
              refine pj_X_of (fun r h => pj_R_ifF rfl (pj_b0_neF (by omega)) h) ?_
              refine pj_X_of (fun r h => pj_R_to (G40, 188, [(3, .int (Int32.ofInt 0)), (2, .int z3), (0, .ref 171), (1, .int v1)], [.int (Int32.ofInt 1), .int z41, .int ((Int8.ofInt 31).toInt32), .ref 179], 0, 0) 188 3 (fun _ => rfl) h) ?_
              refine pj_X_ca (vs := [.int (Int32.ofInt 1)]) rfl (fun _ => rfl) ⟨Nat.le_of_ble_eq_true rfl, Nat.le_of_ble_eq_true rfl, rfl⟩ ⟨rfl, rfl⟩ (pj_Y_up (by decide) (ct_172 G40 iG40 (Int32.ofInt 1) ⟨by omega, by omega⟩)) ?_
              rintro _ _ ⟨y42, rfl, rfl, ry42, ey42⟩
              show pj_X _ _ G40 191 [(3, .int (Int32.ofInt 0)), (2, .int z3), (0, .ref 171), (1, .int v1)] [.int y42, .int z41, .int ((Int8.ofInt 31).toInt32), .ref 179] _
              refine pj_X_of (fun r h => pj_R_to (G40, 192, [(3, .int (Int32.ofInt 0)), (2, .int z3), (0, .ref 171), (1, .int v1)], [.int (z41 + y42), .int ((Int8.ofInt 31).toInt32), .ref 179], 0, 0) 192 2 (fun _ => rfl) h) ?_
              obtain ⟨z43, hz43⟩ : ∃ z : Int32, z = z41 + y42 := ⟨_, rfl⟩
              refine pj_X_eqi hz43.symm ?_
              refine pj_X_of (fun r h => pj_T_is iG40 rfl rfl (by omega) (by omega) h) ?_
              show pj_X _ _ (pj_wa G40 179 ((Int8.ofInt 31).toInt32).toInt.toNat z43) 193 [(3, .int (Int32.ofInt 0)), (2, .int z3), (0, .ref 171), (1, .int v1)] [] _
              obtain ⟨G44, hG44⟩ : ∃ H, H = pj_wa G40 179 ((Int8.ofInt 31).toInt32).toInt.toNat z43 := ⟨_, rfl⟩
              have iG44 : pj_Inv G44 := by rw [hG44]; exact pj_Inv_wa iG40 rfl (fun q hq => by cases hq) (fun n hn => ⟨fun h1 => ⟨fun h2 => by omega, fun h2 => by omega⟩, fun h1 => by omega⟩)
              have kG44 : pj_kpt kc_224 G0 G44 := by rw [hG44]; exact pj_kpt_a kG40 rfl
              rw [← hG44]
              refine pj_X_of (fun r h => pj_R_to (G44, 196, [(1, .int (v1 + Int32.ofInt 1)), (3, .int (Int32.ofInt 0)), (2, .int z3), (0, .ref 171)], [], 0, 0) 196 2 (fun _ => rfl) h) ?_
              obtain ⟨z45, hz45⟩ : ∃ z : Int32, z = v1 + Int32.ofInt 1 := ⟨_, rfl⟩
              rw [← hz45]
              have fz45_0 : z45.toInt = v1.toInt + (Int32.ofInt 1).toInt := by rw [hz45]; exact pj_addI (by have := pj_i32 v1; have := pj_i32 (Int32.ofInt 1); omega) (by have := pj_i32 v1; have := pj_i32 (Int32.ofInt 1); omega)
              refine pj_X_of (fun r h => pj_R_to (G44, 13, [(1, .int z45), (3, .int (Int32.ofInt 0)), (2, .int z3), (0, .ref 171)], [], 0, 0) 13 2 (fun _ => rfl) h) ?_
              exact pj_X_sub [(0, .ref 171), (1, .int z45)] (show List.Nodup [0, 1] by decide) ⟨rfl, rfl, trivial⟩ (ih G44 iG44 kG44 z45 ⟨by omega, by omega⟩ (by omega))
            | false =>
              have ub32 := pj_u0_neF b32
              refine pj_X_of (fun r h => pj_R_ifF rfl b32 h) ?_
              refine pj_X_of (fun r h => pj_R_to (G13, 132, [(3, .int (Int32.ofInt 1)), (2, .int z3), (0, .ref 171), (1, .int v1)], [.ref 171, .ref 171], 0, 0) 132 6 (fun _ => rfl) h) ?_
              refine pj_X_of (fun r h => pj_T_gi iG13 rfl rfl h) ?_
              show pj_X _ _ G13 135 [(3, .int (Int32.ofInt 1)), (2, .int z3), (0, .ref 171), (1, .int v1)] [.int (pj_fi G13 171 34), .ref 171] _
              obtain ⟨y46, hy46⟩ : ∃ z : Int32, z = pj_fi G13 171 34 := ⟨_, rfl⟩
              refine pj_X_eqi hy46.symm ?_
              have ey46 : (pj_fi G13 171 34).toInt = y46.toInt := by rw [hy46]
              refine pj_X_of (fun r h => pj_R_to (G13, 136, [(3, .int (Int32.ofInt 1)), (2, .int z3), (0, .ref 171), (1, .int v1)], [.int (Int32.ofInt 1), .int y46, .ref 171], 0, 0) 136 2 (fun _ => rfl) h) ?_
              refine pj_X_of (fun r h => pj_R_ifF rfl (pj_b0_eqF (by omega)) h) ?_
              refine pj_X_of (fun r h => pj_R_to (G13, 147, [(3, .int (Int32.ofInt 1)), (2, .int z3), (0, .ref 171), (1, .int v1)], [.int (y46 ||| (Int32.ofInt 0)), .ref 171], 0, 0) 147 4 (fun _ => rfl) h) ?_
              obtain ⟨z47, hz47⟩ : ∃ z : Int32, z = y46 ||| (Int32.ofInt 0) := ⟨_, rfl⟩
              refine pj_X_eqi hz47.symm ?_
              refine pj_X_of (fun r h => pj_T_pf iG13 rfl rfl rfl h) ?_
              show pj_X _ _ (pj_wv G13 171 34 (.int z47)) 150 [(3, .int (Int32.ofInt 1)), (2, .int z3), (0, .ref 171), (1, .int v1)] [] _
              obtain ⟨G48, hG48⟩ : ∃ H, H = pj_wv G13 171 34 (.int z47) := ⟨_, rfl⟩
              have iG48 : pj_Inv G48 := by rw [hG48]; exact pj_Inv_wi iG13 (ci := 12) rfl (fun q hq => by cases hq)
              have kG48 : pj_kpt kc_224 G0 G48 := by rw [hG48]; exact pj_kpt_v kG13 rfl
              rw [← hG48]
              refine pj_X_of (fun r h => pj_R_to (G48, 152, [(3, .int (Int32.ofInt 1)), (2, .int z3), (0, .ref 171), (1, .int v1)], [.ref 171, .ref 171], 0, 0) 152 3 (fun _ => rfl) h) ?_
              refine pj_X_of (fun r h => pj_T_gi iG48 rfl rfl h) ?_
              show pj_X _ _ G48 155 [(3, .int (Int32.ofInt 1)), (2, .int z3), (0, .ref 171), (1, .int v1)] [.int (pj_fi G48 171 35), .ref 171] _
              obtain ⟨y49, hy49⟩ : ∃ z : Int32, z = pj_fi G48 171 35 := ⟨_, rfl⟩
              refine pj_X_eqi hy49.symm ?_
              have ey49 : (pj_fi G48 171 35).toInt = y49.toInt := by rw [hy49]
              refine pj_X_of (fun r h => pj_R_to (G48, 156, [(3, .int (Int32.ofInt 1)), (2, .int z3), (0, .ref 171), (1, .int v1)], [.int (Int32.ofInt 1), .int y49, .ref 171], 0, 0) 156 2 (fun _ => rfl) h) ?_
              refine pj_X_of (fun r h => pj_R_ifT 163 rfl rfl (pj_b0_neT (by omega)) h) ?_
              refine pj_X_of (fun r h => pj_R_to (G48, 164, [(3, .int (Int32.ofInt 1)), (2, .int z3), (0, .ref 171), (1, .int v1)], [.int (Int32.ofInt 0), .int y49, .ref 171], 0, 0) 164 2 (fun _ => rfl) h) ?_
              refine pj_X_ca (vs := [.int (Int32.ofInt 0)]) rfl (fun _ => rfl) ⟨Nat.le_of_ble_eq_true rfl, Nat.le_of_ble_eq_true rfl, rfl⟩ ⟨rfl, rfl⟩ (pj_Y_up (by decide) (ct_172 G48 iG48 (Int32.ofInt 0) ⟨by omega, by omega⟩)) ?_
              rintro _ _ ⟨y50, rfl, rfl, ry50, ey50⟩
              show pj_X _ _ G48 167 [(3, .int (Int32.ofInt 1)), (2, .int z3), (0, .ref 171), (1, .int v1)] [.int y50, .int y49, .ref 171] _
              refine pj_X_of (fun r h => pj_R_to (G48, 168, [(3, .int (Int32.ofInt 1)), (2, .int z3), (0, .ref 171), (1, .int v1)], [.int (y49 + y50), .ref 171], 0, 0) 168 2 (fun _ => rfl) h) ?_
              obtain ⟨z51, hz51⟩ : ∃ z : Int32, z = y49 + y50 := ⟨_, rfl⟩
              refine pj_X_eqi hz51.symm ?_
              refine pj_X_of (fun r h => pj_T_pf iG48 rfl rfl rfl h) ?_
              show pj_X _ _ (pj_wv G48 171 35 (.int z51)) 171 [(3, .int (Int32.ofInt 1)), (2, .int z3), (0, .ref 171), (1, .int v1)] [] _
              obtain ⟨G52, hG52⟩ : ∃ H, H = pj_wv G48 171 35 (.int z51) := ⟨_, rfl⟩
              have iG52 : pj_Inv G52 := by rw [hG52]; exact pj_Inv_wi iG48 (ci := 12) rfl (fun q hq => by cases hq)
              have kG52 : pj_kpt kc_224 G0 G52 := by rw [hG52]; exact pj_kpt_v kG48 rfl
              rw [← hG52]
              refine pj_X_of (fun r h => pj_R_to (G52, 172, [(3, .int (Int32.ofInt 1)), (2, .int z3), (0, .ref 171), (1, .int v1)], [.ref 171], 0, 0) 172 2 (fun _ => rfl) h) ?_
              refine pj_X_of (fun r h => pj_T_gr iG52 rfl rfl rfl h) ?_
              refine pj_X_of (fun r h => pj_R_to (G52, 178, [(3, .int (Int32.ofInt 1)), (2, .int z3), (0, .ref 171), (1, .int v1)], [.int ((Int8.ofInt 31).toInt32), .ref 179, .int ((Int8.ofInt 31).toInt32), .ref 179], 0, 0) 178 3 (fun _ => rfl) h) ?_
              refine pj_X_of (fun r h => pj_T_il iG52 rfl rfl (by omega) (by omega) h) ?_
              show pj_X _ _ G52 179 [(3, .int (Int32.ofInt 1)), (2, .int z3), (0, .ref 171), (1, .int v1)] [.int (pj_ai G52 179 ((Int8.ofInt 31).toInt32).toInt.toNat), .int ((Int8.ofInt 31).toInt32), .ref 179] _
              obtain ⟨z53, hz53⟩ : ∃ z : Int32, z = pj_ai G52 179 ((Int8.ofInt 31).toInt32).toInt.toNat := ⟨_, rfl⟩
              refine pj_X_eqi hz53.symm ?_
              have ez53 : (pj_ai G52 179 ((Int8.ofInt 31).toInt32).toInt.toNat).toInt = z53.toInt := by rw [hz53]
              refine pj_X_of (fun r h => pj_R_to (G52, 180, [(3, .int (Int32.ofInt 1)), (2, .int z3), (0, .ref 171), (1, .int v1)], [.int (Int32.ofInt 1), .int z53, .int ((Int8.ofInt 31).toInt32), .ref 179], 0, 0) 180 2 (fun _ => rfl) h) ?_
              refine pj_X_of (fun r h => pj_R_ifT 187 rfl rfl (pj_b0_neT (by omega)) h) ?_
              refine pj_X_of (fun r h => pj_R_to (G52, 188, [(3, .int (Int32.ofInt 1)), (2, .int z3), (0, .ref 171), (1, .int v1)], [.int (Int32.ofInt 0), .int z53, .int ((Int8.ofInt 31).toInt32), .ref 179], 0, 0) 188 2 (fun _ => rfl) h) ?_
              refine pj_X_ca (vs := [.int (Int32.ofInt 0)]) rfl (fun _ => rfl) ⟨Nat.le_of_ble_eq_true rfl, Nat.le_of_ble_eq_true rfl, rfl⟩ ⟨rfl, rfl⟩ (pj_Y_up (by decide) (ct_172 G52 iG52 (Int32.ofInt 0) ⟨by omega, by omega⟩)) ?_
              rintro _ _ ⟨y54, rfl, rfl, ry54, ey54⟩
              show pj_X _ _ G52 191 [(3, .int (Int32.ofInt 1)), (2, .int z3), (0, .ref 171), (1, .int v1)] [.int y54, .int z53, .int ((Int8.ofInt 31).toInt32), .ref 179] _
              refine pj_X_of (fun r h => pj_R_to (G52, 192, [(3, .int (Int32.ofInt 1)), (2, .int z3), (0, .ref 171), (1, .int v1)], [.int (z53 + y54), .int ((Int8.ofInt 31).toInt32), .ref 179], 0, 0) 192 2 (fun _ => rfl) h) ?_
              obtain ⟨z55, hz55⟩ : ∃ z : Int32, z = z53 + y54 := ⟨_, rfl⟩
              refine pj_X_eqi hz55.symm ?_
              refine pj_X_of (fun r h => pj_T_is iG52 rfl rfl (by omega) (by omega) h) ?_
              show pj_X _ _ (pj_wa G52 179 ((Int8.ofInt 31).toInt32).toInt.toNat z55) 193 [(3, .int (Int32.ofInt 1)), (2, .int z3), (0, .ref 171), (1, .int v1)] [] _
              obtain ⟨G56, hG56⟩ : ∃ H, H = pj_wa G52 179 ((Int8.ofInt 31).toInt32).toInt.toNat z55 := ⟨_, rfl⟩
              have iG56 : pj_Inv G56 := by rw [hG56]; exact pj_Inv_wa iG52 rfl (fun q hq => by cases hq) (fun n hn => ⟨fun h1 => ⟨fun h2 => by omega, fun h2 => by omega⟩, fun h1 => by omega⟩)
              have kG56 : pj_kpt kc_224 G0 G56 := by rw [hG56]; exact pj_kpt_a kG52 rfl
              rw [← hG56]
              refine pj_X_of (fun r h => pj_R_to (G56, 196, [(1, .int (v1 + Int32.ofInt 1)), (3, .int (Int32.ofInt 1)), (2, .int z3), (0, .ref 171)], [], 0, 0) 196 2 (fun _ => rfl) h) ?_
              obtain ⟨z57, hz57⟩ : ∃ z : Int32, z = v1 + Int32.ofInt 1 := ⟨_, rfl⟩
              rw [← hz57]
              have fz57_0 : z57.toInt = v1.toInt + (Int32.ofInt 1).toInt := by rw [hz57]; exact pj_addI (by have := pj_i32 v1; have := pj_i32 (Int32.ofInt 1); omega) (by have := pj_i32 v1; have := pj_i32 (Int32.ofInt 1); omega)
              refine pj_X_of (fun r h => pj_R_to (G56, 13, [(1, .int z57), (3, .int (Int32.ofInt 1)), (2, .int z3), (0, .ref 171)], [], 0, 0) 13 2 (fun _ => rfl) h) ?_
              exact pj_X_sub [(0, .ref 171), (1, .int z57)] (show List.Nodup [0, 1] by decide) ⟨rfl, rfl, trivial⟩ (ih G56 iG56 kG56 z57 ⟨by omega, by omega⟩ (by omega))
      | false =>
        have ub6 := pj_u0_leF b6
        refine pj_X_of (fun r h => pj_R_ifF rfl b6 h) ?_
        refine pj_X_of (fun r h => pj_R_to (G, 37, [(2, .int z3), (0, .ref 171), (1, .int v1)], [.ref 171], 0, 0) 37 2 (fun _ => rfl) h) ?_
        refine pj_X_of (fun r h => pj_T_gr hI rfl rfl rfl h) ?_
        refine pj_X_of (fun r h => pj_R_to (G, 43, [(2, .int z3), (0, .ref 171), (1, .int v1)], [.int (z3 + (Int32.ofInt 1)), .ref 179], 0, 0) 43 4 (fun _ => rfl) h) ?_
        obtain ⟨z58, hz58⟩ : ∃ z : Int32, z = z3 + (Int32.ofInt 1) := ⟨_, rfl⟩
        refine pj_X_eqi hz58.symm ?_
        have fz58_0 : z58.toInt = z3.toInt + (Int32.ofInt 1).toInt := by rw [hz58]; exact pj_addI (by have := pj_i32 z3; have := pj_i32 (Int32.ofInt 1); omega) (by have := pj_i32 z3; have := pj_i32 (Int32.ofInt 1); omega)
        refine pj_X_of (fun r h => pj_R_to (G, 44, [(2, .int z3), (0, .ref 171), (1, .int v1)], [.int z58, .ref 179, .int z58, .ref 179], 0, 0) 44 2 (fun _ => rfl) h) ?_
        refine pj_X_of (fun r h => pj_T_il hI rfl rfl (by omega) (by omega) h) ?_
        show pj_X _ _ G 45 [(2, .int z3), (0, .ref 171), (1, .int v1)] [.int (pj_ai G 179 z58.toInt.toNat), .int z58, .ref 179] _
        obtain ⟨z59, hz59⟩ : ∃ z : Int32, z = pj_ai G 179 z58.toInt.toNat := ⟨_, rfl⟩
        refine pj_X_eqi hz59.symm ?_
        have ez59 : (pj_ai G 179 z58.toInt.toNat).toInt = z59.toInt := by rw [hz59]
        have fz59_0 : 0 ≤ z59.toInt := by rw [hz59]; exact ((hI.2.2.2 179 32 rfl _ (by show _ < 32; omega)).1 (by omega)).2 (by omega)
        have xz59_z5 : z59.toInt = z5.toInt := by rw [hz59, show z58.toInt.toNat = z4.toInt.toNat by omega, hz5]
        refine pj_X_of (fun r h => pj_R_to (G, 47, [(2, .int z3), (0, .ref 171), (1, .int v1)], [.int (z59 - (Int32.ofInt 1)), .int z58, .ref 179], 0, 0) 47 3 (fun _ => rfl) h) ?_
        obtain ⟨z60, hz60⟩ : ∃ z : Int32, z = z59 - (Int32.ofInt 1) := ⟨_, rfl⟩
        refine pj_X_eqi hz60.symm ?_
        have fz60_0 : z60.toInt = z59.toInt - (Int32.ofInt 1).toInt := by rw [hz60]; exact pj_subI (by have := pj_i32 z59; have := pj_i32 (Int32.ofInt 1); omega) (by have := pj_i32 z59; have := pj_i32 (Int32.ofInt 1); omega)
        refine pj_X_of (fun r h => pj_T_is hI rfl rfl (by omega) (by omega) h) ?_
        show pj_X _ _ (pj_wa G 179 z58.toInt.toNat z60) 48 [(2, .int z3), (0, .ref 171), (1, .int v1)] [] _
        obtain ⟨G61, hG61⟩ : ∃ H, H = pj_wa G 179 z58.toInt.toNat z60 := ⟨_, rfl⟩
        have iG61 : pj_Inv G61 := by rw [hG61]; exact pj_Inv_wa hI rfl (fun q hq => by cases hq) (fun n hn => ⟨fun h1 => ⟨fun h2 => by omega, fun h2 => by omega⟩, fun h1 => by omega⟩)
        have kG61 : pj_kpt kc_224 G0 G61 := by rw [hG61]; exact pj_kpt_a hK rfl
        rw [← hG61]
        refine pj_X_of (fun r h => pj_R_to (G61, 50, [(2, .int z3), (0, .ref 171), (1, .int v1)], [.ref 171, .ref 171], 0, 0) 50 3 (fun _ => rfl) h) ?_
        refine pj_X_of (fun r h => pj_T_gi iG61 rfl rfl h) ?_
        show pj_X _ _ G61 53 [(2, .int z3), (0, .ref 171), (1, .int v1)] [.int (pj_fi G61 171 33), .ref 171] _
        obtain ⟨y62, hy62⟩ : ∃ z : Int32, z = pj_fi G61 171 33 := ⟨_, rfl⟩
        refine pj_X_eqi hy62.symm ?_
        have ey62 : (pj_fi G61 171 33).toInt = y62.toInt := by rw [hy62]
        refine pj_X_of (fun r h => pj_R_to (G61, 54, [(2, .int z3), (0, .ref 171), (1, .int v1)], [.ref 171, .int y62, .ref 171], 0, 0) 54 2 (fun _ => rfl) h) ?_
        refine pj_X_of (fun r h => pj_T_gr iG61 rfl rfl rfl h) ?_
        refine pj_X_of (fun r h => pj_R_to (G61, 60, [(2, .int z3), (0, .ref 171), (1, .int v1)], [.int (z3 + (Int32.ofInt 1)), .ref 179, .int y62, .ref 171], 0, 0) 60 4 (fun _ => rfl) h) ?_
        obtain ⟨z63, hz63⟩ : ∃ z : Int32, z = z3 + (Int32.ofInt 1) := ⟨_, rfl⟩
        refine pj_X_eqi hz63.symm ?_
        have fz63_0 : z63.toInt = z3.toInt + (Int32.ofInt 1).toInt := by rw [hz63]; exact pj_addI (by have := pj_i32 z3; have := pj_i32 (Int32.ofInt 1); omega) (by have := pj_i32 z3; have := pj_i32 (Int32.ofInt 1); omega)
        refine pj_X_of (fun r h => pj_T_il iG61 rfl rfl (by omega) (by omega) h) ?_
        show pj_X _ _ G61 61 [(2, .int z3), (0, .ref 171), (1, .int v1)] [.int (pj_ai G61 179 z63.toInt.toNat), .int y62, .ref 171] _
        obtain ⟨z64, hz64⟩ : ∃ z : Int32, z = pj_ai G61 179 z63.toInt.toNat := ⟨_, rfl⟩
        refine pj_X_eqi hz64.symm ?_
        have ez64 : (pj_ai G61 179 z63.toInt.toNat).toInt = z64.toInt := by rw [hz64]
        have fz64_0 : 0 ≤ z64.toInt := by rw [hz64]; exact ((iG61.2.2.2 179 32 rfl _ (by show _ < 32; omega)).1 (by omega)).2 (by omega)
        have x65 : z64.toInt = z60.toInt := by rw [hz64, show z63.toInt.toNat = z58.toInt.toNat by omega, hG61, pj_ai_wa_eq hI.1 rfl]
        cases b66 : pj_c1 .ne z64 0 with
        | true =>
          have ub66 := pj_u0_neT b66
          refine pj_X_of (fun r h => pj_R_ifT 70 rfl rfl b66 h) ?_
          refine pj_X_of (fun r h => pj_R_to (G61, 72, [(2, .int z3), (0, .ref 171), (1, .int v1)], [.int (y62 ||| (Int32.ofInt 0)), .ref 171], 0, 0) 72 3 (fun _ => rfl) h) ?_
          obtain ⟨z67, hz67⟩ : ∃ z : Int32, z = y62 ||| (Int32.ofInt 0) := ⟨_, rfl⟩
          refine pj_X_eqi hz67.symm ?_
          refine pj_X_of (fun r h => pj_T_pf iG61 rfl rfl rfl h) ?_
          show pj_X _ _ (pj_wv G61 171 33 (.int z67)) 75 [(2, .int z3), (0, .ref 171), (1, .int v1)] [] _
          obtain ⟨G68, hG68⟩ : ∃ H, H = pj_wv G61 171 33 (.int z67) := ⟨_, rfl⟩
          have iG68 : pj_Inv G68 := by rw [hG68]; exact pj_Inv_wi iG61 (ci := 12) rfl (fun q hq => by cases hq)
          have kG68 : pj_kpt kc_224 G0 G68 := by rw [hG68]; exact pj_kpt_v kG61 rfl
          rw [← hG68]
          refine pj_X_of (fun r h => pj_R_to (G68, 76, [(2, .int z3), (0, .ref 171), (1, .int v1)], [.ref 171], 0, 0) 76 2 (fun _ => rfl) h) ?_
          refine pj_X_of (fun r h => pj_T_gr iG68 rfl rfl rfl h) ?_
          refine pj_X_of (fun r h => pj_R_to (G68, 82, [(2, .int z3), (0, .ref 171), (1, .int v1)], [.int (z3 + (Int32.ofInt 2)), .ref 179], 0, 0) 82 4 (fun _ => rfl) h) ?_
          obtain ⟨z69, hz69⟩ : ∃ z : Int32, z = z3 + (Int32.ofInt 2) := ⟨_, rfl⟩
          refine pj_X_eqi hz69.symm ?_
          have fz69_0 : z69.toInt = z3.toInt + (Int32.ofInt 2).toInt := by rw [hz69]; exact pj_addI (by have := pj_i32 z3; have := pj_i32 (Int32.ofInt 2); omega) (by have := pj_i32 z3; have := pj_i32 (Int32.ofInt 2); omega)
          refine pj_X_of (fun r h => pj_T_il iG68 rfl rfl (by omega) (by omega) h) ?_
          show pj_X _ _ G68 83 [(2, .int z3), (0, .ref 171), (1, .int v1)] [.int (pj_ai G68 179 z69.toInt.toNat)] _
          obtain ⟨z70, hz70⟩ : ∃ z : Int32, z = pj_ai G68 179 z69.toInt.toNat := ⟨_, rfl⟩
          refine pj_X_eqi hz70.symm ?_
          have ez70 : (pj_ai G68 179 z69.toInt.toNat).toInt = z70.toInt := by rw [hz70]
          refine pj_X_of (fun r h => pj_R_to (G68, 84, [(2, .int z3), (0, .ref 171), (1, .int v1)], [.ref 171, .int z70], 0, 0) 84 2 (fun _ => rfl) h) ?_
          refine pj_X_of (fun r h => pj_T_gr iG68 rfl rfl rfl h) ?_
          refine pj_X_of (fun r h => pj_R_to (G68, 89, [(2, .int z3), (0, .ref 171), (1, .int v1)], [.int ((Int8.ofInt 30).toInt32), .ref 179, .int z70], 0, 0) 89 2 (fun _ => rfl) h) ?_
          refine pj_X_of (fun r h => pj_T_il iG68 rfl rfl (by omega) (by omega) h) ?_
          show pj_X _ _ G68 90 [(2, .int z3), (0, .ref 171), (1, .int v1)] [.int (pj_ai G68 179 ((Int8.ofInt 30).toInt32).toInt.toNat), .int z70] _
          obtain ⟨z71, hz71⟩ : ∃ z : Int32, z = pj_ai G68 179 ((Int8.ofInt 30).toInt32).toInt.toNat := ⟨_, rfl⟩
          refine pj_X_eqi hz71.symm ?_
          have ez71 : (pj_ai G68 179 ((Int8.ofInt 30).toInt32).toInt.toNat).toInt = z71.toInt := by rw [hz71]
          cases b72 : pj_c1 .ne z70 z71 with
          | true =>
            have ub72 := pj_u_neT b72
            refine pj_X_of (fun r h => pj_R_icT 193 rfl rfl b72 h) ?_
            refine pj_X_of (fun r h => pj_R_to (G68, 196, [(1, .int (v1 + Int32.ofInt 1)), (2, .int z3), (0, .ref 171)], [], 0, 0) 196 2 (fun _ => rfl) h) ?_
            obtain ⟨z73, hz73⟩ : ∃ z : Int32, z = v1 + Int32.ofInt 1 := ⟨_, rfl⟩
            rw [← hz73]
            have fz73_0 : z73.toInt = v1.toInt + (Int32.ofInt 1).toInt := by rw [hz73]; exact pj_addI (by have := pj_i32 v1; have := pj_i32 (Int32.ofInt 1); omega) (by have := pj_i32 v1; have := pj_i32 (Int32.ofInt 1); omega)
            refine pj_X_of (fun r h => pj_R_to (G68, 13, [(1, .int z73), (2, .int z3), (0, .ref 171)], [], 0, 0) 13 2 (fun _ => rfl) h) ?_
            exact pj_X_sub [(0, .ref 171), (1, .int z73)] (show List.Nodup [0, 1] by decide) ⟨rfl, rfl, trivial⟩ (ih G68 iG68 kG68 z73 ⟨by omega, by omega⟩ (by omega))
          | false =>
            have ub72 := pj_u_neF b72
            refine pj_X_of (fun r h => pj_R_icF rfl b72 h) ?_
            refine pj_X_of (fun r h => pj_R_to (G68, 94, [(2, .int z3), (0, .ref 171), (1, .int v1)], [.ref 171], 0, 0) 94 2 (fun _ => rfl) h) ?_
            refine pj_X_of (fun r h => pj_T_gr iG68 rfl rfl rfl h) ?_
            refine pj_X_of (fun r h => pj_R_to (G68, 100, [(2, .int z3), (0, .ref 171), (1, .int v1)], [.int (z3 + (Int32.ofInt 2)), .ref 179], 0, 0) 100 4 (fun _ => rfl) h) ?_
            obtain ⟨z74, hz74⟩ : ∃ z : Int32, z = z3 + (Int32.ofInt 2) := ⟨_, rfl⟩
            refine pj_X_eqi hz74.symm ?_
            have fz74_0 : z74.toInt = z3.toInt + (Int32.ofInt 2).toInt := by rw [hz74]; exact pj_addI (by have := pj_i32 z3; have := pj_i32 (Int32.ofInt 2); omega) (by have := pj_i32 z3; have := pj_i32 (Int32.ofInt 2); omega)
            refine pj_X_of (fun r h => pj_R_to (G68, 101, [(2, .int z3), (0, .ref 171), (1, .int v1)], [.int (Int32.ofInt (-1)), .int z74, .ref 179], 0, 0) 101 2 (fun _ => rfl) h) ?_
            refine pj_X_of (fun r h => pj_T_is iG68 rfl rfl (by omega) (by omega) h) ?_
            show pj_X _ _ (pj_wa G68 179 z74.toInt.toNat (Int32.ofInt (-1))) 102 [(2, .int z3), (0, .ref 171), (1, .int v1)] [] _
            obtain ⟨G75, hG75⟩ : ∃ H, H = pj_wa G68 179 z74.toInt.toNat (Int32.ofInt (-1)) := ⟨_, rfl⟩
            have iG75 : pj_Inv G75 := by rw [hG75]; exact pj_Inv_wa iG68 rfl (fun q hq => by cases hq) (fun n hn => ⟨fun h1 => ⟨fun h2 => by omega, fun h2 => by omega⟩, fun h1 => by omega⟩)
            have kG75 : pj_kpt kc_224 G0 G75 := by rw [hG75]; exact pj_kpt_a kG68 rfl
            rw [← hG75]
            refine pj_X_of (fun r h => pj_R_to (G75, 103, [(2, .int z3), (0, .ref 171), (1, .int v1)], [.ref 171], 0, 0) 103 2 (fun _ => rfl) h) ?_
            refine pj_X_of (fun r h => pj_T_gr iG75 rfl rfl rfl h) ?_
            refine pj_X_of (fun r h => pj_R_to (G75, 109, [(2, .int z3), (0, .ref 171), (1, .int v1)], [.int (z3 + (Int32.ofInt 0)), .ref 179], 0, 0) 109 4 (fun _ => rfl) h) ?_
            obtain ⟨z76, hz76⟩ : ∃ z : Int32, z = z3 + (Int32.ofInt 0) := ⟨_, rfl⟩
            refine pj_X_eqi hz76.symm ?_
            have fz76_0 : z76.toInt = z3.toInt + (Int32.ofInt 0).toInt := by rw [hz76]; exact pj_addI (by have := pj_i32 z3; have := pj_i32 (Int32.ofInt 0); omega) (by have := pj_i32 z3; have := pj_i32 (Int32.ofInt 0); omega)
            refine pj_X_of (fun r h => pj_T_il iG75 rfl rfl (by omega) (by omega) h) ?_
            show pj_X _ _ G75 110 [(2, .int z3), (0, .ref 171), (1, .int v1)] [.int (pj_ai G75 179 z76.toInt.toNat)] _
            obtain ⟨z77, hz77⟩ : ∃ z : Int32, z = pj_ai G75 179 z76.toInt.toNat := ⟨_, rfl⟩
            refine pj_X_eqi hz77.symm ?_
            have ez77 : (pj_ai G75 179 z76.toInt.toNat).toInt = z77.toInt := by rw [hz77]
            have fz77_0 : -1 ≤ z77.toInt ∧ z77.toInt ≤ 9 := by rw [hz77]; exact ((iG75.2.2.2 179 32 rfl _ (by show _ < 32; omega)).1 (by omega)).1 (by omega)
            cases b78 : pj_c1 .ge z77 0 with
            | true =>
              have ub78 := pj_u0_geT b78
              refine pj_X_of (fun r h => pj_R_ifT 128 rfl rfl b78 h) ?_
              refine pj_X_of (fun r h => pj_R_to (G75, 132, [(3, .int (Int32.ofInt 0)), (2, .int z3), (0, .ref 171), (1, .int v1)], [.ref 171, .ref 171], 0, 0) 132 5 (fun _ => rfl) h) ?_
              refine pj_X_of (fun r h => pj_T_gi iG75 rfl rfl h) ?_
              show pj_X _ _ G75 135 [(3, .int (Int32.ofInt 0)), (2, .int z3), (0, .ref 171), (1, .int v1)] [.int (pj_fi G75 171 34), .ref 171] _
              obtain ⟨y79, hy79⟩ : ∃ z : Int32, z = pj_fi G75 171 34 := ⟨_, rfl⟩
              refine pj_X_eqi hy79.symm ?_
              have ey79 : (pj_fi G75 171 34).toInt = y79.toInt := by rw [hy79]
              refine pj_X_of (fun r h => pj_R_to (G75, 136, [(3, .int (Int32.ofInt 0)), (2, .int z3), (0, .ref 171), (1, .int v1)], [.int (Int32.ofInt 0), .int y79, .ref 171], 0, 0) 136 2 (fun _ => rfl) h) ?_
              refine pj_X_of (fun r h => pj_R_ifT 143 rfl rfl (pj_b0_eqT (by omega)) h) ?_
              refine pj_X_of (fun r h => pj_R_to (G75, 146, [(3, .int (Int32.ofInt 0)), (2, .int z3), (0, .ref 171), (1, .int v1)], [.int ((Int32.ofInt 1) <<< (v1 &&& 31)), .int y79, .ref 171], 0, 0) 146 4 (fun _ => rfl) h) ?_
              obtain ⟨z80, hz80⟩ : ∃ z : Int32, z = (Int32.ofInt 1) <<< (v1 &&& 31) := ⟨_, rfl⟩
              refine pj_X_eqi hz80.symm ?_
              have fz80_0 : 1 ≤ z80.toInt ∧ z80.toInt ≤ 32 := by rw [hz80]; exact pj_shlI5 (by omega) (by omega)
              refine pj_X_of (fun r h => pj_R_to (G75, 147, [(3, .int (Int32.ofInt 0)), (2, .int z3), (0, .ref 171), (1, .int v1)], [.int (y79 ||| z80), .ref 171], 0, 0) 147 2 (fun _ => rfl) h) ?_
              obtain ⟨z81, hz81⟩ : ∃ z : Int32, z = y79 ||| z80 := ⟨_, rfl⟩
              refine pj_X_eqi hz81.symm ?_
              refine pj_X_of (fun r h => pj_T_pf iG75 rfl rfl rfl h) ?_
              show pj_X _ _ (pj_wv G75 171 34 (.int z81)) 150 [(3, .int (Int32.ofInt 0)), (2, .int z3), (0, .ref 171), (1, .int v1)] [] _
              obtain ⟨G82, hG82⟩ : ∃ H, H = pj_wv G75 171 34 (.int z81) := ⟨_, rfl⟩
              have iG82 : pj_Inv G82 := by rw [hG82]; exact pj_Inv_wi iG75 (ci := 12) rfl (fun q hq => by cases hq)
              have kG82 : pj_kpt kc_224 G0 G82 := by rw [hG82]; exact pj_kpt_v kG75 rfl
              rw [← hG82]
              refine pj_X_of (fun r h => pj_R_to (G82, 152, [(3, .int (Int32.ofInt 0)), (2, .int z3), (0, .ref 171), (1, .int v1)], [.ref 171, .ref 171], 0, 0) 152 3 (fun _ => rfl) h) ?_
              refine pj_X_of (fun r h => pj_T_gi iG82 rfl rfl h) ?_
              show pj_X _ _ G82 155 [(3, .int (Int32.ofInt 0)), (2, .int z3), (0, .ref 171), (1, .int v1)] [.int (pj_fi G82 171 35), .ref 171] _
              obtain ⟨y83, hy83⟩ : ∃ z : Int32, z = pj_fi G82 171 35 := ⟨_, rfl⟩
              refine pj_X_eqi hy83.symm ?_
              have ey83 : (pj_fi G82 171 35).toInt = y83.toInt := by rw [hy83]
              refine pj_X_of (fun r h => pj_R_to (G82, 156, [(3, .int (Int32.ofInt 0)), (2, .int z3), (0, .ref 171), (1, .int v1)], [.int (Int32.ofInt 0), .int y83, .ref 171], 0, 0) 156 2 (fun _ => rfl) h) ?_
              refine pj_X_of (fun r h => pj_R_ifF rfl (pj_b0_neF (by omega)) h) ?_
              refine pj_X_of (fun r h => pj_R_to (G82, 164, [(3, .int (Int32.ofInt 0)), (2, .int z3), (0, .ref 171), (1, .int v1)], [.int (Int32.ofInt 1), .int y83, .ref 171], 0, 0) 164 3 (fun _ => rfl) h) ?_
              refine pj_X_ca (vs := [.int (Int32.ofInt 1)]) rfl (fun _ => rfl) ⟨Nat.le_of_ble_eq_true rfl, Nat.le_of_ble_eq_true rfl, rfl⟩ ⟨rfl, rfl⟩ (pj_Y_up (by decide) (ct_172 G82 iG82 (Int32.ofInt 1) ⟨by omega, by omega⟩)) ?_
              rintro _ _ ⟨y84, rfl, rfl, ry84, ey84⟩
              show pj_X _ _ G82 167 [(3, .int (Int32.ofInt 0)), (2, .int z3), (0, .ref 171), (1, .int v1)] [.int y84, .int y83, .ref 171] _
              refine pj_X_of (fun r h => pj_R_to (G82, 168, [(3, .int (Int32.ofInt 0)), (2, .int z3), (0, .ref 171), (1, .int v1)], [.int (y83 + y84), .ref 171], 0, 0) 168 2 (fun _ => rfl) h) ?_
              obtain ⟨z85, hz85⟩ : ∃ z : Int32, z = y83 + y84 := ⟨_, rfl⟩
              refine pj_X_eqi hz85.symm ?_
              refine pj_X_of (fun r h => pj_T_pf iG82 rfl rfl rfl h) ?_
              show pj_X _ _ (pj_wv G82 171 35 (.int z85)) 171 [(3, .int (Int32.ofInt 0)), (2, .int z3), (0, .ref 171), (1, .int v1)] [] _
              obtain ⟨G86, hG86⟩ : ∃ H, H = pj_wv G82 171 35 (.int z85) := ⟨_, rfl⟩
              have iG86 : pj_Inv G86 := by rw [hG86]; exact pj_Inv_wi iG82 (ci := 12) rfl (fun q hq => by cases hq)
              have kG86 : pj_kpt kc_224 G0 G86 := by rw [hG86]; exact pj_kpt_v kG82 rfl
              rw [← hG86]
              refine pj_X_of (fun r h => pj_R_to (G86, 172, [(3, .int (Int32.ofInt 0)), (2, .int z3), (0, .ref 171), (1, .int v1)], [.ref 171], 0, 0) 172 2 (fun _ => rfl) h) ?_
              refine pj_X_of (fun r h => pj_T_gr iG86 rfl rfl rfl h) ?_
              refine pj_X_of (fun r h => pj_R_to (G86, 178, [(3, .int (Int32.ofInt 0)), (2, .int z3), (0, .ref 171), (1, .int v1)], [.int ((Int8.ofInt 31).toInt32), .ref 179, .int ((Int8.ofInt 31).toInt32), .ref 179], 0, 0) 178 3 (fun _ => rfl) h) ?_
              refine pj_X_of (fun r h => pj_T_il iG86 rfl rfl (by omega) (by omega) h) ?_
              show pj_X _ _ G86 179 [(3, .int (Int32.ofInt 0)), (2, .int z3), (0, .ref 171), (1, .int v1)] [.int (pj_ai G86 179 ((Int8.ofInt 31).toInt32).toInt.toNat), .int ((Int8.ofInt 31).toInt32), .ref 179] _
              obtain ⟨z87, hz87⟩ : ∃ z : Int32, z = pj_ai G86 179 ((Int8.ofInt 31).toInt32).toInt.toNat := ⟨_, rfl⟩
              refine pj_X_eqi hz87.symm ?_
              have ez87 : (pj_ai G86 179 ((Int8.ofInt 31).toInt32).toInt.toNat).toInt = z87.toInt := by rw [hz87]
              refine pj_X_of (fun r h => pj_R_to (G86, 180, [(3, .int (Int32.ofInt 0)), (2, .int z3), (0, .ref 171), (1, .int v1)], [.int (Int32.ofInt 0), .int z87, .int ((Int8.ofInt 31).toInt32), .ref 179], 0, 0) 180 2 (fun _ => rfl) h) ?_
              refine pj_X_of (fun r h => pj_R_ifF rfl (pj_b0_neF (by omega)) h) ?_
              refine pj_X_of (fun r h => pj_R_to (G86, 188, [(3, .int (Int32.ofInt 0)), (2, .int z3), (0, .ref 171), (1, .int v1)], [.int (Int32.ofInt 1), .int z87, .int ((Int8.ofInt 31).toInt32), .ref 179], 0, 0) 188 3 (fun _ => rfl) h) ?_
              refine pj_X_ca (vs := [.int (Int32.ofInt 1)]) rfl (fun _ => rfl) ⟨Nat.le_of_ble_eq_true rfl, Nat.le_of_ble_eq_true rfl, rfl⟩ ⟨rfl, rfl⟩ (pj_Y_up (by decide) (ct_172 G86 iG86 (Int32.ofInt 1) ⟨by omega, by omega⟩)) ?_
              rintro _ _ ⟨y88, rfl, rfl, ry88, ey88⟩
              show pj_X _ _ G86 191 [(3, .int (Int32.ofInt 0)), (2, .int z3), (0, .ref 171), (1, .int v1)] [.int y88, .int z87, .int ((Int8.ofInt 31).toInt32), .ref 179] _
              refine pj_X_of (fun r h => pj_R_to (G86, 192, [(3, .int (Int32.ofInt 0)), (2, .int z3), (0, .ref 171), (1, .int v1)], [.int (z87 + y88), .int ((Int8.ofInt 31).toInt32), .ref 179], 0, 0) 192 2 (fun _ => rfl) h) ?_
              obtain ⟨z89, hz89⟩ : ∃ z : Int32, z = z87 + y88 := ⟨_, rfl⟩
              refine pj_X_eqi hz89.symm ?_
              refine pj_X_of (fun r h => pj_T_is iG86 rfl rfl (by omega) (by omega) h) ?_
              show pj_X _ _ (pj_wa G86 179 ((Int8.ofInt 31).toInt32).toInt.toNat z89) 193 [(3, .int (Int32.ofInt 0)), (2, .int z3), (0, .ref 171), (1, .int v1)] [] _
              obtain ⟨G90, hG90⟩ : ∃ H, H = pj_wa G86 179 ((Int8.ofInt 31).toInt32).toInt.toNat z89 := ⟨_, rfl⟩
              have iG90 : pj_Inv G90 := by rw [hG90]; exact pj_Inv_wa iG86 rfl (fun q hq => by cases hq) (fun n hn => ⟨fun h1 => ⟨fun h2 => by omega, fun h2 => by omega⟩, fun h1 => by omega⟩)
              have kG90 : pj_kpt kc_224 G0 G90 := by rw [hG90]; exact pj_kpt_a kG86 rfl
              rw [← hG90]
              refine pj_X_of (fun r h => pj_R_to (G90, 196, [(1, .int (v1 + Int32.ofInt 1)), (3, .int (Int32.ofInt 0)), (2, .int z3), (0, .ref 171)], [], 0, 0) 196 2 (fun _ => rfl) h) ?_
              obtain ⟨z91, hz91⟩ : ∃ z : Int32, z = v1 + Int32.ofInt 1 := ⟨_, rfl⟩
              rw [← hz91]
              have fz91_0 : z91.toInt = v1.toInt + (Int32.ofInt 1).toInt := by rw [hz91]; exact pj_addI (by have := pj_i32 v1; have := pj_i32 (Int32.ofInt 1); omega) (by have := pj_i32 v1; have := pj_i32 (Int32.ofInt 1); omega)
              refine pj_X_of (fun r h => pj_R_to (G90, 13, [(1, .int z91), (3, .int (Int32.ofInt 0)), (2, .int z3), (0, .ref 171)], [], 0, 0) 13 2 (fun _ => rfl) h) ?_
              exact pj_X_sub [(0, .ref 171), (1, .int z91)] (show List.Nodup [0, 1] by decide) ⟨rfl, rfl, trivial⟩ (ih G90 iG90 kG90 z91 ⟨by omega, by omega⟩ (by omega))
            | false =>
              have ub78 := pj_u0_geF b78
              refine pj_X_of (fun r h => pj_R_ifF rfl b78 h) ?_
              refine pj_X_of (fun r h => pj_R_to (G75, 114, [(2, .int z3), (0, .ref 171), (1, .int v1)], [.ref 171], 0, 0) 114 2 (fun _ => rfl) h) ?_
              refine pj_X_of (fun r h => pj_T_gr iG75 rfl rfl rfl h) ?_
              refine pj_X_of (fun r h => pj_R_to (G75, 120, [(2, .int z3), (0, .ref 171), (1, .int v1)], [.int (z3 + (Int32.ofInt 1)), .ref 179], 0, 0) 120 4 (fun _ => rfl) h) ?_
              obtain ⟨z92, hz92⟩ : ∃ z : Int32, z = z3 + (Int32.ofInt 1) := ⟨_, rfl⟩
              refine pj_X_eqi hz92.symm ?_
              have fz92_0 : z92.toInt = z3.toInt + (Int32.ofInt 1).toInt := by rw [hz92]; exact pj_addI (by have := pj_i32 z3; have := pj_i32 (Int32.ofInt 1); omega) (by have := pj_i32 z3; have := pj_i32 (Int32.ofInt 1); omega)
              refine pj_X_of (fun r h => pj_T_il iG75 rfl rfl (by omega) (by omega) h) ?_
              show pj_X _ _ G75 121 [(2, .int z3), (0, .ref 171), (1, .int v1)] [.int (pj_ai G75 179 z92.toInt.toNat)] _
              obtain ⟨z93, hz93⟩ : ∃ z : Int32, z = pj_ai G75 179 z92.toInt.toNat := ⟨_, rfl⟩
              refine pj_X_eqi hz93.symm ?_
              have ez93 : (pj_ai G75 179 z92.toInt.toNat).toInt = z93.toInt := by rw [hz93]
              have fz93_0 : 0 ≤ z93.toInt := by rw [hz93]; exact ((iG75.2.2.2 179 32 rfl _ (by show _ < 32; omega)).1 (by omega)).2 (by omega)
              cases b94 : pj_c1 .ne z93 0 with
              | true =>
                have ub94 := pj_u0_neT b94
                refine pj_X_of (fun r h => pj_R_ifT 128 rfl rfl b94 h) ?_
                refine pj_X_of (fun r h => pj_R_to (G75, 132, [(3, .int (Int32.ofInt 0)), (2, .int z3), (0, .ref 171), (1, .int v1)], [.ref 171, .ref 171], 0, 0) 132 5 (fun _ => rfl) h) ?_
                refine pj_X_of (fun r h => pj_T_gi iG75 rfl rfl h) ?_
                show pj_X _ _ G75 135 [(3, .int (Int32.ofInt 0)), (2, .int z3), (0, .ref 171), (1, .int v1)] [.int (pj_fi G75 171 34), .ref 171] _
                obtain ⟨y95, hy95⟩ : ∃ z : Int32, z = pj_fi G75 171 34 := ⟨_, rfl⟩
                refine pj_X_eqi hy95.symm ?_
                have ey95 : (pj_fi G75 171 34).toInt = y95.toInt := by rw [hy95]
                refine pj_X_of (fun r h => pj_R_to (G75, 136, [(3, .int (Int32.ofInt 0)), (2, .int z3), (0, .ref 171), (1, .int v1)], [.int (Int32.ofInt 0), .int y95, .ref 171], 0, 0) 136 2 (fun _ => rfl) h) ?_
                refine pj_X_of (fun r h => pj_R_ifT 143 rfl rfl (pj_b0_eqT (by omega)) h) ?_
                refine pj_X_of (fun r h => pj_R_to (G75, 146, [(3, .int (Int32.ofInt 0)), (2, .int z3), (0, .ref 171), (1, .int v1)], [.int ((Int32.ofInt 1) <<< (v1 &&& 31)), .int y95, .ref 171], 0, 0) 146 4 (fun _ => rfl) h) ?_
                obtain ⟨z96, hz96⟩ : ∃ z : Int32, z = (Int32.ofInt 1) <<< (v1 &&& 31) := ⟨_, rfl⟩
                refine pj_X_eqi hz96.symm ?_
                have fz96_0 : 1 ≤ z96.toInt ∧ z96.toInt ≤ 32 := by rw [hz96]; exact pj_shlI5 (by omega) (by omega)
                refine pj_X_of (fun r h => pj_R_to (G75, 147, [(3, .int (Int32.ofInt 0)), (2, .int z3), (0, .ref 171), (1, .int v1)], [.int (y95 ||| z96), .ref 171], 0, 0) 147 2 (fun _ => rfl) h) ?_
                obtain ⟨z97, hz97⟩ : ∃ z : Int32, z = y95 ||| z96 := ⟨_, rfl⟩
                refine pj_X_eqi hz97.symm ?_
                refine pj_X_of (fun r h => pj_T_pf iG75 rfl rfl rfl h) ?_
                show pj_X _ _ (pj_wv G75 171 34 (.int z97)) 150 [(3, .int (Int32.ofInt 0)), (2, .int z3), (0, .ref 171), (1, .int v1)] [] _
                obtain ⟨G98, hG98⟩ : ∃ H, H = pj_wv G75 171 34 (.int z97) := ⟨_, rfl⟩
                have iG98 : pj_Inv G98 := by rw [hG98]; exact pj_Inv_wi iG75 (ci := 12) rfl (fun q hq => by cases hq)
                have kG98 : pj_kpt kc_224 G0 G98 := by rw [hG98]; exact pj_kpt_v kG75 rfl
                rw [← hG98]
                refine pj_X_of (fun r h => pj_R_to (G98, 152, [(3, .int (Int32.ofInt 0)), (2, .int z3), (0, .ref 171), (1, .int v1)], [.ref 171, .ref 171], 0, 0) 152 3 (fun _ => rfl) h) ?_
                refine pj_X_of (fun r h => pj_T_gi iG98 rfl rfl h) ?_
                show pj_X _ _ G98 155 [(3, .int (Int32.ofInt 0)), (2, .int z3), (0, .ref 171), (1, .int v1)] [.int (pj_fi G98 171 35), .ref 171] _
                obtain ⟨y99, hy99⟩ : ∃ z : Int32, z = pj_fi G98 171 35 := ⟨_, rfl⟩
                refine pj_X_eqi hy99.symm ?_
                have ey99 : (pj_fi G98 171 35).toInt = y99.toInt := by rw [hy99]
                refine pj_X_of (fun r h => pj_R_to (G98, 156, [(3, .int (Int32.ofInt 0)), (2, .int z3), (0, .ref 171), (1, .int v1)], [.int (Int32.ofInt 0), .int y99, .ref 171], 0, 0) 156 2 (fun _ => rfl) h) ?_
                refine pj_X_of (fun r h => pj_R_ifF rfl (pj_b0_neF (by omega)) h) ?_
                refine pj_X_of (fun r h => pj_R_to (G98, 164, [(3, .int (Int32.ofInt 0)), (2, .int z3), (0, .ref 171), (1, .int v1)], [.int (Int32.ofInt 1), .int y99, .ref 171], 0, 0) 164 3 (fun _ => rfl) h) ?_
                refine pj_X_ca (vs := [.int (Int32.ofInt 1)]) rfl (fun _ => rfl) ⟨Nat.le_of_ble_eq_true rfl, Nat.le_of_ble_eq_true rfl, rfl⟩ ⟨rfl, rfl⟩ (pj_Y_up (by decide) (ct_172 G98 iG98 (Int32.ofInt 1) ⟨by omega, by omega⟩)) ?_
                rintro _ _ ⟨y100, rfl, rfl, ry100, ey100⟩
                show pj_X _ _ G98 167 [(3, .int (Int32.ofInt 0)), (2, .int z3), (0, .ref 171), (1, .int v1)] [.int y100, .int y99, .ref 171] _
                refine pj_X_of (fun r h => pj_R_to (G98, 168, [(3, .int (Int32.ofInt 0)), (2, .int z3), (0, .ref 171), (1, .int v1)], [.int (y99 + y100), .ref 171], 0, 0) 168 2 (fun _ => rfl) h) ?_
                obtain ⟨z101, hz101⟩ : ∃ z : Int32, z = y99 + y100 := ⟨_, rfl⟩
                refine pj_X_eqi hz101.symm ?_
                refine pj_X_of (fun r h => pj_T_pf iG98 rfl rfl rfl h) ?_
                show pj_X _ _ (pj_wv G98 171 35 (.int z101)) 171 [(3, .int (Int32.ofInt 0)), (2, .int z3), (0, .ref 171), (1, .int v1)] [] _
                obtain ⟨G102, hG102⟩ : ∃ H, H = pj_wv G98 171 35 (.int z101) := ⟨_, rfl⟩
                have iG102 : pj_Inv G102 := by rw [hG102]; exact pj_Inv_wi iG98 (ci := 12) rfl (fun q hq => by cases hq)
                have kG102 : pj_kpt kc_224 G0 G102 := by rw [hG102]; exact pj_kpt_v kG98 rfl
                rw [← hG102]
                refine pj_X_of (fun r h => pj_R_to (G102, 172, [(3, .int (Int32.ofInt 0)), (2, .int z3), (0, .ref 171), (1, .int v1)], [.ref 171], 0, 0) 172 2 (fun _ => rfl) h) ?_
                refine pj_X_of (fun r h => pj_T_gr iG102 rfl rfl rfl h) ?_
                refine pj_X_of (fun r h => pj_R_to (G102, 178, [(3, .int (Int32.ofInt 0)), (2, .int z3), (0, .ref 171), (1, .int v1)], [.int ((Int8.ofInt 31).toInt32), .ref 179, .int ((Int8.ofInt 31).toInt32), .ref 179], 0, 0) 178 3 (fun _ => rfl) h) ?_
                refine pj_X_of (fun r h => pj_T_il iG102 rfl rfl (by omega) (by omega) h) ?_
                show pj_X _ _ G102 179 [(3, .int (Int32.ofInt 0)), (2, .int z3), (0, .ref 171), (1, .int v1)] [.int (pj_ai G102 179 ((Int8.ofInt 31).toInt32).toInt.toNat), .int ((Int8.ofInt 31).toInt32), .ref 179] _
                obtain ⟨z103, hz103⟩ : ∃ z : Int32, z = pj_ai G102 179 ((Int8.ofInt 31).toInt32).toInt.toNat := ⟨_, rfl⟩
                refine pj_X_eqi hz103.symm ?_
                have ez103 : (pj_ai G102 179 ((Int8.ofInt 31).toInt32).toInt.toNat).toInt = z103.toInt := by rw [hz103]
                refine pj_X_of (fun r h => pj_R_to (G102, 180, [(3, .int (Int32.ofInt 0)), (2, .int z3), (0, .ref 171), (1, .int v1)], [.int (Int32.ofInt 0), .int z103, .int ((Int8.ofInt 31).toInt32), .ref 179], 0, 0) 180 2 (fun _ => rfl) h) ?_
                refine pj_X_of (fun r h => pj_R_ifF rfl (pj_b0_neF (by omega)) h) ?_
                refine pj_X_of (fun r h => pj_R_to (G102, 188, [(3, .int (Int32.ofInt 0)), (2, .int z3), (0, .ref 171), (1, .int v1)], [.int (Int32.ofInt 1), .int z103, .int ((Int8.ofInt 31).toInt32), .ref 179], 0, 0) 188 3 (fun _ => rfl) h) ?_
                refine pj_X_ca (vs := [.int (Int32.ofInt 1)]) rfl (fun _ => rfl) ⟨Nat.le_of_ble_eq_true rfl, Nat.le_of_ble_eq_true rfl, rfl⟩ ⟨rfl, rfl⟩ (pj_Y_up (by decide) (ct_172 G102 iG102 (Int32.ofInt 1) ⟨by omega, by omega⟩)) ?_
                rintro _ _ ⟨y104, rfl, rfl, ry104, ey104⟩
                show pj_X _ _ G102 191 [(3, .int (Int32.ofInt 0)), (2, .int z3), (0, .ref 171), (1, .int v1)] [.int y104, .int z103, .int ((Int8.ofInt 31).toInt32), .ref 179] _
                refine pj_X_of (fun r h => pj_R_to (G102, 192, [(3, .int (Int32.ofInt 0)), (2, .int z3), (0, .ref 171), (1, .int v1)], [.int (z103 + y104), .int ((Int8.ofInt 31).toInt32), .ref 179], 0, 0) 192 2 (fun _ => rfl) h) ?_
                obtain ⟨z105, hz105⟩ : ∃ z : Int32, z = z103 + y104 := ⟨_, rfl⟩
                refine pj_X_eqi hz105.symm ?_
                refine pj_X_of (fun r h => pj_T_is iG102 rfl rfl (by omega) (by omega) h) ?_
                show pj_X _ _ (pj_wa G102 179 ((Int8.ofInt 31).toInt32).toInt.toNat z105) 193 [(3, .int (Int32.ofInt 0)), (2, .int z3), (0, .ref 171), (1, .int v1)] [] _
                obtain ⟨G106, hG106⟩ : ∃ H, H = pj_wa G102 179 ((Int8.ofInt 31).toInt32).toInt.toNat z105 := ⟨_, rfl⟩
                have iG106 : pj_Inv G106 := by rw [hG106]; exact pj_Inv_wa iG102 rfl (fun q hq => by cases hq) (fun n hn => ⟨fun h1 => ⟨fun h2 => by omega, fun h2 => by omega⟩, fun h1 => by omega⟩)
                have kG106 : pj_kpt kc_224 G0 G106 := by rw [hG106]; exact pj_kpt_a kG102 rfl
                rw [← hG106]
                refine pj_X_of (fun r h => pj_R_to (G106, 196, [(1, .int (v1 + Int32.ofInt 1)), (3, .int (Int32.ofInt 0)), (2, .int z3), (0, .ref 171)], [], 0, 0) 196 2 (fun _ => rfl) h) ?_
                obtain ⟨z107, hz107⟩ : ∃ z : Int32, z = v1 + Int32.ofInt 1 := ⟨_, rfl⟩
                rw [← hz107]
                have fz107_0 : z107.toInt = v1.toInt + (Int32.ofInt 1).toInt := by rw [hz107]; exact pj_addI (by have := pj_i32 v1; have := pj_i32 (Int32.ofInt 1); omega) (by have := pj_i32 v1; have := pj_i32 (Int32.ofInt 1); omega)
                refine pj_X_of (fun r h => pj_R_to (G106, 13, [(1, .int z107), (3, .int (Int32.ofInt 0)), (2, .int z3), (0, .ref 171)], [], 0, 0) 13 2 (fun _ => rfl) h) ?_
                exact pj_X_sub [(0, .ref 171), (1, .int z107)] (show List.Nodup [0, 1] by decide) ⟨rfl, rfl, trivial⟩ (ih G106 iG106 kG106 z107 ⟨by omega, by omega⟩ (by omega))
              | false =>
                have ub94 := pj_u0_neF b94
                refine pj_X_of (fun r h => pj_R_ifF rfl b94 h) ?_
                refine pj_X_of (fun r h => pj_R_to (G75, 132, [(3, .int (Int32.ofInt 1)), (2, .int z3), (0, .ref 171), (1, .int v1)], [.ref 171, .ref 171], 0, 0) 132 6 (fun _ => rfl) h) ?_
                refine pj_X_of (fun r h => pj_T_gi iG75 rfl rfl h) ?_
                show pj_X _ _ G75 135 [(3, .int (Int32.ofInt 1)), (2, .int z3), (0, .ref 171), (1, .int v1)] [.int (pj_fi G75 171 34), .ref 171] _
                obtain ⟨y108, hy108⟩ : ∃ z : Int32, z = pj_fi G75 171 34 := ⟨_, rfl⟩
                refine pj_X_eqi hy108.symm ?_
                have ey108 : (pj_fi G75 171 34).toInt = y108.toInt := by rw [hy108]
                refine pj_X_of (fun r h => pj_R_to (G75, 136, [(3, .int (Int32.ofInt 1)), (2, .int z3), (0, .ref 171), (1, .int v1)], [.int (Int32.ofInt 1), .int y108, .ref 171], 0, 0) 136 2 (fun _ => rfl) h) ?_
                refine pj_X_of (fun r h => pj_R_ifF rfl (pj_b0_eqF (by omega)) h) ?_
                refine pj_X_of (fun r h => pj_R_to (G75, 147, [(3, .int (Int32.ofInt 1)), (2, .int z3), (0, .ref 171), (1, .int v1)], [.int (y108 ||| (Int32.ofInt 0)), .ref 171], 0, 0) 147 4 (fun _ => rfl) h) ?_
                obtain ⟨z109, hz109⟩ : ∃ z : Int32, z = y108 ||| (Int32.ofInt 0) := ⟨_, rfl⟩
                refine pj_X_eqi hz109.symm ?_
                refine pj_X_of (fun r h => pj_T_pf iG75 rfl rfl rfl h) ?_
                show pj_X _ _ (pj_wv G75 171 34 (.int z109)) 150 [(3, .int (Int32.ofInt 1)), (2, .int z3), (0, .ref 171), (1, .int v1)] [] _
                obtain ⟨G110, hG110⟩ : ∃ H, H = pj_wv G75 171 34 (.int z109) := ⟨_, rfl⟩
                have iG110 : pj_Inv G110 := by rw [hG110]; exact pj_Inv_wi iG75 (ci := 12) rfl (fun q hq => by cases hq)
                have kG110 : pj_kpt kc_224 G0 G110 := by rw [hG110]; exact pj_kpt_v kG75 rfl
                rw [← hG110]
                refine pj_X_of (fun r h => pj_R_to (G110, 152, [(3, .int (Int32.ofInt 1)), (2, .int z3), (0, .ref 171), (1, .int v1)], [.ref 171, .ref 171], 0, 0) 152 3 (fun _ => rfl) h) ?_
                refine pj_X_of (fun r h => pj_T_gi iG110 rfl rfl h) ?_
                show pj_X _ _ G110 155 [(3, .int (Int32.ofInt 1)), (2, .int z3), (0, .ref 171), (1, .int v1)] [.int (pj_fi G110 171 35), .ref 171] _
                obtain ⟨y111, hy111⟩ : ∃ z : Int32, z = pj_fi G110 171 35 := ⟨_, rfl⟩
                refine pj_X_eqi hy111.symm ?_
                have ey111 : (pj_fi G110 171 35).toInt = y111.toInt := by rw [hy111]
                refine pj_X_of (fun r h => pj_R_to (G110, 156, [(3, .int (Int32.ofInt 1)), (2, .int z3), (0, .ref 171), (1, .int v1)], [.int (Int32.ofInt 1), .int y111, .ref 171], 0, 0) 156 2 (fun _ => rfl) h) ?_
                refine pj_X_of (fun r h => pj_R_ifT 163 rfl rfl (pj_b0_neT (by omega)) h) ?_
                refine pj_X_of (fun r h => pj_R_to (G110, 164, [(3, .int (Int32.ofInt 1)), (2, .int z3), (0, .ref 171), (1, .int v1)], [.int (Int32.ofInt 0), .int y111, .ref 171], 0, 0) 164 2 (fun _ => rfl) h) ?_
                refine pj_X_ca (vs := [.int (Int32.ofInt 0)]) rfl (fun _ => rfl) ⟨Nat.le_of_ble_eq_true rfl, Nat.le_of_ble_eq_true rfl, rfl⟩ ⟨rfl, rfl⟩ (pj_Y_up (by decide) (ct_172 G110 iG110 (Int32.ofInt 0) ⟨by omega, by omega⟩)) ?_
                rintro _ _ ⟨y112, rfl, rfl, ry112, ey112⟩
                show pj_X _ _ G110 167 [(3, .int (Int32.ofInt 1)), (2, .int z3), (0, .ref 171), (1, .int v1)] [.int y112, .int y111, .ref 171] _
                refine pj_X_of (fun r h => pj_R_to (G110, 168, [(3, .int (Int32.ofInt 1)), (2, .int z3), (0, .ref 171), (1, .int v1)], [.int (y111 + y112), .ref 171], 0, 0) 168 2 (fun _ => rfl) h) ?_
                obtain ⟨z113, hz113⟩ : ∃ z : Int32, z = y111 + y112 := ⟨_, rfl⟩
                refine pj_X_eqi hz113.symm ?_
                refine pj_X_of (fun r h => pj_T_pf iG110 rfl rfl rfl h) ?_
                show pj_X _ _ (pj_wv G110 171 35 (.int z113)) 171 [(3, .int (Int32.ofInt 1)), (2, .int z3), (0, .ref 171), (1, .int v1)] [] _
                obtain ⟨G114, hG114⟩ : ∃ H, H = pj_wv G110 171 35 (.int z113) := ⟨_, rfl⟩
                have iG114 : pj_Inv G114 := by rw [hG114]; exact pj_Inv_wi iG110 (ci := 12) rfl (fun q hq => by cases hq)
                have kG114 : pj_kpt kc_224 G0 G114 := by rw [hG114]; exact pj_kpt_v kG110 rfl
                rw [← hG114]
                refine pj_X_of (fun r h => pj_R_to (G114, 172, [(3, .int (Int32.ofInt 1)), (2, .int z3), (0, .ref 171), (1, .int v1)], [.ref 171], 0, 0) 172 2 (fun _ => rfl) h) ?_
                refine pj_X_of (fun r h => pj_T_gr iG114 rfl rfl rfl h) ?_
                refine pj_X_of (fun r h => pj_R_to (G114, 178, [(3, .int (Int32.ofInt 1)), (2, .int z3), (0, .ref 171), (1, .int v1)], [.int ((Int8.ofInt 31).toInt32), .ref 179, .int ((Int8.ofInt 31).toInt32), .ref 179], 0, 0) 178 3 (fun _ => rfl) h) ?_
                refine pj_X_of (fun r h => pj_T_il iG114 rfl rfl (by omega) (by omega) h) ?_
                show pj_X _ _ G114 179 [(3, .int (Int32.ofInt 1)), (2, .int z3), (0, .ref 171), (1, .int v1)] [.int (pj_ai G114 179 ((Int8.ofInt 31).toInt32).toInt.toNat), .int ((Int8.ofInt 31).toInt32), .ref 179] _
                obtain ⟨z115, hz115⟩ : ∃ z : Int32, z = pj_ai G114 179 ((Int8.ofInt 31).toInt32).toInt.toNat := ⟨_, rfl⟩
                refine pj_X_eqi hz115.symm ?_
                have ez115 : (pj_ai G114 179 ((Int8.ofInt 31).toInt32).toInt.toNat).toInt = z115.toInt := by rw [hz115]
                refine pj_X_of (fun r h => pj_R_to (G114, 180, [(3, .int (Int32.ofInt 1)), (2, .int z3), (0, .ref 171), (1, .int v1)], [.int (Int32.ofInt 1), .int z115, .int ((Int8.ofInt 31).toInt32), .ref 179], 0, 0) 180 2 (fun _ => rfl) h) ?_
                refine pj_X_of (fun r h => pj_R_ifT 187 rfl rfl (pj_b0_neT (by omega)) h) ?_
                refine pj_X_of (fun r h => pj_R_to (G114, 188, [(3, .int (Int32.ofInt 1)), (2, .int z3), (0, .ref 171), (1, .int v1)], [.int (Int32.ofInt 0), .int z115, .int ((Int8.ofInt 31).toInt32), .ref 179], 0, 0) 188 2 (fun _ => rfl) h) ?_
                refine pj_X_ca (vs := [.int (Int32.ofInt 0)]) rfl (fun _ => rfl) ⟨Nat.le_of_ble_eq_true rfl, Nat.le_of_ble_eq_true rfl, rfl⟩ ⟨rfl, rfl⟩ (pj_Y_up (by decide) (ct_172 G114 iG114 (Int32.ofInt 0) ⟨by omega, by omega⟩)) ?_
                rintro _ _ ⟨y116, rfl, rfl, ry116, ey116⟩
                show pj_X _ _ G114 191 [(3, .int (Int32.ofInt 1)), (2, .int z3), (0, .ref 171), (1, .int v1)] [.int y116, .int z115, .int ((Int8.ofInt 31).toInt32), .ref 179] _
                refine pj_X_of (fun r h => pj_R_to (G114, 192, [(3, .int (Int32.ofInt 1)), (2, .int z3), (0, .ref 171), (1, .int v1)], [.int (z115 + y116), .int ((Int8.ofInt 31).toInt32), .ref 179], 0, 0) 192 2 (fun _ => rfl) h) ?_
                obtain ⟨z117, hz117⟩ : ∃ z : Int32, z = z115 + y116 := ⟨_, rfl⟩
                refine pj_X_eqi hz117.symm ?_
                refine pj_X_of (fun r h => pj_T_is iG114 rfl rfl (by omega) (by omega) h) ?_
                show pj_X _ _ (pj_wa G114 179 ((Int8.ofInt 31).toInt32).toInt.toNat z117) 193 [(3, .int (Int32.ofInt 1)), (2, .int z3), (0, .ref 171), (1, .int v1)] [] _
                obtain ⟨G118, hG118⟩ : ∃ H, H = pj_wa G114 179 ((Int8.ofInt 31).toInt32).toInt.toNat z117 := ⟨_, rfl⟩
                have iG118 : pj_Inv G118 := by rw [hG118]; exact pj_Inv_wa iG114 rfl (fun q hq => by cases hq) (fun n hn => ⟨fun h1 => ⟨fun h2 => by omega, fun h2 => by omega⟩, fun h1 => by omega⟩)
                have kG118 : pj_kpt kc_224 G0 G118 := by rw [hG118]; exact pj_kpt_a kG114 rfl
                rw [← hG118]
                refine pj_X_of (fun r h => pj_R_to (G118, 196, [(1, .int (v1 + Int32.ofInt 1)), (3, .int (Int32.ofInt 1)), (2, .int z3), (0, .ref 171)], [], 0, 0) 196 2 (fun _ => rfl) h) ?_
                obtain ⟨z119, hz119⟩ : ∃ z : Int32, z = v1 + Int32.ofInt 1 := ⟨_, rfl⟩
                rw [← hz119]
                have fz119_0 : z119.toInt = v1.toInt + (Int32.ofInt 1).toInt := by rw [hz119]; exact pj_addI (by have := pj_i32 v1; have := pj_i32 (Int32.ofInt 1); omega) (by have := pj_i32 v1; have := pj_i32 (Int32.ofInt 1); omega)
                refine pj_X_of (fun r h => pj_R_to (G118, 13, [(1, .int z119), (3, .int (Int32.ofInt 1)), (2, .int z3), (0, .ref 171)], [], 0, 0) 13 2 (fun _ => rfl) h) ?_
                exact pj_X_sub [(0, .ref 171), (1, .int z119)] (show List.Nodup [0, 1] by decide) ⟨rfl, rfl, trivial⟩ (ih G118 iG118 kG118 z119 ⟨by omega, by omega⟩ (by omega))
        | false =>
          have ub66 := pj_u0_neF b66
          refine pj_X_of (fun r h => pj_R_ifF rfl b66 h) ?_
          refine pj_X_of (fun r h => pj_R_to (G61, 67, [(2, .int z3), (0, .ref 171), (1, .int v1)], [.int ((Int32.ofInt 1) <<< (v1 &&& 31)), .int y62, .ref 171], 0, 0) 67 4 (fun _ => rfl) h) ?_
          obtain ⟨z120, hz120⟩ : ∃ z : Int32, z = (Int32.ofInt 1) <<< (v1 &&& 31) := ⟨_, rfl⟩
          refine pj_X_eqi hz120.symm ?_
          have fz120_0 : 1 ≤ z120.toInt ∧ z120.toInt ≤ 32 := by rw [hz120]; exact pj_shlI5 (by omega) (by omega)
          refine pj_X_of (fun r h => pj_R_to (G61, 72, [(2, .int z3), (0, .ref 171), (1, .int v1)], [.int (y62 ||| z120), .ref 171], 0, 0) 72 3 (fun _ => rfl) h) ?_
          obtain ⟨z121, hz121⟩ : ∃ z : Int32, z = y62 ||| z120 := ⟨_, rfl⟩
          refine pj_X_eqi hz121.symm ?_
          refine pj_X_of (fun r h => pj_T_pf iG61 rfl rfl rfl h) ?_
          show pj_X _ _ (pj_wv G61 171 33 (.int z121)) 75 [(2, .int z3), (0, .ref 171), (1, .int v1)] [] _
          obtain ⟨G122, hG122⟩ : ∃ H, H = pj_wv G61 171 33 (.int z121) := ⟨_, rfl⟩
          have iG122 : pj_Inv G122 := by rw [hG122]; exact pj_Inv_wi iG61 (ci := 12) rfl (fun q hq => by cases hq)
          have kG122 : pj_kpt kc_224 G0 G122 := by rw [hG122]; exact pj_kpt_v kG61 rfl
          rw [← hG122]
          refine pj_X_of (fun r h => pj_R_to (G122, 76, [(2, .int z3), (0, .ref 171), (1, .int v1)], [.ref 171], 0, 0) 76 2 (fun _ => rfl) h) ?_
          refine pj_X_of (fun r h => pj_T_gr iG122 rfl rfl rfl h) ?_
          refine pj_X_of (fun r h => pj_R_to (G122, 82, [(2, .int z3), (0, .ref 171), (1, .int v1)], [.int (z3 + (Int32.ofInt 2)), .ref 179], 0, 0) 82 4 (fun _ => rfl) h) ?_
          obtain ⟨z123, hz123⟩ : ∃ z : Int32, z = z3 + (Int32.ofInt 2) := ⟨_, rfl⟩
          refine pj_X_eqi hz123.symm ?_
          have fz123_0 : z123.toInt = z3.toInt + (Int32.ofInt 2).toInt := by rw [hz123]; exact pj_addI (by have := pj_i32 z3; have := pj_i32 (Int32.ofInt 2); omega) (by have := pj_i32 z3; have := pj_i32 (Int32.ofInt 2); omega)
          refine pj_X_of (fun r h => pj_T_il iG122 rfl rfl (by omega) (by omega) h) ?_
          show pj_X _ _ G122 83 [(2, .int z3), (0, .ref 171), (1, .int v1)] [.int (pj_ai G122 179 z123.toInt.toNat)] _
          obtain ⟨z124, hz124⟩ : ∃ z : Int32, z = pj_ai G122 179 z123.toInt.toNat := ⟨_, rfl⟩
          refine pj_X_eqi hz124.symm ?_
          have ez124 : (pj_ai G122 179 z123.toInt.toNat).toInt = z124.toInt := by rw [hz124]
          refine pj_X_of (fun r h => pj_R_to (G122, 84, [(2, .int z3), (0, .ref 171), (1, .int v1)], [.ref 171, .int z124], 0, 0) 84 2 (fun _ => rfl) h) ?_
          refine pj_X_of (fun r h => pj_T_gr iG122 rfl rfl rfl h) ?_
          refine pj_X_of (fun r h => pj_R_to (G122, 89, [(2, .int z3), (0, .ref 171), (1, .int v1)], [.int ((Int8.ofInt 30).toInt32), .ref 179, .int z124], 0, 0) 89 2 (fun _ => rfl) h) ?_
          refine pj_X_of (fun r h => pj_T_il iG122 rfl rfl (by omega) (by omega) h) ?_
          show pj_X _ _ G122 90 [(2, .int z3), (0, .ref 171), (1, .int v1)] [.int (pj_ai G122 179 ((Int8.ofInt 30).toInt32).toInt.toNat), .int z124] _
          obtain ⟨z125, hz125⟩ : ∃ z : Int32, z = pj_ai G122 179 ((Int8.ofInt 30).toInt32).toInt.toNat := ⟨_, rfl⟩
          refine pj_X_eqi hz125.symm ?_
          have ez125 : (pj_ai G122 179 ((Int8.ofInt 30).toInt32).toInt.toNat).toInt = z125.toInt := by rw [hz125]
          cases b126 : pj_c1 .ne z124 z125 with
          | true =>
            have ub126 := pj_u_neT b126
            refine pj_X_of (fun r h => pj_R_icT 193 rfl rfl b126 h) ?_
            refine pj_X_of (fun r h => pj_R_to (G122, 196, [(1, .int (v1 + Int32.ofInt 1)), (2, .int z3), (0, .ref 171)], [], 0, 0) 196 2 (fun _ => rfl) h) ?_
            obtain ⟨z127, hz127⟩ : ∃ z : Int32, z = v1 + Int32.ofInt 1 := ⟨_, rfl⟩
            rw [← hz127]
            have fz127_0 : z127.toInt = v1.toInt + (Int32.ofInt 1).toInt := by rw [hz127]; exact pj_addI (by have := pj_i32 v1; have := pj_i32 (Int32.ofInt 1); omega) (by have := pj_i32 v1; have := pj_i32 (Int32.ofInt 1); omega)
            refine pj_X_of (fun r h => pj_R_to (G122, 13, [(1, .int z127), (2, .int z3), (0, .ref 171)], [], 0, 0) 13 2 (fun _ => rfl) h) ?_
            exact pj_X_sub [(0, .ref 171), (1, .int z127)] (show List.Nodup [0, 1] by decide) ⟨rfl, rfl, trivial⟩ (ih G122 iG122 kG122 z127 ⟨by omega, by omega⟩ (by omega))
          | false =>
            have ub126 := pj_u_neF b126
            refine pj_X_of (fun r h => pj_R_icF rfl b126 h) ?_
            refine pj_X_of (fun r h => pj_R_to (G122, 94, [(2, .int z3), (0, .ref 171), (1, .int v1)], [.ref 171], 0, 0) 94 2 (fun _ => rfl) h) ?_
            refine pj_X_of (fun r h => pj_T_gr iG122 rfl rfl rfl h) ?_
            refine pj_X_of (fun r h => pj_R_to (G122, 100, [(2, .int z3), (0, .ref 171), (1, .int v1)], [.int (z3 + (Int32.ofInt 2)), .ref 179], 0, 0) 100 4 (fun _ => rfl) h) ?_
            obtain ⟨z128, hz128⟩ : ∃ z : Int32, z = z3 + (Int32.ofInt 2) := ⟨_, rfl⟩
            refine pj_X_eqi hz128.symm ?_
            have fz128_0 : z128.toInt = z3.toInt + (Int32.ofInt 2).toInt := by rw [hz128]; exact pj_addI (by have := pj_i32 z3; have := pj_i32 (Int32.ofInt 2); omega) (by have := pj_i32 z3; have := pj_i32 (Int32.ofInt 2); omega)
            refine pj_X_of (fun r h => pj_R_to (G122, 101, [(2, .int z3), (0, .ref 171), (1, .int v1)], [.int (Int32.ofInt (-1)), .int z128, .ref 179], 0, 0) 101 2 (fun _ => rfl) h) ?_
            refine pj_X_of (fun r h => pj_T_is iG122 rfl rfl (by omega) (by omega) h) ?_
            show pj_X _ _ (pj_wa G122 179 z128.toInt.toNat (Int32.ofInt (-1))) 102 [(2, .int z3), (0, .ref 171), (1, .int v1)] [] _
            obtain ⟨G129, hG129⟩ : ∃ H, H = pj_wa G122 179 z128.toInt.toNat (Int32.ofInt (-1)) := ⟨_, rfl⟩
            have iG129 : pj_Inv G129 := by rw [hG129]; exact pj_Inv_wa iG122 rfl (fun q hq => by cases hq) (fun n hn => ⟨fun h1 => ⟨fun h2 => by omega, fun h2 => by omega⟩, fun h1 => by omega⟩)
            have kG129 : pj_kpt kc_224 G0 G129 := by rw [hG129]; exact pj_kpt_a kG122 rfl
            rw [← hG129]
            refine pj_X_of (fun r h => pj_R_to (G129, 103, [(2, .int z3), (0, .ref 171), (1, .int v1)], [.ref 171], 0, 0) 103 2 (fun _ => rfl) h) ?_
            refine pj_X_of (fun r h => pj_T_gr iG129 rfl rfl rfl h) ?_
            refine pj_X_of (fun r h => pj_R_to (G129, 109, [(2, .int z3), (0, .ref 171), (1, .int v1)], [.int (z3 + (Int32.ofInt 0)), .ref 179], 0, 0) 109 4 (fun _ => rfl) h) ?_
            obtain ⟨z130, hz130⟩ : ∃ z : Int32, z = z3 + (Int32.ofInt 0) := ⟨_, rfl⟩
            refine pj_X_eqi hz130.symm ?_
            have fz130_0 : z130.toInt = z3.toInt + (Int32.ofInt 0).toInt := by rw [hz130]; exact pj_addI (by have := pj_i32 z3; have := pj_i32 (Int32.ofInt 0); omega) (by have := pj_i32 z3; have := pj_i32 (Int32.ofInt 0); omega)
            refine pj_X_of (fun r h => pj_T_il iG129 rfl rfl (by omega) (by omega) h) ?_
            show pj_X _ _ G129 110 [(2, .int z3), (0, .ref 171), (1, .int v1)] [.int (pj_ai G129 179 z130.toInt.toNat)] _
            obtain ⟨z131, hz131⟩ : ∃ z : Int32, z = pj_ai G129 179 z130.toInt.toNat := ⟨_, rfl⟩
            refine pj_X_eqi hz131.symm ?_
            have ez131 : (pj_ai G129 179 z130.toInt.toNat).toInt = z131.toInt := by rw [hz131]
            have fz131_0 : -1 ≤ z131.toInt ∧ z131.toInt ≤ 9 := by rw [hz131]; exact ((iG129.2.2.2 179 32 rfl _ (by show _ < 32; omega)).1 (by omega)).1 (by omega)
            cases b132 : pj_c1 .ge z131 0 with
            | true =>
              have ub132 := pj_u0_geT b132
              refine pj_X_of (fun r h => pj_R_ifT 128 rfl rfl b132 h) ?_
              refine pj_X_of (fun r h => pj_R_to (G129, 132, [(3, .int (Int32.ofInt 0)), (2, .int z3), (0, .ref 171), (1, .int v1)], [.ref 171, .ref 171], 0, 0) 132 5 (fun _ => rfl) h) ?_
              refine pj_X_of (fun r h => pj_T_gi iG129 rfl rfl h) ?_
              show pj_X _ _ G129 135 [(3, .int (Int32.ofInt 0)), (2, .int z3), (0, .ref 171), (1, .int v1)] [.int (pj_fi G129 171 34), .ref 171] _
              obtain ⟨y133, hy133⟩ : ∃ z : Int32, z = pj_fi G129 171 34 := ⟨_, rfl⟩
              refine pj_X_eqi hy133.symm ?_
              have ey133 : (pj_fi G129 171 34).toInt = y133.toInt := by rw [hy133]
              refine pj_X_of (fun r h => pj_R_to (G129, 136, [(3, .int (Int32.ofInt 0)), (2, .int z3), (0, .ref 171), (1, .int v1)], [.int (Int32.ofInt 0), .int y133, .ref 171], 0, 0) 136 2 (fun _ => rfl) h) ?_
              refine pj_X_of (fun r h => pj_R_ifT 143 rfl rfl (pj_b0_eqT (by omega)) h) ?_
              refine pj_X_of (fun r h => pj_R_to (G129, 146, [(3, .int (Int32.ofInt 0)), (2, .int z3), (0, .ref 171), (1, .int v1)], [.int ((Int32.ofInt 1) <<< (v1 &&& 31)), .int y133, .ref 171], 0, 0) 146 4 (fun _ => rfl) h) ?_
              obtain ⟨z134, hz134⟩ : ∃ z : Int32, z = (Int32.ofInt 1) <<< (v1 &&& 31) := ⟨_, rfl⟩
              refine pj_X_eqi hz134.symm ?_
              have fz134_0 : 1 ≤ z134.toInt ∧ z134.toInt ≤ 32 := by rw [hz134]; exact pj_shlI5 (by omega) (by omega)
              refine pj_X_of (fun r h => pj_R_to (G129, 147, [(3, .int (Int32.ofInt 0)), (2, .int z3), (0, .ref 171), (1, .int v1)], [.int (y133 ||| z134), .ref 171], 0, 0) 147 2 (fun _ => rfl) h) ?_
              obtain ⟨z135, hz135⟩ : ∃ z : Int32, z = y133 ||| z134 := ⟨_, rfl⟩
              refine pj_X_eqi hz135.symm ?_
              refine pj_X_of (fun r h => pj_T_pf iG129 rfl rfl rfl h) ?_
              show pj_X _ _ (pj_wv G129 171 34 (.int z135)) 150 [(3, .int (Int32.ofInt 0)), (2, .int z3), (0, .ref 171), (1, .int v1)] [] _
              obtain ⟨G136, hG136⟩ : ∃ H, H = pj_wv G129 171 34 (.int z135) := ⟨_, rfl⟩
              have iG136 : pj_Inv G136 := by rw [hG136]; exact pj_Inv_wi iG129 (ci := 12) rfl (fun q hq => by cases hq)
              have kG136 : pj_kpt kc_224 G0 G136 := by rw [hG136]; exact pj_kpt_v kG129 rfl
              rw [← hG136]
              refine pj_X_of (fun r h => pj_R_to (G136, 152, [(3, .int (Int32.ofInt 0)), (2, .int z3), (0, .ref 171), (1, .int v1)], [.ref 171, .ref 171], 0, 0) 152 3 (fun _ => rfl) h) ?_
              refine pj_X_of (fun r h => pj_T_gi iG136 rfl rfl h) ?_
              show pj_X _ _ G136 155 [(3, .int (Int32.ofInt 0)), (2, .int z3), (0, .ref 171), (1, .int v1)] [.int (pj_fi G136 171 35), .ref 171] _
              obtain ⟨y137, hy137⟩ : ∃ z : Int32, z = pj_fi G136 171 35 := ⟨_, rfl⟩
              refine pj_X_eqi hy137.symm ?_
              have ey137 : (pj_fi G136 171 35).toInt = y137.toInt := by rw [hy137]
              refine pj_X_of (fun r h => pj_R_to (G136, 156, [(3, .int (Int32.ofInt 0)), (2, .int z3), (0, .ref 171), (1, .int v1)], [.int (Int32.ofInt 0), .int y137, .ref 171], 0, 0) 156 2 (fun _ => rfl) h) ?_
              refine pj_X_of (fun r h => pj_R_ifF rfl (pj_b0_neF (by omega)) h) ?_
              refine pj_X_of (fun r h => pj_R_to (G136, 164, [(3, .int (Int32.ofInt 0)), (2, .int z3), (0, .ref 171), (1, .int v1)], [.int (Int32.ofInt 1), .int y137, .ref 171], 0, 0) 164 3 (fun _ => rfl) h) ?_
              refine pj_X_ca (vs := [.int (Int32.ofInt 1)]) rfl (fun _ => rfl) ⟨Nat.le_of_ble_eq_true rfl, Nat.le_of_ble_eq_true rfl, rfl⟩ ⟨rfl, rfl⟩ (pj_Y_up (by decide) (ct_172 G136 iG136 (Int32.ofInt 1) ⟨by omega, by omega⟩)) ?_
              rintro _ _ ⟨y138, rfl, rfl, ry138, ey138⟩
              show pj_X _ _ G136 167 [(3, .int (Int32.ofInt 0)), (2, .int z3), (0, .ref 171), (1, .int v1)] [.int y138, .int y137, .ref 171] _
              refine pj_X_of (fun r h => pj_R_to (G136, 168, [(3, .int (Int32.ofInt 0)), (2, .int z3), (0, .ref 171), (1, .int v1)], [.int (y137 + y138), .ref 171], 0, 0) 168 2 (fun _ => rfl) h) ?_
              obtain ⟨z139, hz139⟩ : ∃ z : Int32, z = y137 + y138 := ⟨_, rfl⟩
              refine pj_X_eqi hz139.symm ?_
              refine pj_X_of (fun r h => pj_T_pf iG136 rfl rfl rfl h) ?_
              show pj_X _ _ (pj_wv G136 171 35 (.int z139)) 171 [(3, .int (Int32.ofInt 0)), (2, .int z3), (0, .ref 171), (1, .int v1)] [] _
              obtain ⟨G140, hG140⟩ : ∃ H, H = pj_wv G136 171 35 (.int z139) := ⟨_, rfl⟩
              have iG140 : pj_Inv G140 := by rw [hG140]; exact pj_Inv_wi iG136 (ci := 12) rfl (fun q hq => by cases hq)
              have kG140 : pj_kpt kc_224 G0 G140 := by rw [hG140]; exact pj_kpt_v kG136 rfl
              rw [← hG140]
              refine pj_X_of (fun r h => pj_R_to (G140, 172, [(3, .int (Int32.ofInt 0)), (2, .int z3), (0, .ref 171), (1, .int v1)], [.ref 171], 0, 0) 172 2 (fun _ => rfl) h) ?_
              refine pj_X_of (fun r h => pj_T_gr iG140 rfl rfl rfl h) ?_
              refine pj_X_of (fun r h => pj_R_to (G140, 178, [(3, .int (Int32.ofInt 0)), (2, .int z3), (0, .ref 171), (1, .int v1)], [.int ((Int8.ofInt 31).toInt32), .ref 179, .int ((Int8.ofInt 31).toInt32), .ref 179], 0, 0) 178 3 (fun _ => rfl) h) ?_
              refine pj_X_of (fun r h => pj_T_il iG140 rfl rfl (by omega) (by omega) h) ?_
              show pj_X _ _ G140 179 [(3, .int (Int32.ofInt 0)), (2, .int z3), (0, .ref 171), (1, .int v1)] [.int (pj_ai G140 179 ((Int8.ofInt 31).toInt32).toInt.toNat), .int ((Int8.ofInt 31).toInt32), .ref 179] _
              obtain ⟨z141, hz141⟩ : ∃ z : Int32, z = pj_ai G140 179 ((Int8.ofInt 31).toInt32).toInt.toNat := ⟨_, rfl⟩
              refine pj_X_eqi hz141.symm ?_
              have ez141 : (pj_ai G140 179 ((Int8.ofInt 31).toInt32).toInt.toNat).toInt = z141.toInt := by rw [hz141]
              refine pj_X_of (fun r h => pj_R_to (G140, 180, [(3, .int (Int32.ofInt 0)), (2, .int z3), (0, .ref 171), (1, .int v1)], [.int (Int32.ofInt 0), .int z141, .int ((Int8.ofInt 31).toInt32), .ref 179], 0, 0) 180 2 (fun _ => rfl) h) ?_
              refine pj_X_of (fun r h => pj_R_ifF rfl (pj_b0_neF (by omega)) h) ?_
              refine pj_X_of (fun r h => pj_R_to (G140, 188, [(3, .int (Int32.ofInt 0)), (2, .int z3), (0, .ref 171), (1, .int v1)], [.int (Int32.ofInt 1), .int z141, .int ((Int8.ofInt 31).toInt32), .ref 179], 0, 0) 188 3 (fun _ => rfl) h) ?_
              refine pj_X_ca (vs := [.int (Int32.ofInt 1)]) rfl (fun _ => rfl) ⟨Nat.le_of_ble_eq_true rfl, Nat.le_of_ble_eq_true rfl, rfl⟩ ⟨rfl, rfl⟩ (pj_Y_up (by decide) (ct_172 G140 iG140 (Int32.ofInt 1) ⟨by omega, by omega⟩)) ?_
              rintro _ _ ⟨y142, rfl, rfl, ry142, ey142⟩
              show pj_X _ _ G140 191 [(3, .int (Int32.ofInt 0)), (2, .int z3), (0, .ref 171), (1, .int v1)] [.int y142, .int z141, .int ((Int8.ofInt 31).toInt32), .ref 179] _
              refine pj_X_of (fun r h => pj_R_to (G140, 192, [(3, .int (Int32.ofInt 0)), (2, .int z3), (0, .ref 171), (1, .int v1)], [.int (z141 + y142), .int ((Int8.ofInt 31).toInt32), .ref 179], 0, 0) 192 2 (fun _ => rfl) h) ?_
              obtain ⟨z143, hz143⟩ : ∃ z : Int32, z = z141 + y142 := ⟨_, rfl⟩
              refine pj_X_eqi hz143.symm ?_
              refine pj_X_of (fun r h => pj_T_is iG140 rfl rfl (by omega) (by omega) h) ?_
              show pj_X _ _ (pj_wa G140 179 ((Int8.ofInt 31).toInt32).toInt.toNat z143) 193 [(3, .int (Int32.ofInt 0)), (2, .int z3), (0, .ref 171), (1, .int v1)] [] _
              obtain ⟨G144, hG144⟩ : ∃ H, H = pj_wa G140 179 ((Int8.ofInt 31).toInt32).toInt.toNat z143 := ⟨_, rfl⟩
              have iG144 : pj_Inv G144 := by rw [hG144]; exact pj_Inv_wa iG140 rfl (fun q hq => by cases hq) (fun n hn => ⟨fun h1 => ⟨fun h2 => by omega, fun h2 => by omega⟩, fun h1 => by omega⟩)
              have kG144 : pj_kpt kc_224 G0 G144 := by rw [hG144]; exact pj_kpt_a kG140 rfl
              rw [← hG144]
              refine pj_X_of (fun r h => pj_R_to (G144, 196, [(1, .int (v1 + Int32.ofInt 1)), (3, .int (Int32.ofInt 0)), (2, .int z3), (0, .ref 171)], [], 0, 0) 196 2 (fun _ => rfl) h) ?_
              obtain ⟨z145, hz145⟩ : ∃ z : Int32, z = v1 + Int32.ofInt 1 := ⟨_, rfl⟩
              rw [← hz145]
              have fz145_0 : z145.toInt = v1.toInt + (Int32.ofInt 1).toInt := by rw [hz145]; exact pj_addI (by have := pj_i32 v1; have := pj_i32 (Int32.ofInt 1); omega) (by have := pj_i32 v1; have := pj_i32 (Int32.ofInt 1); omega)
              refine pj_X_of (fun r h => pj_R_to (G144, 13, [(1, .int z145), (3, .int (Int32.ofInt 0)), (2, .int z3), (0, .ref 171)], [], 0, 0) 13 2 (fun _ => rfl) h) ?_
              exact pj_X_sub [(0, .ref 171), (1, .int z145)] (show List.Nodup [0, 1] by decide) ⟨rfl, rfl, trivial⟩ (ih G144 iG144 kG144 z145 ⟨by omega, by omega⟩ (by omega))
            | false =>
              have ub132 := pj_u0_geF b132
              refine pj_X_of (fun r h => pj_R_ifF rfl b132 h) ?_
              refine pj_X_of (fun r h => pj_R_to (G129, 114, [(2, .int z3), (0, .ref 171), (1, .int v1)], [.ref 171], 0, 0) 114 2 (fun _ => rfl) h) ?_
              refine pj_X_of (fun r h => pj_T_gr iG129 rfl rfl rfl h) ?_
              refine pj_X_of (fun r h => pj_R_to (G129, 120, [(2, .int z3), (0, .ref 171), (1, .int v1)], [.int (z3 + (Int32.ofInt 1)), .ref 179], 0, 0) 120 4 (fun _ => rfl) h) ?_
              obtain ⟨z146, hz146⟩ : ∃ z : Int32, z = z3 + (Int32.ofInt 1) := ⟨_, rfl⟩
              refine pj_X_eqi hz146.symm ?_
              have fz146_0 : z146.toInt = z3.toInt + (Int32.ofInt 1).toInt := by rw [hz146]; exact pj_addI (by have := pj_i32 z3; have := pj_i32 (Int32.ofInt 1); omega) (by have := pj_i32 z3; have := pj_i32 (Int32.ofInt 1); omega)
              refine pj_X_of (fun r h => pj_T_il iG129 rfl rfl (by omega) (by omega) h) ?_
              show pj_X _ _ G129 121 [(2, .int z3), (0, .ref 171), (1, .int v1)] [.int (pj_ai G129 179 z146.toInt.toNat)] _
              obtain ⟨z147, hz147⟩ : ∃ z : Int32, z = pj_ai G129 179 z146.toInt.toNat := ⟨_, rfl⟩
              refine pj_X_eqi hz147.symm ?_
              have ez147 : (pj_ai G129 179 z146.toInt.toNat).toInt = z147.toInt := by rw [hz147]
              have fz147_0 : 0 ≤ z147.toInt := by rw [hz147]; exact ((iG129.2.2.2 179 32 rfl _ (by show _ < 32; omega)).1 (by omega)).2 (by omega)
              cases b148 : pj_c1 .ne z147 0 with
              | true =>
                have ub148 := pj_u0_neT b148
                refine pj_X_of (fun r h => pj_R_ifT 128 rfl rfl b148 h) ?_
                refine pj_X_of (fun r h => pj_R_to (G129, 132, [(3, .int (Int32.ofInt 0)), (2, .int z3), (0, .ref 171), (1, .int v1)], [.ref 171, .ref 171], 0, 0) 132 5 (fun _ => rfl) h) ?_
                refine pj_X_of (fun r h => pj_T_gi iG129 rfl rfl h) ?_
                show pj_X _ _ G129 135 [(3, .int (Int32.ofInt 0)), (2, .int z3), (0, .ref 171), (1, .int v1)] [.int (pj_fi G129 171 34), .ref 171] _
                obtain ⟨y149, hy149⟩ : ∃ z : Int32, z = pj_fi G129 171 34 := ⟨_, rfl⟩
                refine pj_X_eqi hy149.symm ?_
                have ey149 : (pj_fi G129 171 34).toInt = y149.toInt := by rw [hy149]
                refine pj_X_of (fun r h => pj_R_to (G129, 136, [(3, .int (Int32.ofInt 0)), (2, .int z3), (0, .ref 171), (1, .int v1)], [.int (Int32.ofInt 0), .int y149, .ref 171], 0, 0) 136 2 (fun _ => rfl) h) ?_
                refine pj_X_of (fun r h => pj_R_ifT 143 rfl rfl (pj_b0_eqT (by omega)) h) ?_
                refine pj_X_of (fun r h => pj_R_to (G129, 146, [(3, .int (Int32.ofInt 0)), (2, .int z3), (0, .ref 171), (1, .int v1)], [.int ((Int32.ofInt 1) <<< (v1 &&& 31)), .int y149, .ref 171], 0, 0) 146 4 (fun _ => rfl) h) ?_
                obtain ⟨z150, hz150⟩ : ∃ z : Int32, z = (Int32.ofInt 1) <<< (v1 &&& 31) := ⟨_, rfl⟩
                refine pj_X_eqi hz150.symm ?_
                have fz150_0 : 1 ≤ z150.toInt ∧ z150.toInt ≤ 32 := by rw [hz150]; exact pj_shlI5 (by omega) (by omega)
                refine pj_X_of (fun r h => pj_R_to (G129, 147, [(3, .int (Int32.ofInt 0)), (2, .int z3), (0, .ref 171), (1, .int v1)], [.int (y149 ||| z150), .ref 171], 0, 0) 147 2 (fun _ => rfl) h) ?_
                obtain ⟨z151, hz151⟩ : ∃ z : Int32, z = y149 ||| z150 := ⟨_, rfl⟩
                refine pj_X_eqi hz151.symm ?_
                refine pj_X_of (fun r h => pj_T_pf iG129 rfl rfl rfl h) ?_
                show pj_X _ _ (pj_wv G129 171 34 (.int z151)) 150 [(3, .int (Int32.ofInt 0)), (2, .int z3), (0, .ref 171), (1, .int v1)] [] _
                obtain ⟨G152, hG152⟩ : ∃ H, H = pj_wv G129 171 34 (.int z151) := ⟨_, rfl⟩
                have iG152 : pj_Inv G152 := by rw [hG152]; exact pj_Inv_wi iG129 (ci := 12) rfl (fun q hq => by cases hq)
                have kG152 : pj_kpt kc_224 G0 G152 := by rw [hG152]; exact pj_kpt_v kG129 rfl
                rw [← hG152]
                refine pj_X_of (fun r h => pj_R_to (G152, 152, [(3, .int (Int32.ofInt 0)), (2, .int z3), (0, .ref 171), (1, .int v1)], [.ref 171, .ref 171], 0, 0) 152 3 (fun _ => rfl) h) ?_
                refine pj_X_of (fun r h => pj_T_gi iG152 rfl rfl h) ?_
                show pj_X _ _ G152 155 [(3, .int (Int32.ofInt 0)), (2, .int z3), (0, .ref 171), (1, .int v1)] [.int (pj_fi G152 171 35), .ref 171] _
                obtain ⟨y153, hy153⟩ : ∃ z : Int32, z = pj_fi G152 171 35 := ⟨_, rfl⟩
                refine pj_X_eqi hy153.symm ?_
                have ey153 : (pj_fi G152 171 35).toInt = y153.toInt := by rw [hy153]
                refine pj_X_of (fun r h => pj_R_to (G152, 156, [(3, .int (Int32.ofInt 0)), (2, .int z3), (0, .ref 171), (1, .int v1)], [.int (Int32.ofInt 0), .int y153, .ref 171], 0, 0) 156 2 (fun _ => rfl) h) ?_
                refine pj_X_of (fun r h => pj_R_ifF rfl (pj_b0_neF (by omega)) h) ?_
                refine pj_X_of (fun r h => pj_R_to (G152, 164, [(3, .int (Int32.ofInt 0)), (2, .int z3), (0, .ref 171), (1, .int v1)], [.int (Int32.ofInt 1), .int y153, .ref 171], 0, 0) 164 3 (fun _ => rfl) h) ?_
                refine pj_X_ca (vs := [.int (Int32.ofInt 1)]) rfl (fun _ => rfl) ⟨Nat.le_of_ble_eq_true rfl, Nat.le_of_ble_eq_true rfl, rfl⟩ ⟨rfl, rfl⟩ (pj_Y_up (by decide) (ct_172 G152 iG152 (Int32.ofInt 1) ⟨by omega, by omega⟩)) ?_
                rintro _ _ ⟨y154, rfl, rfl, ry154, ey154⟩
                show pj_X _ _ G152 167 [(3, .int (Int32.ofInt 0)), (2, .int z3), (0, .ref 171), (1, .int v1)] [.int y154, .int y153, .ref 171] _
                refine pj_X_of (fun r h => pj_R_to (G152, 168, [(3, .int (Int32.ofInt 0)), (2, .int z3), (0, .ref 171), (1, .int v1)], [.int (y153 + y154), .ref 171], 0, 0) 168 2 (fun _ => rfl) h) ?_
                obtain ⟨z155, hz155⟩ : ∃ z : Int32, z = y153 + y154 := ⟨_, rfl⟩
                refine pj_X_eqi hz155.symm ?_
                refine pj_X_of (fun r h => pj_T_pf iG152 rfl rfl rfl h) ?_
                show pj_X _ _ (pj_wv G152 171 35 (.int z155)) 171 [(3, .int (Int32.ofInt 0)), (2, .int z3), (0, .ref 171), (1, .int v1)] [] _
                obtain ⟨G156, hG156⟩ : ∃ H, H = pj_wv G152 171 35 (.int z155) := ⟨_, rfl⟩
                have iG156 : pj_Inv G156 := by rw [hG156]; exact pj_Inv_wi iG152 (ci := 12) rfl (fun q hq => by cases hq)
                have kG156 : pj_kpt kc_224 G0 G156 := by rw [hG156]; exact pj_kpt_v kG152 rfl
                rw [← hG156]
                refine pj_X_of (fun r h => pj_R_to (G156, 172, [(3, .int (Int32.ofInt 0)), (2, .int z3), (0, .ref 171), (1, .int v1)], [.ref 171], 0, 0) 172 2 (fun _ => rfl) h) ?_
                refine pj_X_of (fun r h => pj_T_gr iG156 rfl rfl rfl h) ?_
                refine pj_X_of (fun r h => pj_R_to (G156, 178, [(3, .int (Int32.ofInt 0)), (2, .int z3), (0, .ref 171), (1, .int v1)], [.int ((Int8.ofInt 31).toInt32), .ref 179, .int ((Int8.ofInt 31).toInt32), .ref 179], 0, 0) 178 3 (fun _ => rfl) h) ?_
                refine pj_X_of (fun r h => pj_T_il iG156 rfl rfl (by omega) (by omega) h) ?_
                show pj_X _ _ G156 179 [(3, .int (Int32.ofInt 0)), (2, .int z3), (0, .ref 171), (1, .int v1)] [.int (pj_ai G156 179 ((Int8.ofInt 31).toInt32).toInt.toNat), .int ((Int8.ofInt 31).toInt32), .ref 179] _
                obtain ⟨z157, hz157⟩ : ∃ z : Int32, z = pj_ai G156 179 ((Int8.ofInt 31).toInt32).toInt.toNat := ⟨_, rfl⟩
                refine pj_X_eqi hz157.symm ?_
                have ez157 : (pj_ai G156 179 ((Int8.ofInt 31).toInt32).toInt.toNat).toInt = z157.toInt := by rw [hz157]
                refine pj_X_of (fun r h => pj_R_to (G156, 180, [(3, .int (Int32.ofInt 0)), (2, .int z3), (0, .ref 171), (1, .int v1)], [.int (Int32.ofInt 0), .int z157, .int ((Int8.ofInt 31).toInt32), .ref 179], 0, 0) 180 2 (fun _ => rfl) h) ?_
                refine pj_X_of (fun r h => pj_R_ifF rfl (pj_b0_neF (by omega)) h) ?_
                refine pj_X_of (fun r h => pj_R_to (G156, 188, [(3, .int (Int32.ofInt 0)), (2, .int z3), (0, .ref 171), (1, .int v1)], [.int (Int32.ofInt 1), .int z157, .int ((Int8.ofInt 31).toInt32), .ref 179], 0, 0) 188 3 (fun _ => rfl) h) ?_
                refine pj_X_ca (vs := [.int (Int32.ofInt 1)]) rfl (fun _ => rfl) ⟨Nat.le_of_ble_eq_true rfl, Nat.le_of_ble_eq_true rfl, rfl⟩ ⟨rfl, rfl⟩ (pj_Y_up (by decide) (ct_172 G156 iG156 (Int32.ofInt 1) ⟨by omega, by omega⟩)) ?_
                rintro _ _ ⟨y158, rfl, rfl, ry158, ey158⟩
                show pj_X _ _ G156 191 [(3, .int (Int32.ofInt 0)), (2, .int z3), (0, .ref 171), (1, .int v1)] [.int y158, .int z157, .int ((Int8.ofInt 31).toInt32), .ref 179] _
                refine pj_X_of (fun r h => pj_R_to (G156, 192, [(3, .int (Int32.ofInt 0)), (2, .int z3), (0, .ref 171), (1, .int v1)], [.int (z157 + y158), .int ((Int8.ofInt 31).toInt32), .ref 179], 0, 0) 192 2 (fun _ => rfl) h) ?_
                obtain ⟨z159, hz159⟩ : ∃ z : Int32, z = z157 + y158 := ⟨_, rfl⟩
                refine pj_X_eqi hz159.symm ?_
                refine pj_X_of (fun r h => pj_T_is iG156 rfl rfl (by omega) (by omega) h) ?_
                show pj_X _ _ (pj_wa G156 179 ((Int8.ofInt 31).toInt32).toInt.toNat z159) 193 [(3, .int (Int32.ofInt 0)), (2, .int z3), (0, .ref 171), (1, .int v1)] [] _
                obtain ⟨G160, hG160⟩ : ∃ H, H = pj_wa G156 179 ((Int8.ofInt 31).toInt32).toInt.toNat z159 := ⟨_, rfl⟩
                have iG160 : pj_Inv G160 := by rw [hG160]; exact pj_Inv_wa iG156 rfl (fun q hq => by cases hq) (fun n hn => ⟨fun h1 => ⟨fun h2 => by omega, fun h2 => by omega⟩, fun h1 => by omega⟩)
                have kG160 : pj_kpt kc_224 G0 G160 := by rw [hG160]; exact pj_kpt_a kG156 rfl
                rw [← hG160]
                refine pj_X_of (fun r h => pj_R_to (G160, 196, [(1, .int (v1 + Int32.ofInt 1)), (3, .int (Int32.ofInt 0)), (2, .int z3), (0, .ref 171)], [], 0, 0) 196 2 (fun _ => rfl) h) ?_
                obtain ⟨z161, hz161⟩ : ∃ z : Int32, z = v1 + Int32.ofInt 1 := ⟨_, rfl⟩
                rw [← hz161]
                have fz161_0 : z161.toInt = v1.toInt + (Int32.ofInt 1).toInt := by rw [hz161]; exact pj_addI (by have := pj_i32 v1; have := pj_i32 (Int32.ofInt 1); omega) (by have := pj_i32 v1; have := pj_i32 (Int32.ofInt 1); omega)
                refine pj_X_of (fun r h => pj_R_to (G160, 13, [(1, .int z161), (3, .int (Int32.ofInt 0)), (2, .int z3), (0, .ref 171)], [], 0, 0) 13 2 (fun _ => rfl) h) ?_
                exact pj_X_sub [(0, .ref 171), (1, .int z161)] (show List.Nodup [0, 1] by decide) ⟨rfl, rfl, trivial⟩ (ih G160 iG160 kG160 z161 ⟨by omega, by omega⟩ (by omega))
              | false =>
                have ub148 := pj_u0_neF b148
                refine pj_X_of (fun r h => pj_R_ifF rfl b148 h) ?_
                refine pj_X_of (fun r h => pj_R_to (G129, 132, [(3, .int (Int32.ofInt 1)), (2, .int z3), (0, .ref 171), (1, .int v1)], [.ref 171, .ref 171], 0, 0) 132 6 (fun _ => rfl) h) ?_
                refine pj_X_of (fun r h => pj_T_gi iG129 rfl rfl h) ?_
                show pj_X _ _ G129 135 [(3, .int (Int32.ofInt 1)), (2, .int z3), (0, .ref 171), (1, .int v1)] [.int (pj_fi G129 171 34), .ref 171] _
                obtain ⟨y162, hy162⟩ : ∃ z : Int32, z = pj_fi G129 171 34 := ⟨_, rfl⟩
                refine pj_X_eqi hy162.symm ?_
                have ey162 : (pj_fi G129 171 34).toInt = y162.toInt := by rw [hy162]
                refine pj_X_of (fun r h => pj_R_to (G129, 136, [(3, .int (Int32.ofInt 1)), (2, .int z3), (0, .ref 171), (1, .int v1)], [.int (Int32.ofInt 1), .int y162, .ref 171], 0, 0) 136 2 (fun _ => rfl) h) ?_
                refine pj_X_of (fun r h => pj_R_ifF rfl (pj_b0_eqF (by omega)) h) ?_
                refine pj_X_of (fun r h => pj_R_to (G129, 147, [(3, .int (Int32.ofInt 1)), (2, .int z3), (0, .ref 171), (1, .int v1)], [.int (y162 ||| (Int32.ofInt 0)), .ref 171], 0, 0) 147 4 (fun _ => rfl) h) ?_
                obtain ⟨z163, hz163⟩ : ∃ z : Int32, z = y162 ||| (Int32.ofInt 0) := ⟨_, rfl⟩
                refine pj_X_eqi hz163.symm ?_
                refine pj_X_of (fun r h => pj_T_pf iG129 rfl rfl rfl h) ?_
                show pj_X _ _ (pj_wv G129 171 34 (.int z163)) 150 [(3, .int (Int32.ofInt 1)), (2, .int z3), (0, .ref 171), (1, .int v1)] [] _
                obtain ⟨G164, hG164⟩ : ∃ H, H = pj_wv G129 171 34 (.int z163) := ⟨_, rfl⟩
                have iG164 : pj_Inv G164 := by rw [hG164]; exact pj_Inv_wi iG129 (ci := 12) rfl (fun q hq => by cases hq)
                have kG164 : pj_kpt kc_224 G0 G164 := by rw [hG164]; exact pj_kpt_v kG129 rfl
                rw [← hG164]
                refine pj_X_of (fun r h => pj_R_to (G164, 152, [(3, .int (Int32.ofInt 1)), (2, .int z3), (0, .ref 171), (1, .int v1)], [.ref 171, .ref 171], 0, 0) 152 3 (fun _ => rfl) h) ?_
                refine pj_X_of (fun r h => pj_T_gi iG164 rfl rfl h) ?_
                show pj_X _ _ G164 155 [(3, .int (Int32.ofInt 1)), (2, .int z3), (0, .ref 171), (1, .int v1)] [.int (pj_fi G164 171 35), .ref 171] _
                obtain ⟨y165, hy165⟩ : ∃ z : Int32, z = pj_fi G164 171 35 := ⟨_, rfl⟩
                refine pj_X_eqi hy165.symm ?_
                have ey165 : (pj_fi G164 171 35).toInt = y165.toInt := by rw [hy165]
                refine pj_X_of (fun r h => pj_R_to (G164, 156, [(3, .int (Int32.ofInt 1)), (2, .int z3), (0, .ref 171), (1, .int v1)], [.int (Int32.ofInt 1), .int y165, .ref 171], 0, 0) 156 2 (fun _ => rfl) h) ?_
                refine pj_X_of (fun r h => pj_R_ifT 163 rfl rfl (pj_b0_neT (by omega)) h) ?_
                refine pj_X_of (fun r h => pj_R_to (G164, 164, [(3, .int (Int32.ofInt 1)), (2, .int z3), (0, .ref 171), (1, .int v1)], [.int (Int32.ofInt 0), .int y165, .ref 171], 0, 0) 164 2 (fun _ => rfl) h) ?_
                refine pj_X_ca (vs := [.int (Int32.ofInt 0)]) rfl (fun _ => rfl) ⟨Nat.le_of_ble_eq_true rfl, Nat.le_of_ble_eq_true rfl, rfl⟩ ⟨rfl, rfl⟩ (pj_Y_up (by decide) (ct_172 G164 iG164 (Int32.ofInt 0) ⟨by omega, by omega⟩)) ?_
                rintro _ _ ⟨y166, rfl, rfl, ry166, ey166⟩
                show pj_X _ _ G164 167 [(3, .int (Int32.ofInt 1)), (2, .int z3), (0, .ref 171), (1, .int v1)] [.int y166, .int y165, .ref 171] _
                refine pj_X_of (fun r h => pj_R_to (G164, 168, [(3, .int (Int32.ofInt 1)), (2, .int z3), (0, .ref 171), (1, .int v1)], [.int (y165 + y166), .ref 171], 0, 0) 168 2 (fun _ => rfl) h) ?_
                obtain ⟨z167, hz167⟩ : ∃ z : Int32, z = y165 + y166 := ⟨_, rfl⟩
                refine pj_X_eqi hz167.symm ?_
                refine pj_X_of (fun r h => pj_T_pf iG164 rfl rfl rfl h) ?_
                show pj_X _ _ (pj_wv G164 171 35 (.int z167)) 171 [(3, .int (Int32.ofInt 1)), (2, .int z3), (0, .ref 171), (1, .int v1)] [] _
                obtain ⟨G168, hG168⟩ : ∃ H, H = pj_wv G164 171 35 (.int z167) := ⟨_, rfl⟩
                have iG168 : pj_Inv G168 := by rw [hG168]; exact pj_Inv_wi iG164 (ci := 12) rfl (fun q hq => by cases hq)
                have kG168 : pj_kpt kc_224 G0 G168 := by rw [hG168]; exact pj_kpt_v kG164 rfl
                rw [← hG168]
                refine pj_X_of (fun r h => pj_R_to (G168, 172, [(3, .int (Int32.ofInt 1)), (2, .int z3), (0, .ref 171), (1, .int v1)], [.ref 171], 0, 0) 172 2 (fun _ => rfl) h) ?_
                refine pj_X_of (fun r h => pj_T_gr iG168 rfl rfl rfl h) ?_
                refine pj_X_of (fun r h => pj_R_to (G168, 178, [(3, .int (Int32.ofInt 1)), (2, .int z3), (0, .ref 171), (1, .int v1)], [.int ((Int8.ofInt 31).toInt32), .ref 179, .int ((Int8.ofInt 31).toInt32), .ref 179], 0, 0) 178 3 (fun _ => rfl) h) ?_
                refine pj_X_of (fun r h => pj_T_il iG168 rfl rfl (by omega) (by omega) h) ?_
                show pj_X _ _ G168 179 [(3, .int (Int32.ofInt 1)), (2, .int z3), (0, .ref 171), (1, .int v1)] [.int (pj_ai G168 179 ((Int8.ofInt 31).toInt32).toInt.toNat), .int ((Int8.ofInt 31).toInt32), .ref 179] _
                obtain ⟨z169, hz169⟩ : ∃ z : Int32, z = pj_ai G168 179 ((Int8.ofInt 31).toInt32).toInt.toNat := ⟨_, rfl⟩
                refine pj_X_eqi hz169.symm ?_
                have ez169 : (pj_ai G168 179 ((Int8.ofInt 31).toInt32).toInt.toNat).toInt = z169.toInt := by rw [hz169]
                refine pj_X_of (fun r h => pj_R_to (G168, 180, [(3, .int (Int32.ofInt 1)), (2, .int z3), (0, .ref 171), (1, .int v1)], [.int (Int32.ofInt 1), .int z169, .int ((Int8.ofInt 31).toInt32), .ref 179], 0, 0) 180 2 (fun _ => rfl) h) ?_
                refine pj_X_of (fun r h => pj_R_ifT 187 rfl rfl (pj_b0_neT (by omega)) h) ?_
                refine pj_X_of (fun r h => pj_R_to (G168, 188, [(3, .int (Int32.ofInt 1)), (2, .int z3), (0, .ref 171), (1, .int v1)], [.int (Int32.ofInt 0), .int z169, .int ((Int8.ofInt 31).toInt32), .ref 179], 0, 0) 188 2 (fun _ => rfl) h) ?_
                refine pj_X_ca (vs := [.int (Int32.ofInt 0)]) rfl (fun _ => rfl) ⟨Nat.le_of_ble_eq_true rfl, Nat.le_of_ble_eq_true rfl, rfl⟩ ⟨rfl, rfl⟩ (pj_Y_up (by decide) (ct_172 G168 iG168 (Int32.ofInt 0) ⟨by omega, by omega⟩)) ?_
                rintro _ _ ⟨y170, rfl, rfl, ry170, ey170⟩
                show pj_X _ _ G168 191 [(3, .int (Int32.ofInt 1)), (2, .int z3), (0, .ref 171), (1, .int v1)] [.int y170, .int z169, .int ((Int8.ofInt 31).toInt32), .ref 179] _
                refine pj_X_of (fun r h => pj_R_to (G168, 192, [(3, .int (Int32.ofInt 1)), (2, .int z3), (0, .ref 171), (1, .int v1)], [.int (z169 + y170), .int ((Int8.ofInt 31).toInt32), .ref 179], 0, 0) 192 2 (fun _ => rfl) h) ?_
                obtain ⟨z171, hz171⟩ : ∃ z : Int32, z = z169 + y170 := ⟨_, rfl⟩
                refine pj_X_eqi hz171.symm ?_
                refine pj_X_of (fun r h => pj_T_is iG168 rfl rfl (by omega) (by omega) h) ?_
                show pj_X _ _ (pj_wa G168 179 ((Int8.ofInt 31).toInt32).toInt.toNat z171) 193 [(3, .int (Int32.ofInt 1)), (2, .int z3), (0, .ref 171), (1, .int v1)] [] _
                obtain ⟨G172, hG172⟩ : ∃ H, H = pj_wa G168 179 ((Int8.ofInt 31).toInt32).toInt.toNat z171 := ⟨_, rfl⟩
                have iG172 : pj_Inv G172 := by rw [hG172]; exact pj_Inv_wa iG168 rfl (fun q hq => by cases hq) (fun n hn => ⟨fun h1 => ⟨fun h2 => by omega, fun h2 => by omega⟩, fun h1 => by omega⟩)
                have kG172 : pj_kpt kc_224 G0 G172 := by rw [hG172]; exact pj_kpt_a kG168 rfl
                rw [← hG172]
                refine pj_X_of (fun r h => pj_R_to (G172, 196, [(1, .int (v1 + Int32.ofInt 1)), (3, .int (Int32.ofInt 1)), (2, .int z3), (0, .ref 171)], [], 0, 0) 196 2 (fun _ => rfl) h) ?_
                obtain ⟨z173, hz173⟩ : ∃ z : Int32, z = v1 + Int32.ofInt 1 := ⟨_, rfl⟩
                rw [← hz173]
                have fz173_0 : z173.toInt = v1.toInt + (Int32.ofInt 1).toInt := by rw [hz173]; exact pj_addI (by have := pj_i32 v1; have := pj_i32 (Int32.ofInt 1); omega) (by have := pj_i32 v1; have := pj_i32 (Int32.ofInt 1); omega)
                refine pj_X_of (fun r h => pj_R_to (G172, 13, [(1, .int z173), (3, .int (Int32.ofInt 1)), (2, .int z3), (0, .ref 171)], [], 0, 0) 13 2 (fun _ => rfl) h) ?_
                exact pj_X_sub [(0, .ref 171), (1, .int z173)] (show List.Nodup [0, 1] by decide) ⟨rfl, rfl, trivial⟩ (ih G172 iG172 kG172 z173 ⟨by omega, by omega⟩ (by omega))
theorem ct_224 (G0 : pj_G) (hI : pj_Inv G0) : pj_Y 2 224 [.ref 171] G0 (fun v G' => v = none ∧ pj_Inv G' ∧ pj_kpt kc_224 G0 G') := by
  have c0_ : ((Int8.ofInt 30).toInt32).toInt = 30 := by decide
  have c1_ : ((Int8.ofInt 31).toInt32).toInt = 31 := by decide
  have c2_ : (Int32.ofInt (-1)).toInt = -1 := by decide
  have c3_ : (Int32.ofInt 0).toInt = 0 := by decide
  have c4_ : (Int32.ofInt 1).toInt = 1 := by decide
  have c5_ : (Int32.ofInt 2).toInt = 2 := by decide
  have c6_ : (Int32.ofInt 4).toInt = 4 := by decide
  refine pj_Y_X (M := pj_m224) rfl rfl (Nat.le_of_ble_eq_true rfl) ?_
  have hK : pj_kpt kc_224 G0 G0 := pj_kpt_r _ _
  show pj_X _ _ G0 0 [(0, .ref 171)] [] _
  refine pj_X_of (fun r h => pj_R_to (G0, 1, [(0, .ref 171)], [.ref 171], 0, 0) 1 2 (fun _ => rfl) h) ?_
  refine pj_X_of (fun r h => pj_T_gr hI rfl rfl rfl h) ?_
  refine pj_X_of (fun r h => pj_R_to (G0, 7, [(0, .ref 171)], [.int ((Int8.ofInt 30).toInt32), .ref 179, .int ((Int8.ofInt 30).toInt32), .ref 179], 0, 0) 7 3 (fun _ => rfl) h) ?_
  refine pj_X_of (fun r h => pj_T_il hI rfl rfl (by omega) (by omega) h) ?_
  show pj_X _ _ G0 8 [(0, .ref 171)] [.int (pj_ai G0 179 ((Int8.ofInt 30).toInt32).toInt.toNat), .int ((Int8.ofInt 30).toInt32), .ref 179] _
  obtain ⟨z174, hz174⟩ : ∃ z : Int32, z = pj_ai G0 179 ((Int8.ofInt 30).toInt32).toInt.toNat := ⟨_, rfl⟩
  refine pj_X_eqi hz174.symm ?_
  have ez174 : (pj_ai G0 179 ((Int8.ofInt 30).toInt32).toInt.toNat).toInt = z174.toInt := by rw [hz174]
  refine pj_X_of (fun r h => pj_R_to (G0, 10, [(0, .ref 171)], [.int (z174 + (Int32.ofInt 1)), .int ((Int8.ofInt 30).toInt32), .ref 179], 0, 0) 10 3 (fun _ => rfl) h) ?_
  obtain ⟨z175, hz175⟩ : ∃ z : Int32, z = z174 + (Int32.ofInt 1) := ⟨_, rfl⟩
  refine pj_X_eqi hz175.symm ?_
  refine pj_X_of (fun r h => pj_T_is hI rfl rfl (by omega) (by omega) h) ?_
  show pj_X _ _ (pj_wa G0 179 ((Int8.ofInt 30).toInt32).toInt.toNat z175) 11 [(0, .ref 171)] [] _
  obtain ⟨G176, hG176⟩ : ∃ H, H = pj_wa G0 179 ((Int8.ofInt 30).toInt32).toInt.toNat z175 := ⟨_, rfl⟩
  have iG176 : pj_Inv G176 := by rw [hG176]; exact pj_Inv_wa hI rfl (fun q hq => by cases hq) (fun n hn => ⟨fun h1 => ⟨fun h2 => by omega, fun h2 => by omega⟩, fun h1 => by omega⟩)
  have kG176 : pj_kpt kc_224 G0 G176 := by rw [hG176]; exact pj_kpt_a hK rfl
  rw [← hG176]
  refine pj_X_of (fun r h => pj_R_to (G176, 13, [(1, .int (Int32.ofInt 0)), (0, .ref 171)], [], 0, 0) 13 3 (fun _ => rfl) h) ?_
  exact pj_X_sub [(0, .ref 171), (1, .int (Int32.ofInt 0))] (show List.Nodup [0, 1] by decide) ⟨rfl, rfl, trivial⟩ ((lp_ct_224 G0 hI   7) G176 iG176 kG176 (Int32.ofInt 0) ⟨by omega, by omega⟩ (by omega))
def kc_225 : pj_KT := ([(171, 0), (171, 30)], [171, 179, 184, 185, 186], [179, 184, 185, 186])
theorem ct_225 (G0 : pj_G) (hI : pj_Inv G0) (b : Int32) (c : Int32) (p0_ : pj_RI G0) (p1_ : (pj_fi G0 171 30).toInt ≤ 15) : pj_Y 7 225 [.ref 171, .int b, .int c] G0 (fun v G' => ∃ y : Int32, v = some (.int y) ∧ pj_Inv G' ∧ pj_kpt kc_225 G0 G' ∧ ((-2147483648 : Int) ≤ y.toInt ∧ y.toInt ≤ 2147483647) ∧ ((pj_fi G' 171 30).toInt ≤ 15)) := by
  have c0_ : (Int32.ofInt 0).toInt = 0 := by decide
  refine pj_Y_X (M := pj_m225) rfl rfl (Nat.le_of_ble_eq_true rfl) ?_
  have hK : pj_kpt kc_225 G0 G0 := pj_kpt_r _ _
  show pj_X _ _ G0 0 [(0, .ref 171), (1, .int b), (2, .int c)] [] _
  obtain ⟨y1, hy1⟩ : ∃ z : Int32, z = pj_fi G0 171 30 := ⟨_, rfl⟩
  have ey1 : (pj_fi G0 171 30).toInt = y1.toInt := by rw [hy1]
  have ry1 : (0 : Int) ≤ y1.toInt ∧ y1.toInt ≤ 16 := by rw [hy1]; exact hI.2.1 171 30 (0, 16) rfl
  refine pj_X_of (fun r h => pj_R_to (G0, 2, [(0, .ref 171), (1, .int b), (2, .int c)], [.int (Int32.ofInt 0), .ref 171], 0, 0) 2 3 (fun _ => rfl) h) ?_
  refine pj_X_of (fun r h => pj_T_pf hI rfl rfl rfl h) ?_
  show pj_X _ _ (pj_wv G0 171 0 (.int (Int32.ofInt 0))) 5 [(0, .ref 171), (1, .int b), (2, .int c)] [] _
  obtain ⟨G2, hG2⟩ : ∃ H, H = pj_wv G0 171 0 (.int (Int32.ofInt 0)) := ⟨_, rfl⟩
  have iG2 : pj_Inv G2 := by rw [hG2]; exact pj_Inv_wi hI (ci := 12) rfl (fun q hq => by cases hq)
  have kG2 : pj_kpt kc_225 G0 G2 := by rw [hG2]; exact pj_kpt_v hK rfl
  rw [← hG2]
  refine pj_X_of (fun r h => pj_R_to (G2, 6, [(0, .ref 171), (1, .int b), (2, .int c)], [.ref 171], 0, 0) 6 2 (fun _ => rfl) h) ?_
  have q3 : (pj_fi G2 171 30).toInt = y1.toInt := by rw [show pj_fi G2 171 30 = y1 from by rw [hG2, pj_fi_wv_ne _ _ _ _ _ _ (by decide)]; exact hy1.symm]
  refine pj_X_ca (vs := [.ref 171]) rfl (fun _ => rfl) ⟨Nat.le_of_ble_eq_true rfl, Nat.le_of_ble_eq_true rfl, pj_T_rcv iG2 rfl⟩ ⟨rfl, rfl⟩ (pj_Y_up (by decide) (ct_214 G2 iG2 (by omega))) ?_
  rintro _ G5 ⟨rfl, iG5, jG5⟩
  have kG5 : pj_kpt kc_225 G0 G5 := pj_kpt_t kG2 (pj_kpt_s jG5 rfl)
  have q6 : (pj_fi G5 171 30).toInt = (pj_fi G2 171 30).toInt := by rw [jG5.1 (171, 30) (by decide)]
  obtain ⟨y7, hy7⟩ : ∃ z : Int32, z = pj_fi G5 171 30 := ⟨_, rfl⟩
  have ey7 : (pj_fi G5 171 30).toInt = y7.toInt := by rw [hy7]
  have ry7 : (0 : Int) ≤ y7.toInt ∧ y7.toInt ≤ 16 := by rw [hy7]; exact iG5.2.1 171 30 (0, 16) rfl
  show pj_X _ _ G5 9 [(0, .ref 171), (1, .int b), (2, .int c)] [] _
  refine pj_X_of (fun r h => pj_R_to (G5, 13, [(0, .ref 171), (1, .int b), (2, .int c)], [.int c, .int b, .ref 171, .ref 171], 0, 0) 13 5 (fun _ => rfl) h) ?_
  have q8 : (pj_fi G5 171 30).toInt = y7.toInt := by rw [show pj_fi G5 171 30 = y7 from hy7.symm]
  refine pj_X_ca (vs := [.ref 171, .int b, .int c]) rfl (fun _ => rfl) ⟨Nat.le_of_ble_eq_true rfl, Nat.le_of_ble_eq_true rfl, pj_T_rcv iG5 rfl⟩ ⟨rfl, rfl⟩ (pj_Y_up (by decide) (ct_220 G5 iG5 b c (pj_RI_k p0_ kG5 rfl))) ?_
  rintro _ G10 ⟨y9, rfl, iG10, jG10, ry9⟩
  have kG10 : pj_kpt kc_225 G0 G10 := pj_kpt_t kG5 (pj_kpt_s jG10 rfl)
  have q11 : (pj_fi G10 171 30).toInt = (pj_fi G5 171 30).toInt := by rw [jG10.1 (171, 30) (by decide)]
  obtain ⟨y12, hy12⟩ : ∃ z : Int32, z = pj_fi G10 171 30 := ⟨_, rfl⟩
  have ey12 : (pj_fi G10 171 30).toInt = y12.toInt := by rw [hy12]
  have ry12 : (0 : Int) ≤ y12.toInt ∧ y12.toInt ≤ 16 := by rw [hy12]; exact iG10.2.1 171 30 (0, 16) rfl
  show pj_X _ _ G10 16 [(0, .ref 171), (1, .int b), (2, .int c)] [.int y9, .ref 171] _
  have q13 : (pj_fi G10 171 30).toInt = y12.toInt := by rw [show pj_fi G10 171 30 = y12 from hy12.symm]
  refine pj_X_ca (vs := [.ref 171, .int y9]) rfl (fun _ => rfl) ⟨Nat.le_of_ble_eq_true rfl, Nat.le_of_ble_eq_true rfl, pj_T_rcv iG10 rfl⟩ ⟨rfl, rfl⟩ (pj_Y_up (by decide) (ct_216 G10 iG10 y9 (by omega))) ?_
  rintro _ G15 ⟨y14, rfl, iG15, jG15, ry14, ey14⟩
  have kG15 : pj_kpt kc_225 G0 G15 := pj_kpt_t kG10 (pj_kpt_s jG15 rfl)
  obtain ⟨y16, hy16⟩ : ∃ z : Int32, z = pj_fi G15 171 30 := ⟨_, rfl⟩
  have ey16 : (pj_fi G15 171 30).toInt = y16.toInt := by rw [hy16]
  have ry16 : (0 : Int) ≤ y16.toInt ∧ y16.toInt ≤ 16 := by rw [hy16]; exact iG15.2.1 171 30 (0, 16) rfl
  show pj_X _ _ G15 19 [(0, .ref 171), (1, .int b), (2, .int c)] [.int y14] _
  have q17 : (pj_fi G15 171 30).toInt = y16.toInt := by rw [show pj_fi G15 171 30 = y16 from hy16.symm]
  exact pj_X_rt rfl rfl ⟨_, rfl, iG15, kG15, pj_i32 _, by omega⟩
def kc_226 : pj_KT := ([(171, 0), (171, 30), (171, 32)], [171, 179, 186], [179, 186])
theorem ct_226 (G0 : pj_G) (hI : pj_Inv G0) (b : Int32) (hr : Int32) (p0_ : (pj_fi G0 171 30).toInt ≤ 15) : pj_Y 4 226 [.ref 171, .int b, .int hr] G0 (fun v G' => ∃ y : Int32, v = some (.int y) ∧ pj_Inv G' ∧ pj_kpt kc_226 G0 G' ∧ ((-2147483648 : Int) ≤ y.toInt ∧ y.toInt ≤ 2147483647) ∧ ((pj_fi G' 171 30).toInt ≤ 15)) := by
  have c0_ : (Int32.ofInt 0).toInt = 0 := by decide
  refine pj_Y_X (M := pj_m226) rfl rfl (Nat.le_of_ble_eq_true rfl) ?_
  have hK : pj_kpt kc_226 G0 G0 := pj_kpt_r _ _
  show pj_X _ _ G0 0 [(0, .ref 171), (1, .int b), (2, .int hr)] [] _
  obtain ⟨y1, hy1⟩ : ∃ z : Int32, z = pj_fi G0 171 30 := ⟨_, rfl⟩
  have ey1 : (pj_fi G0 171 30).toInt = y1.toInt := by rw [hy1]
  have ry1 : (0 : Int) ≤ y1.toInt ∧ y1.toInt ≤ 16 := by rw [hy1]; exact hI.2.1 171 30 (0, 16) rfl
  refine pj_X_of (fun r h => pj_R_to (G0, 2, [(0, .ref 171), (1, .int b), (2, .int hr)], [.int (Int32.ofInt 0), .ref 171], 0, 0) 2 3 (fun _ => rfl) h) ?_
  refine pj_X_of (fun r h => pj_T_pf hI rfl rfl rfl h) ?_
  show pj_X _ _ (pj_wv G0 171 0 (.int (Int32.ofInt 0))) 5 [(0, .ref 171), (1, .int b), (2, .int hr)] [] _
  obtain ⟨G2, hG2⟩ : ∃ H, H = pj_wv G0 171 0 (.int (Int32.ofInt 0)) := ⟨_, rfl⟩
  have iG2 : pj_Inv G2 := by rw [hG2]; exact pj_Inv_wi hI (ci := 12) rfl (fun q hq => by cases hq)
  have kG2 : pj_kpt kc_226 G0 G2 := by rw [hG2]; exact pj_kpt_v hK rfl
  rw [← hG2]
  refine pj_X_of (fun r h => pj_R_to (G2, 6, [(0, .ref 171), (1, .int b), (2, .int hr)], [.ref 171], 0, 0) 6 2 (fun _ => rfl) h) ?_
  have q3 : (pj_fi G2 171 30).toInt = y1.toInt := by rw [show pj_fi G2 171 30 = y1 from by rw [hG2, pj_fi_wv_ne _ _ _ _ _ _ (by decide)]; exact hy1.symm]
  refine pj_X_ca (vs := [.ref 171]) rfl (fun _ => rfl) ⟨Nat.le_of_ble_eq_true rfl, Nat.le_of_ble_eq_true rfl, pj_T_rcv iG2 rfl⟩ ⟨rfl, rfl⟩ (pj_Y_up (by decide) (ct_214 G2 iG2 (by omega))) ?_
  rintro _ G5 ⟨rfl, iG5, jG5⟩
  have kG5 : pj_kpt kc_226 G0 G5 := pj_kpt_t kG2 (pj_kpt_s jG5 rfl)
  have q6 : (pj_fi G5 171 30).toInt = (pj_fi G2 171 30).toInt := by rw [jG5.1 (171, 30) (by decide)]
  obtain ⟨y7, hy7⟩ : ∃ z : Int32, z = pj_fi G5 171 30 := ⟨_, rfl⟩
  have ey7 : (pj_fi G5 171 30).toInt = y7.toInt := by rw [hy7]
  have ry7 : (0 : Int) ≤ y7.toInt ∧ y7.toInt ≤ 16 := by rw [hy7]; exact iG5.2.1 171 30 (0, 16) rfl
  show pj_X _ _ G5 9 [(0, .ref 171), (1, .int b), (2, .int hr)] [] _
  refine pj_X_of (fun r h => pj_R_to (G5, 12, [(0, .ref 171), (1, .int b), (2, .int hr)], [.int hr, .int b, .ref 171], 0, 0) 12 4 (fun _ => rfl) h) ?_
  have q8 : (pj_fi G5 171 30).toInt = y7.toInt := by rw [show pj_fi G5 171 30 = y7 from hy7.symm]
  refine pj_X_ca (vs := [.ref 171, .int b, .int hr]) rfl (fun _ => rfl) ⟨Nat.le_of_ble_eq_true rfl, Nat.le_of_ble_eq_true rfl, pj_T_rcv iG5 rfl⟩ ⟨rfl, rfl⟩ (pj_Y_up (by decide) (ct_221 G5 iG5 b hr)) ?_
  rintro _ G10 ⟨y9, rfl, iG10, jG10, ry9⟩
  have kG10 : pj_kpt kc_226 G0 G10 := pj_kpt_t kG5 (pj_kpt_s jG10 rfl)
  have q11 : (pj_fi G10 171 30).toInt = (pj_fi G5 171 30).toInt := by rw [jG10.1 (171, 30) (by decide)]
  obtain ⟨y12, hy12⟩ : ∃ z : Int32, z = pj_fi G10 171 30 := ⟨_, rfl⟩
  have ey12 : (pj_fi G10 171 30).toInt = y12.toInt := by rw [hy12]
  have ry12 : (0 : Int) ≤ y12.toInt ∧ y12.toInt ≤ 16 := by rw [hy12]; exact iG10.2.1 171 30 (0, 16) rfl
  show pj_X _ _ G10 15 [(0, .ref 171), (1, .int b), (2, .int hr)] [.int y9] _
  refine pj_X_of (fun r h => pj_R_to (G10, 17, [(3, .int y9), (0, .ref 171), (1, .int b), (2, .int hr)], [.ref 171], 0, 0) 17 3 (fun _ => rfl) h) ?_
  refine pj_X_of (fun r h => pj_T_gi iG10 rfl rfl h) ?_
  show pj_X _ _ G10 20 [(3, .int y9), (0, .ref 171), (1, .int b), (2, .int hr)] [.int (pj_fi G10 171 32)] _
  obtain ⟨y13, hy13⟩ : ∃ z : Int32, z = pj_fi G10 171 32 := ⟨_, rfl⟩
  refine pj_X_eqi hy13.symm ?_
  have ey13 : (pj_fi G10 171 32).toInt = y13.toInt := by rw [hy13]
  have ry13 : (0 : Int) ≤ y13.toInt ∧ y13.toInt ≤ 1 := by rw [hy13]; exact iG10.2.1 171 32 (0, 1) rfl
  cases b14 : pj_c1 .eq y13 0 with
  | true =>
    have ub14 := pj_u0_eqT b14
    refine pj_X_of (fun r h => pj_R_ifT 31 rfl rfl b14 h) ?_
    refine pj_X_of (fun r h => pj_R_to (G10, 32, [(3, .int y9), (0, .ref 171), (1, .int b), (2, .int hr)], [.int y9], 0, 0) 32 2 (fun _ => rfl) h) ?_
    have q15 : (pj_fi G10 171 30).toInt = y12.toInt := by rw [show pj_fi G10 171 30 = y12 from hy12.symm]
    exact pj_X_rt rfl rfl ⟨_, rfl, iG10, kG10, pj_i32 _, by omega⟩
  | false =>
    have ub14 := pj_u0_eqF b14
    refine pj_X_of (fun r h => pj_R_ifF rfl b14 h) ?_
    refine pj_X_of (fun r h => pj_R_to (G10, 25, [(3, .int y9), (0, .ref 171), (1, .int b), (2, .int hr)], [.int y9, .ref 171], 0, 0) 25 3 (fun _ => rfl) h) ?_
    have q16 : (pj_fi G10 171 30).toInt = y12.toInt := by rw [show pj_fi G10 171 30 = y12 from hy12.symm]
    refine pj_X_ca (vs := [.ref 171, .int y9]) rfl (fun _ => rfl) ⟨Nat.le_of_ble_eq_true rfl, Nat.le_of_ble_eq_true rfl, pj_T_rcv iG10 rfl⟩ ⟨rfl, rfl⟩ (pj_Y_up (by decide) (ct_215 G10 iG10 y9 (by omega))) ?_
    rintro _ G18 ⟨y17, rfl, iG18, jG18, ry17, ey17⟩
    have kG18 : pj_kpt kc_226 G0 G18 := pj_kpt_t kG10 (pj_kpt_s jG18 rfl)
    obtain ⟨y19, hy19⟩ : ∃ z : Int32, z = pj_fi G18 171 30 := ⟨_, rfl⟩
    have ey19 : (pj_fi G18 171 30).toInt = y19.toInt := by rw [hy19]
    have ry19 : (0 : Int) ≤ y19.toInt ∧ y19.toInt ≤ 16 := by rw [hy19]; exact iG18.2.1 171 30 (0, 16) rfl
    show pj_X _ _ G18 28 [(3, .int y9), (0, .ref 171), (1, .int b), (2, .int hr)] [.int y17] _
    refine pj_X_of (fun r h => pj_R_to (G18, 32, [(3, .int y9), (0, .ref 171), (1, .int b), (2, .int hr)], [.int y17], 0, 0) 32 2 (fun _ => rfl) h) ?_
    have q20 : (pj_fi G18 171 30).toInt = y19.toInt := by rw [show pj_fi G18 171 30 = y19 from hy19.symm]
    exact pj_X_rt rfl rfl ⟨_, rfl, iG18, kG18, pj_i32 _, by omega⟩
def kc_227 : pj_KT := ([(171, 0), (171, 30)], [171, 179, 186], [179, 186])
theorem ct_227 (G0 : pj_G) (hI : pj_Inv G0) (p : Int32) (c : Int32) (p0_ : (pj_fi G0 171 30).toInt ≤ 15) : pj_Y 4 227 [.ref 171, .int p, .int c] G0 (fun v G' => ∃ y : Int32, v = some (.int y) ∧ pj_Inv G' ∧ pj_kpt kc_227 G0 G' ∧ ((-2147483648 : Int) ≤ y.toInt ∧ y.toInt ≤ 2147483647) ∧ ((pj_fi G' 171 30).toInt ≤ 15)) := by
  have c0_ : (Int32.ofInt 0).toInt = 0 := by decide
  refine pj_Y_X (M := pj_m227) rfl rfl (Nat.le_of_ble_eq_true rfl) ?_
  have hK : pj_kpt kc_227 G0 G0 := pj_kpt_r _ _
  show pj_X _ _ G0 0 [(0, .ref 171), (1, .int p), (2, .int c)] [] _
  obtain ⟨y1, hy1⟩ : ∃ z : Int32, z = pj_fi G0 171 30 := ⟨_, rfl⟩
  have ey1 : (pj_fi G0 171 30).toInt = y1.toInt := by rw [hy1]
  have ry1 : (0 : Int) ≤ y1.toInt ∧ y1.toInt ≤ 16 := by rw [hy1]; exact hI.2.1 171 30 (0, 16) rfl
  refine pj_X_of (fun r h => pj_R_to (G0, 2, [(0, .ref 171), (1, .int p), (2, .int c)], [.int (Int32.ofInt 0), .ref 171], 0, 0) 2 3 (fun _ => rfl) h) ?_
  refine pj_X_of (fun r h => pj_T_pf hI rfl rfl rfl h) ?_
  show pj_X _ _ (pj_wv G0 171 0 (.int (Int32.ofInt 0))) 5 [(0, .ref 171), (1, .int p), (2, .int c)] [] _
  obtain ⟨G2, hG2⟩ : ∃ H, H = pj_wv G0 171 0 (.int (Int32.ofInt 0)) := ⟨_, rfl⟩
  have iG2 : pj_Inv G2 := by rw [hG2]; exact pj_Inv_wi hI (ci := 12) rfl (fun q hq => by cases hq)
  have kG2 : pj_kpt kc_227 G0 G2 := by rw [hG2]; exact pj_kpt_v hK rfl
  rw [← hG2]
  refine pj_X_of (fun r h => pj_R_to (G2, 6, [(0, .ref 171), (1, .int p), (2, .int c)], [.ref 171], 0, 0) 6 2 (fun _ => rfl) h) ?_
  have q3 : (pj_fi G2 171 30).toInt = y1.toInt := by rw [show pj_fi G2 171 30 = y1 from by rw [hG2, pj_fi_wv_ne _ _ _ _ _ _ (by decide)]; exact hy1.symm]
  refine pj_X_ca (vs := [.ref 171]) rfl (fun _ => rfl) ⟨Nat.le_of_ble_eq_true rfl, Nat.le_of_ble_eq_true rfl, pj_T_rcv iG2 rfl⟩ ⟨rfl, rfl⟩ (pj_Y_up (by decide) (ct_214 G2 iG2 (by omega))) ?_
  rintro _ G5 ⟨rfl, iG5, jG5⟩
  have kG5 : pj_kpt kc_227 G0 G5 := pj_kpt_t kG2 (pj_kpt_s jG5 rfl)
  have q6 : (pj_fi G5 171 30).toInt = (pj_fi G2 171 30).toInt := by rw [jG5.1 (171, 30) (by decide)]
  obtain ⟨y7, hy7⟩ : ∃ z : Int32, z = pj_fi G5 171 30 := ⟨_, rfl⟩
  have ey7 : (pj_fi G5 171 30).toInt = y7.toInt := by rw [hy7]
  have ry7 : (0 : Int) ≤ y7.toInt ∧ y7.toInt ≤ 16 := by rw [hy7]; exact iG5.2.1 171 30 (0, 16) rfl
  show pj_X _ _ G5 9 [(0, .ref 171), (1, .int p), (2, .int c)] [] _
  refine pj_X_of (fun r h => pj_R_to (G5, 13, [(0, .ref 171), (1, .int p), (2, .int c)], [.int c, .int p, .ref 171, .ref 171], 0, 0) 13 5 (fun _ => rfl) h) ?_
  have q8 : (pj_fi G5 171 30).toInt = y7.toInt := by rw [show pj_fi G5 171 30 = y7 from hy7.symm]
  refine pj_X_ca (vs := [.ref 171, .int p, .int c]) rfl (fun _ => rfl) ⟨Nat.le_of_ble_eq_true rfl, Nat.le_of_ble_eq_true rfl, pj_T_rcv iG5 rfl⟩ ⟨rfl, rfl⟩ (pj_Y_up (by decide) (ct_222 G5 iG5 p c)) ?_
  rintro _ G10 ⟨y9, rfl, iG10, jG10, ry9⟩
  have kG10 : pj_kpt kc_227 G0 G10 := pj_kpt_t kG5 (pj_kpt_s jG10 rfl)
  have q11 : (pj_fi G10 171 30).toInt = (pj_fi G5 171 30).toInt := by rw [jG10.1 (171, 30) (by decide)]
  obtain ⟨y12, hy12⟩ : ∃ z : Int32, z = pj_fi G10 171 30 := ⟨_, rfl⟩
  have ey12 : (pj_fi G10 171 30).toInt = y12.toInt := by rw [hy12]
  have ry12 : (0 : Int) ≤ y12.toInt ∧ y12.toInt ≤ 16 := by rw [hy12]; exact iG10.2.1 171 30 (0, 16) rfl
  show pj_X _ _ G10 16 [(0, .ref 171), (1, .int p), (2, .int c)] [.int y9, .ref 171] _
  have q13 : (pj_fi G10 171 30).toInt = y12.toInt := by rw [show pj_fi G10 171 30 = y12 from hy12.symm]
  refine pj_X_ca (vs := [.ref 171, .int y9]) rfl (fun _ => rfl) ⟨Nat.le_of_ble_eq_true rfl, Nat.le_of_ble_eq_true rfl, pj_T_rcv iG10 rfl⟩ ⟨rfl, rfl⟩ (pj_Y_up (by decide) (ct_216 G10 iG10 y9 (by omega))) ?_
  rintro _ G15 ⟨y14, rfl, iG15, jG15, ry14, ey14⟩
  have kG15 : pj_kpt kc_227 G0 G15 := pj_kpt_t kG10 (pj_kpt_s jG15 rfl)
  obtain ⟨y16, hy16⟩ : ∃ z : Int32, z = pj_fi G15 171 30 := ⟨_, rfl⟩
  have ey16 : (pj_fi G15 171 30).toInt = y16.toInt := by rw [hy16]
  have ry16 : (0 : Int) ≤ y16.toInt ∧ y16.toInt ≤ 16 := by rw [hy16]; exact iG15.2.1 171 30 (0, 16) rfl
  show pj_X _ _ G15 19 [(0, .ref 171), (1, .int p), (2, .int c)] [.int y14] _
  have q17 : (pj_fi G15 171 30).toInt = y16.toInt := by rw [show pj_fi G15 171 30 = y16 from hy16.symm]
  exact pj_X_rt rfl rfl ⟨_, rfl, iG15, kG15, pj_i32 _, by omega⟩
def kc_228 : pj_KT := ([(171, 0), (171, 1), (171, 30), (171, 33), (171, 34), (171, 35)], [171, 172, 179, 186], [179, 186])
theorem lp_ct_228 (G0 : pj_G) (hI0 : pj_Inv G0) (n : Int32) (p0_ : (pj_fi G0 171 30).toInt ≤ 15) : ∀ mn : Nat, (∀ (G : pj_G) (hI : pj_Inv G) (hK : pj_kpt kc_228 G0 G) (v2 : Int32), ((0 : Int) ≤ v2.toInt ∧ v2.toInt ≤ 99) → ((pj_fi G 171 30).toInt ≤ 15) → (0 ≤ n.toInt ∧ n.toInt ≤ 99) → 99 - v2.toInt < (mn : Int) → pj_X 3 pj_m228 G 29 [(0, .ref 171), (1, .int n), (2, .int v2)] [] (fun v G' => ∃ y : Int32, v = some (.int y) ∧ pj_Inv G' ∧ pj_kpt kc_228 G0 G' ∧ ((-2147483648 : Int) ≤ y.toInt ∧ y.toInt ≤ 2147483647) ∧ ((pj_fi G' 171 30).toInt ≤ 15))) := by
  have c0_ : ((Int8.ofInt 30).toInt32).toInt = 30 := by decide
  have c1_ : (Int32.ofInt (-1)).toInt = -1 := by decide
  have c2_ : (Int32.ofInt 0).toInt = 0 := by decide
  have c3_ : (Int32.ofInt 1).toInt = 1 := by decide
  intro mn
  induction mn with
  | zero =>
    intro G hI hK v2 rv2 x0_ x1_ hm
    exfalso
    omega
  | succ mn ih =>
    intro G hI hK v2 rv2 x0_ x1_ hm
    obtain ⟨y1, hy1⟩ : ∃ z : Int32, z = pj_fi G 171 30 := ⟨_, rfl⟩
    have ey1 : (pj_fi G 171 30).toInt = y1.toInt := by rw [hy1]
    have ry1 : (0 : Int) ≤ y1.toInt ∧ y1.toInt ≤ 16 := by rw [hy1]; exact hI.2.1 171 30 (0, 16) rfl
    obtain ⟨y2, hy2⟩ : ∃ z : Int32, z = pj_fi G 171 1 := ⟨_, rfl⟩
    have ey2 : (pj_fi G 171 1).toInt = y2.toInt := by rw [hy2]
    have ry2 : (0 : Int) ≤ y2.toInt ∧ y2.toInt ≤ 24 := by rw [hy2]; exact hI.2.1 171 1 (0, 24) rfl
    refine pj_X_of (fun r h => pj_R_to (G, 31, [(0, .ref 171), (1, .int n), (2, .int v2)], [.int n, .int v2], 0, 0) 31 3 (fun _ => rfl) h) ?_
    cases b3 : pj_c1 .ge v2 n with
    | true =>
      have ub3 := pj_u_geT b3
      refine pj_X_of (fun r h => pj_R_icT 44 rfl rfl b3 h) ?_
      refine pj_X_of (fun r h => pj_R_to (G, 46, [(0, .ref 171), (1, .int n), (2, .int v2)], [.int (Int32.ofInt 0), .ref 171], 0, 0) 46 3 (fun _ => rfl) h) ?_
      refine pj_X_of (fun r h => pj_T_pf hI rfl rfl rfl h) ?_
      show pj_X _ _ (pj_wv G 171 1 (.int (Int32.ofInt 0))) 49 [(0, .ref 171), (1, .int n), (2, .int v2)] [] _
      obtain ⟨G4, hG4⟩ : ∃ H, H = pj_wv G 171 1 (.int (Int32.ofInt 0)) := ⟨_, rfl⟩
      have iG4 : pj_Inv G4 := by rw [hG4]; exact pj_Inv_wi hI (ci := 12) rfl (fun q hq => by cases hq; exact ⟨by show (0 : Int) ≤ _; omega, by show _ ≤ (24 : Int); omega⟩)
      have kG4 : pj_kpt kc_228 G0 G4 := by rw [hG4]; exact pj_kpt_v hK rfl
      rw [← hG4]
      refine pj_X_of (fun r h => pj_R_to (G4, 51, [(0, .ref 171), (1, .int n), (2, .int v2)], [.ref 171, .ref 171], 0, 0) 51 3 (fun _ => rfl) h) ?_
      refine pj_X_of (fun r h => pj_T_gi iG4 rfl rfl h) ?_
      show pj_X _ _ G4 54 [(0, .ref 171), (1, .int n), (2, .int v2)] [.int (pj_fi G4 171 33), .ref 171] _
      obtain ⟨y5, hy5⟩ : ∃ z : Int32, z = pj_fi G4 171 33 := ⟨_, rfl⟩
      refine pj_X_eqi hy5.symm ?_
      have ey5 : (pj_fi G4 171 33).toInt = y5.toInt := by rw [hy5]
      refine pj_X_of (fun r h => pj_R_to (G4, 55, [(0, .ref 171), (1, .int n), (2, .int v2)], [.long y5.toInt64, .ref 171], 0, 0) 55 2 (fun _ => rfl) h) ?_
      have q6 : (pj_fi G4 171 30).toInt = y1.toInt := by rw [show pj_fi G4 171 30 = y1 from by rw [hG4, pj_fi_wv_ne _ _ _ _ _ _ (by decide)]; exact hy1.symm]
      have q7 : (pj_fi G4 171 1).toInt = (Int32.ofInt 0).toInt := by rw [show pj_fi G4 171 1 = Int32.ofInt 0 from by rw [hG4]; exact pj_fi_wi hI.1 (ci := 12) rfl _]
      have lc8 : (y5.toInt64).toInt = y5.toInt := Int32.toInt_toInt64 _
      refine pj_X_ca (vs := [.ref 171, .long y5.toInt64]) rfl (fun _ => rfl) ⟨Nat.le_of_ble_eq_true rfl, Nat.le_of_ble_eq_true rfl, pj_T_rcv iG4 rfl⟩ ⟨rfl, rfl⟩ (pj_Y_up (by decide) (ct_174 G4 iG4 y5.toInt64 (by omega))) ?_
      rintro _ G10 ⟨rfl, iG10, jG10, eG10⟩
      have kG10 : pj_kpt kc_228 G0 G10 := pj_kpt_t kG4 (pj_kpt_s jG10 rfl)
      have q11 : (pj_fi G10 171 30).toInt = (pj_fi G4 171 30).toInt := by rw [jG10.1 (171, 30) (by decide)]
      obtain ⟨y12, hy12⟩ : ∃ z : Int32, z = pj_fi G10 171 30 := ⟨_, rfl⟩
      have ey12 : (pj_fi G10 171 30).toInt = y12.toInt := by rw [hy12]
      have ry12 : (0 : Int) ≤ y12.toInt ∧ y12.toInt ≤ 16 := by rw [hy12]; exact iG10.2.1 171 30 (0, 16) rfl
      obtain ⟨y13, hy13⟩ : ∃ z : Int32, z = pj_fi G10 171 1 := ⟨_, rfl⟩
      have ey13 : (pj_fi G10 171 1).toInt = y13.toInt := by rw [hy13]
      have ry13 : (0 : Int) ≤ y13.toInt ∧ y13.toInt ≤ 24 := by rw [hy13]; exact iG10.2.1 171 1 (0, 24) rfl
      show pj_X _ _ G10 58 [(0, .ref 171), (1, .int n), (2, .int v2)] [] _
      refine pj_X_of (fun r h => pj_R_to (G10, 60, [(0, .ref 171), (1, .int n), (2, .int v2)], [.ref 171, .ref 171], 0, 0) 60 3 (fun _ => rfl) h) ?_
      refine pj_X_of (fun r h => pj_T_gi iG10 rfl rfl h) ?_
      show pj_X _ _ G10 63 [(0, .ref 171), (1, .int n), (2, .int v2)] [.int (pj_fi G10 171 34), .ref 171] _
      obtain ⟨y14, hy14⟩ : ∃ z : Int32, z = pj_fi G10 171 34 := ⟨_, rfl⟩
      refine pj_X_eqi hy14.symm ?_
      have ey14 : (pj_fi G10 171 34).toInt = y14.toInt := by rw [hy14]
      refine pj_X_of (fun r h => pj_R_to (G10, 64, [(0, .ref 171), (1, .int n), (2, .int v2)], [.long y14.toInt64, .ref 171], 0, 0) 64 2 (fun _ => rfl) h) ?_
      have q15 : (pj_fi G10 171 30).toInt = y12.toInt := by rw [show pj_fi G10 171 30 = y12 from hy12.symm]
      have q16 : (pj_fi G10 171 1).toInt = y13.toInt := by rw [show pj_fi G10 171 1 = y13 from hy13.symm]
      have lc17 : (y14.toInt64).toInt = y14.toInt := Int32.toInt_toInt64 _
      refine pj_X_ca (vs := [.ref 171, .long y14.toInt64]) rfl (fun _ => rfl) ⟨Nat.le_of_ble_eq_true rfl, Nat.le_of_ble_eq_true rfl, pj_T_rcv iG10 rfl⟩ ⟨rfl, rfl⟩ (pj_Y_up (by decide) (ct_174 G10 iG10 y14.toInt64 (by omega))) ?_
      rintro _ G19 ⟨rfl, iG19, jG19, eG19⟩
      have kG19 : pj_kpt kc_228 G0 G19 := pj_kpt_t kG10 (pj_kpt_s jG19 rfl)
      have q20 : (pj_fi G19 171 30).toInt = (pj_fi G10 171 30).toInt := by rw [jG19.1 (171, 30) (by decide)]
      obtain ⟨y21, hy21⟩ : ∃ z : Int32, z = pj_fi G19 171 30 := ⟨_, rfl⟩
      have ey21 : (pj_fi G19 171 30).toInt = y21.toInt := by rw [hy21]
      have ry21 : (0 : Int) ≤ y21.toInt ∧ y21.toInt ≤ 16 := by rw [hy21]; exact iG19.2.1 171 30 (0, 16) rfl
      obtain ⟨y22, hy22⟩ : ∃ z : Int32, z = pj_fi G19 171 1 := ⟨_, rfl⟩
      have ey22 : (pj_fi G19 171 1).toInt = y22.toInt := by rw [hy22]
      have ry22 : (0 : Int) ≤ y22.toInt ∧ y22.toInt ≤ 24 := by rw [hy22]; exact iG19.2.1 171 1 (0, 24) rfl
      show pj_X _ _ G19 67 [(0, .ref 171), (1, .int n), (2, .int v2)] [] _
      refine pj_X_of (fun r h => pj_R_to (G19, 69, [(0, .ref 171), (1, .int n), (2, .int v2)], [.ref 171, .ref 171], 0, 0) 69 3 (fun _ => rfl) h) ?_
      refine pj_X_of (fun r h => pj_T_gr iG19 rfl rfl rfl h) ?_
      refine pj_X_of (fun r h => pj_R_to (G19, 74, [(0, .ref 171), (1, .int n), (2, .int v2)], [.int ((Int8.ofInt 30).toInt32), .ref 179, .ref 171], 0, 0) 74 2 (fun _ => rfl) h) ?_
      refine pj_X_of (fun r h => pj_T_il iG19 rfl rfl (by omega) (by omega) h) ?_
      show pj_X _ _ G19 75 [(0, .ref 171), (1, .int n), (2, .int v2)] [.int (pj_ai G19 179 ((Int8.ofInt 30).toInt32).toInt.toNat), .ref 171] _
      obtain ⟨z23, hz23⟩ : ∃ z : Int32, z = pj_ai G19 179 ((Int8.ofInt 30).toInt32).toInt.toNat := ⟨_, rfl⟩
      refine pj_X_eqi hz23.symm ?_
      have ez23 : (pj_ai G19 179 ((Int8.ofInt 30).toInt32).toInt.toNat).toInt = z23.toInt := by rw [hz23]
      have q24 : (pj_fi G19 171 30).toInt = y21.toInt := by rw [show pj_fi G19 171 30 = y21 from hy21.symm]
      have q25 : (pj_fi G19 171 1).toInt = y22.toInt := by rw [show pj_fi G19 171 1 = y22 from hy22.symm]
      refine pj_X_ca (vs := [.ref 171, .int z23]) rfl (fun _ => rfl) ⟨Nat.le_of_ble_eq_true rfl, Nat.le_of_ble_eq_true rfl, pj_T_rcv iG19 rfl⟩ ⟨rfl, rfl⟩ (pj_Y_up (by decide) (ct_215 G19 iG19 z23 (by omega))) ?_
      rintro _ G27 ⟨y26, rfl, iG27, jG27, ry26, ey26⟩
      have kG27 : pj_kpt kc_228 G0 G27 := pj_kpt_t kG19 (pj_kpt_s jG27 rfl)
      have q28 : (pj_fi G27 171 1).toInt = (pj_fi G19 171 1).toInt := by rw [jG27.1 (171, 1) (by decide)]
      obtain ⟨y29, hy29⟩ : ∃ z : Int32, z = pj_fi G27 171 30 := ⟨_, rfl⟩
      have ey29 : (pj_fi G27 171 30).toInt = y29.toInt := by rw [hy29]
      have ry29 : (0 : Int) ≤ y29.toInt ∧ y29.toInt ≤ 16 := by rw [hy29]; exact iG27.2.1 171 30 (0, 16) rfl
      obtain ⟨y30, hy30⟩ : ∃ z : Int32, z = pj_fi G27 171 1 := ⟨_, rfl⟩
      have ey30 : (pj_fi G27 171 1).toInt = y30.toInt := by rw [hy30]
      have ry30 : (0 : Int) ≤ y30.toInt ∧ y30.toInt ≤ 24 := by rw [hy30]; exact iG27.2.1 171 1 (0, 24) rfl
      show pj_X _ _ G27 78 [(0, .ref 171), (1, .int n), (2, .int v2)] [.int y26] _
      have q31 : (pj_fi G27 171 30).toInt = y29.toInt := by rw [show pj_fi G27 171 30 = y29 from hy29.symm]
      have q32 : (pj_fi G27 171 1).toInt = y30.toInt := by rw [show pj_fi G27 171 1 = y30 from hy30.symm]
      exact pj_X_rt rfl rfl ⟨_, rfl, iG27, kG27, pj_i32 _, by omega⟩
    | false =>
      have ub3 := pj_u_geF b3
      refine pj_X_of (fun r h => pj_R_icF rfl b3 h) ?_
      refine pj_X_of (fun r h => pj_R_to (G, 35, [(0, .ref 171), (1, .int n), (2, .int v2)], [.ref 171], 0, 0) 35 2 (fun _ => rfl) h) ?_
      have q33 : (pj_fi G 171 30).toInt = y1.toInt := by rw [show pj_fi G 171 30 = y1 from hy1.symm]
      have q34 : (pj_fi G 171 1).toInt = y2.toInt := by rw [show pj_fi G 171 1 = y2 from hy2.symm]
      refine pj_X_ca (vs := [.ref 171]) rfl (fun _ => rfl) ⟨Nat.le_of_ble_eq_true rfl, Nat.le_of_ble_eq_true rfl, pj_T_rcv hI rfl⟩ ⟨rfl, rfl⟩ (pj_Y_up (by decide) (ct_224 G hI)) ?_
      rintro _ G36 ⟨rfl, iG36, jG36⟩
      have kG36 : pj_kpt kc_228 G0 G36 := pj_kpt_t hK (pj_kpt_s jG36 rfl)
      have q37 : (pj_fi G36 171 30).toInt = (pj_fi G 171 30).toInt := by rw [jG36.1 (171, 30) (by decide)]
      have q38 : (pj_fi G36 171 1).toInt = (pj_fi G 171 1).toInt := by rw [jG36.1 (171, 1) (by decide)]
      obtain ⟨y39, hy39⟩ : ∃ z : Int32, z = pj_fi G36 171 30 := ⟨_, rfl⟩
      have ey39 : (pj_fi G36 171 30).toInt = y39.toInt := by rw [hy39]
      have ry39 : (0 : Int) ≤ y39.toInt ∧ y39.toInt ≤ 16 := by rw [hy39]; exact iG36.2.1 171 30 (0, 16) rfl
      obtain ⟨y40, hy40⟩ : ∃ z : Int32, z = pj_fi G36 171 1 := ⟨_, rfl⟩
      have ey40 : (pj_fi G36 171 1).toInt = y40.toInt := by rw [hy40]
      have ry40 : (0 : Int) ≤ y40.toInt ∧ y40.toInt ≤ 24 := by rw [hy40]; exact iG36.2.1 171 1 (0, 24) rfl
      show pj_X _ _ G36 38 [(0, .ref 171), (1, .int n), (2, .int v2)] [] _
      refine pj_X_of (fun r h => pj_R_to (G36, 41, [(2, .int (v2 + Int32.ofInt 1)), (0, .ref 171), (1, .int n)], [], 0, 0) 41 2 (fun _ => rfl) h) ?_
      obtain ⟨z41, hz41⟩ : ∃ z : Int32, z = v2 + Int32.ofInt 1 := ⟨_, rfl⟩
      rw [← hz41]
      have fz41_0 : z41.toInt = v2.toInt + (Int32.ofInt 1).toInt := by rw [hz41]; exact pj_addI (by have := pj_i32 v2; have := pj_i32 (Int32.ofInt 1); omega) (by have := pj_i32 v2; have := pj_i32 (Int32.ofInt 1); omega)
      refine pj_X_of (fun r h => pj_R_to (G36, 29, [(2, .int z41), (0, .ref 171), (1, .int n)], [], 0, 0) 29 2 (fun _ => rfl) h) ?_
      have q42 : (pj_fi G36 171 30).toInt = y39.toInt := by rw [show pj_fi G36 171 30 = y39 from hy39.symm]
      have q43 : (pj_fi G36 171 1).toInt = y40.toInt := by rw [show pj_fi G36 171 1 = y40 from hy40.symm]
      exact pj_X_sub [(0, .ref 171), (1, .int n), (2, .int z41)] (show List.Nodup [0, 1, 2] by decide) ⟨rfl, rfl, rfl, trivial⟩ (ih G36 iG36 kG36 z41 ⟨by omega, by omega⟩ (by omega) (by omega) (by omega))
theorem ct_228 (G0 : pj_G) (hI : pj_Inv G0) (n : Int32) (p0_ : (pj_fi G0 171 30).toInt ≤ 15) : pj_Y 4 228 [.ref 171, .int n] G0 (fun v G' => ∃ y : Int32, v = some (.int y) ∧ pj_Inv G' ∧ pj_kpt kc_228 G0 G' ∧ ((-2147483648 : Int) ≤ y.toInt ∧ y.toInt ≤ 2147483647) ∧ ((pj_fi G' 171 30).toInt ≤ 15)) := by
  have c0_ : ((Int8.ofInt 30).toInt32).toInt = 30 := by decide
  have c1_ : (Int32.ofInt (-1)).toInt = -1 := by decide
  have c2_ : (Int32.ofInt 0).toInt = 0 := by decide
  have c3_ : (Int32.ofInt 1).toInt = 1 := by decide
  refine pj_Y_X (M := pj_m228) rfl rfl (Nat.le_of_ble_eq_true rfl) ?_
  have hK : pj_kpt kc_228 G0 G0 := pj_kpt_r _ _
  show pj_X _ _ G0 0 [(0, .ref 171), (1, .int n)] [] _
  obtain ⟨y44, hy44⟩ : ∃ z : Int32, z = pj_fi G0 171 30 := ⟨_, rfl⟩
  have ey44 : (pj_fi G0 171 30).toInt = y44.toInt := by rw [hy44]
  have ry44 : (0 : Int) ≤ y44.toInt ∧ y44.toInt ≤ 16 := by rw [hy44]; exact hI.2.1 171 30 (0, 16) rfl
  obtain ⟨y45, hy45⟩ : ∃ z : Int32, z = pj_fi G0 171 1 := ⟨_, rfl⟩
  have ey45 : (pj_fi G0 171 1).toInt = y45.toInt := by rw [hy45]
  have ry45 : (0 : Int) ≤ y45.toInt ∧ y45.toInt ≤ 24 := by rw [hy45]; exact hI.2.1 171 1 (0, 24) rfl
  refine pj_X_of (fun r h => pj_R_to (G0, 2, [(0, .ref 171), (1, .int n)], [.int (Int32.ofInt 0), .ref 171], 0, 0) 2 3 (fun _ => rfl) h) ?_
  refine pj_X_of (fun r h => pj_T_pf hI rfl rfl rfl h) ?_
  show pj_X _ _ (pj_wv G0 171 0 (.int (Int32.ofInt 0))) 5 [(0, .ref 171), (1, .int n)] [] _
  obtain ⟨G46, hG46⟩ : ∃ H, H = pj_wv G0 171 0 (.int (Int32.ofInt 0)) := ⟨_, rfl⟩
  have iG46 : pj_Inv G46 := by rw [hG46]; exact pj_Inv_wi hI (ci := 12) rfl (fun q hq => by cases hq)
  have kG46 : pj_kpt kc_228 G0 G46 := by rw [hG46]; exact pj_kpt_v hK rfl
  rw [← hG46]
  refine pj_X_of (fun r h => pj_R_to (G46, 11, [(0, .ref 171), (1, .int n)], [.long (Int64.ofInt 99), .long (Int64.ofNat 0), .long n.toInt64], 0, 0) 11 5 (fun _ => rfl) h) ?_
  have q47 : (pj_fi G46 171 30).toInt = y44.toInt := by rw [show pj_fi G46 171 30 = y44 from by rw [hG46, pj_fi_wv_ne _ _ _ _ _ _ (by decide)]; exact hy44.symm]
  have q48 : (pj_fi G46 171 1).toInt = y45.toInt := by rw [show pj_fi G46 171 1 = y45 from by rw [hG46, pj_fi_wv_ne _ _ _ _ _ _ (by decide)]; exact hy45.symm]
  have lc49 : (n.toInt64).toInt = n.toInt := Int32.toInt_toInt64 _
  have lc50 : (Int64.ofNat 0).toInt = 0 := by decide
  have lc51 : (Int64.ofInt 99).toInt = 99 := by decide
  refine pj_X_ca (vs := [.long n.toInt64, .long (Int64.ofNat 0), .long (Int64.ofInt 99)]) rfl (fun _ => rfl) ⟨Nat.le_of_ble_eq_true rfl, Nat.le_of_ble_eq_true rfl, rfl⟩ ⟨rfl, rfl⟩ (pj_Y_up (by decide) (ct_170 G46 iG46 n.toInt64 (Int64.ofNat 0) (Int64.ofInt 99))) ?_
  rintro _ _ ⟨y52, rfl, rfl, ry52, ey52⟩
  show pj_X _ _ G46 14 [(0, .ref 171), (1, .int n)] [.int y52] _
  cases b53 : pj_c1 .ne y52 0 with
  | true =>
    have ub53 := pj_u0_neT b53
    refine pj_X_of (fun r h => pj_R_ifT 19 rfl rfl b53 h) ?_
    refine pj_X_of (fun r h => pj_R_to (G46, 20, [(0, .ref 171), (1, .int n)], [.ref 171], 0, 0) 20 2 (fun _ => rfl) h) ?_
    have q54 : (pj_fi G46 171 30).toInt = y44.toInt := by rw [show pj_fi G46 171 30 = y44 from by rw [hG46, pj_fi_wv_ne _ _ _ _ _ _ (by decide)]; exact hy44.symm]
    have q55 : (pj_fi G46 171 1).toInt = y45.toInt := by rw [show pj_fi G46 171 1 = y45 from by rw [hG46, pj_fi_wv_ne _ _ _ _ _ _ (by decide)]; exact hy45.symm]
    refine pj_X_ca (vs := [.ref 171]) rfl (fun _ => rfl) ⟨Nat.le_of_ble_eq_true rfl, Nat.le_of_ble_eq_true rfl, pj_T_rcv iG46 rfl⟩ ⟨rfl, rfl⟩ (pj_Y_up (by decide) (ct_214 G46 iG46 (by omega))) ?_
    rintro _ G57 ⟨rfl, iG57, jG57⟩
    have kG57 : pj_kpt kc_228 G0 G57 := pj_kpt_t kG46 (pj_kpt_s jG57 rfl)
    have q58 : (pj_fi G57 171 30).toInt = (pj_fi G46 171 30).toInt := by rw [jG57.1 (171, 30) (by decide)]
    have q59 : (pj_fi G57 171 1).toInt = (pj_fi G46 171 1).toInt := by rw [jG57.1 (171, 1) (by decide)]
    obtain ⟨y60, hy60⟩ : ∃ z : Int32, z = pj_fi G57 171 30 := ⟨_, rfl⟩
    have ey60 : (pj_fi G57 171 30).toInt = y60.toInt := by rw [hy60]
    have ry60 : (0 : Int) ≤ y60.toInt ∧ y60.toInt ≤ 16 := by rw [hy60]; exact iG57.2.1 171 30 (0, 16) rfl
    obtain ⟨y61, hy61⟩ : ∃ z : Int32, z = pj_fi G57 171 1 := ⟨_, rfl⟩
    have ey61 : (pj_fi G57 171 1).toInt = y61.toInt := by rw [hy61]
    have ry61 : (0 : Int) ≤ y61.toInt ∧ y61.toInt ≤ 24 := by rw [hy61]; exact iG57.2.1 171 1 (0, 24) rfl
    show pj_X _ _ G57 23 [(0, .ref 171), (1, .int n)] [] _
    refine pj_X_of (fun r h => pj_R_to (G57, 24, [(0, .ref 171), (1, .int n)], [.ref 171], 0, 0) 24 2 (fun _ => rfl) h) ?_
    have q62 : (pj_fi G57 171 30).toInt = y60.toInt := by rw [show pj_fi G57 171 30 = y60 from hy60.symm]
    have q63 : (pj_fi G57 171 1).toInt = y61.toInt := by rw [show pj_fi G57 171 1 = y61 from hy61.symm]
    refine pj_X_ca (vs := [.ref 171]) rfl (fun _ => rfl) ⟨Nat.le_of_ble_eq_true rfl, Nat.le_of_ble_eq_true rfl, pj_T_rcv iG57 rfl⟩ ⟨rfl, rfl⟩ (pj_Y_up (by decide) (ct_223 G57 iG57)) ?_
    rintro _ G65 ⟨rfl, iG65, jG65⟩
    have kG65 : pj_kpt kc_228 G0 G65 := pj_kpt_t kG57 (pj_kpt_s jG65 rfl)
    have q66 : (pj_fi G65 171 30).toInt = (pj_fi G57 171 30).toInt := by rw [jG65.1 (171, 30) (by decide)]
    have q67 : (pj_fi G65 171 1).toInt = (pj_fi G57 171 1).toInt := by rw [jG65.1 (171, 1) (by decide)]
    obtain ⟨y68, hy68⟩ : ∃ z : Int32, z = pj_fi G65 171 30 := ⟨_, rfl⟩
    have ey68 : (pj_fi G65 171 30).toInt = y68.toInt := by rw [hy68]
    have ry68 : (0 : Int) ≤ y68.toInt ∧ y68.toInt ≤ 16 := by rw [hy68]; exact iG65.2.1 171 30 (0, 16) rfl
    obtain ⟨y69, hy69⟩ : ∃ z : Int32, z = pj_fi G65 171 1 := ⟨_, rfl⟩
    have ey69 : (pj_fi G65 171 1).toInt = y69.toInt := by rw [hy69]
    have ry69 : (0 : Int) ≤ y69.toInt ∧ y69.toInt ≤ 24 := by rw [hy69]; exact iG65.2.1 171 1 (0, 24) rfl
    show pj_X _ _ G65 27 [(0, .ref 171), (1, .int n)] [] _
    refine pj_X_of (fun r h => pj_R_to (G65, 29, [(2, .int (Int32.ofInt 0)), (0, .ref 171), (1, .int n)], [], 0, 0) 29 3 (fun _ => rfl) h) ?_
    have q70 : (pj_fi G65 171 30).toInt = y68.toInt := by rw [show pj_fi G65 171 30 = y68 from hy68.symm]
    have q71 : (pj_fi G65 171 1).toInt = y69.toInt := by rw [show pj_fi G65 171 1 = y69 from hy69.symm]
    exact pj_X_sub [(0, .ref 171), (1, .int n), (2, .int (Int32.ofInt 0))] (show List.Nodup [0, 1, 2] by decide) ⟨rfl, rfl, rfl, trivial⟩ ((lp_ct_228 G0 hI n  p0_ 100) G65 iG65 kG65 (Int32.ofInt 0) ⟨by omega, by omega⟩ (by omega) (by omega) (by omega))
  | false =>
    have ub53 := pj_u0_neF b53
    refine pj_X_of (fun r h => pj_R_ifF rfl b53 h) ?_
    refine pj_X_of (fun r h => pj_R_to (G46, 18, [(0, .ref 171), (1, .int n)], [.int (Int32.ofInt (-1))], 0, 0) 18 2 (fun _ => rfl) h) ?_
    have q72 : (pj_fi G46 171 30).toInt = y44.toInt := by rw [show pj_fi G46 171 30 = y44 from by rw [hG46, pj_fi_wv_ne _ _ _ _ _ _ (by decide)]; exact hy44.symm]
    have q73 : (pj_fi G46 171 1).toInt = y45.toInt := by rw [show pj_fi G46 171 1 = y45 from by rw [hG46, pj_fi_wv_ne _ _ _ _ _ _ (by decide)]; exact hy45.symm]
    exact pj_X_rt rfl rfl ⟨_, rfl, iG46, kG46, pj_i32 _, by omega⟩
