def kc_169 : pj_KT := ([(171, 0)], [171], [])
theorem ct_169 (G0 : pj_G) (hI : pj_Inv G0) : pj_Y 1 169 [.ref 171] G0 (fun v G' => ∃ y : Int32, v = some (.int y) ∧ pj_Inv G' ∧ pj_kpt kc_169 G0 G' ∧ ((-2147483648 : Int) ≤ y.toInt ∧ y.toInt ≤ 2147483647)) := by
  have c0_ : (Int32.ofInt 0).toInt = 0 := by decide
  have c1_ : (Int32.ofInt 1).toInt = 1 := by decide
  refine pj_Y_X (M := pj_m169) rfl rfl (Nat.le_of_ble_eq_true rfl) ?_
  have hK : pj_kpt kc_169 G0 G0 := pj_kpt_r _ _
  show pj_X _ _ G0 0 [(0, .ref 171)] [] _
  refine pj_X_of (fun r h => pj_R_to (G0, 2, [(0, .ref 171)], [.int (Int32.ofInt 1), .ref 171], 0, 0) 2 3 (fun _ => rfl) h) ?_
  refine pj_X_of (fun r h => pj_T_pf hI rfl rfl rfl h) ?_
  show pj_X _ _ (pj_wv G0 171 0 (.int (Int32.ofInt 1))) 5 [(0, .ref 171)] [] _
  obtain ⟨G1, hG1⟩ : ∃ H, H = pj_wv G0 171 0 (.int (Int32.ofInt 1)) := ⟨_, rfl⟩
  have iG1 : pj_Inv G1 := by rw [hG1]; exact pj_Inv_wi hI (ci := 12) rfl (fun q hq => by cases hq)
  have kG1 : pj_kpt kc_169 G0 G1 := by rw [hG1]; exact pj_kpt_v hK rfl
  rw [← hG1]
  refine pj_X_of (fun r h => pj_R_to (G1, 6, [(0, .ref 171)], [.int (Int32.ofInt 0)], 0, 0) 6 2 (fun _ => rfl) h) ?_
  exact pj_X_rt rfl rfl ⟨_, rfl, iG1, kG1, pj_i32 _⟩
theorem lp_ct_207 (G0 : pj_G) (hI : pj_Inv G0) (so : Int32) (op : Int32) : ∀ mn : Nat, (∀ (v3 : Int32) (v4 : Int32), ((-2147483648 : Int) ≤ v3.toInt ∧ v3.toInt ≤ 2147483647) → ((0 : Int) ≤ v4.toInt ∧ v4.toInt ≤ 10) → 10 - v4.toInt < (mn : Int) → pj_X 1 pj_m207 G0 5 [(0, .ref 171), (1, .int so), (2, .int op), (3, .int v3), (4, .int v4)] [] (fun v G' => ∃ y : Int32, v = some (.int y) ∧ G0 = G' ∧ ((-2147483648 : Int) ≤ y.toInt ∧ y.toInt ≤ 2147483647))) := by
  have c0_ : (Int32.ofInt 0).toInt = 0 := by decide
  have c1_ : (Int32.ofInt 1).toInt = 1 := by decide
  have hK : pj_kpt ([], [], []) G0 G0 := pj_kpt_r _ _
  intro mn
  induction mn with
  | zero =>
    intro v3 v4 rv3 rv4 hm
    exfalso
    omega
  | succ mn ih =>
    intro v3 v4 rv3 rv4 hm
    refine pj_X_of (fun r h => pj_R_to (G0, 8, [(0, .ref 171), (1, .int so), (2, .int op), (3, .int v3), (4, .int v4)], [.ref 171, .int v4], 0, 0) 8 3 (fun _ => rfl) h) ?_
    refine pj_X_of (fun r h => pj_T_gi hI rfl rfl h) ?_
    show pj_X _ _ G0 11 [(0, .ref 171), (1, .int so), (2, .int op), (3, .int v3), (4, .int v4)] [.int (pj_fi G0 171 4), .int v4] _
    obtain ⟨y1, hy1⟩ : ∃ z : Int32, z = pj_fi G0 171 4 := ⟨_, rfl⟩
    refine pj_X_eqi hy1.symm ?_
    have ey1 : (pj_fi G0 171 4).toInt = y1.toInt := by rw [hy1]
    have ry1 : (0 : Int) ≤ y1.toInt ∧ y1.toInt ≤ 10 := by rw [hy1]; exact hI.2.1 171 4 (0, 10) rfl
    cases b2 : pj_c1 .ge v4 y1 with
    | true =>
      have ub2 := pj_u_geT b2
      refine pj_X_of (fun r h => pj_R_icT 89 rfl rfl b2 h) ?_
      refine pj_X_of (fun r h => pj_R_to (G0, 90, [(0, .ref 171), (1, .int so), (2, .int op), (3, .int v3), (4, .int v4)], [.int v3], 0, 0) 90 2 (fun _ => rfl) h) ?_
      exact pj_X_rt rfl rfl ⟨_, rfl, rfl, pj_i32 _⟩
    | false =>
      have ub2 := pj_u_geF b2
      refine pj_X_of (fun r h => pj_R_icF rfl b2 h) ?_
      refine pj_X_of (fun r h => pj_R_to (G0, 17, [(0, .ref 171), (1, .int so), (2, .int op), (3, .int v3), (4, .int v4)], [.int v4, .int op], 0, 0) 17 3 (fun _ => rfl) h) ?_
      refine pj_X_ca (vs := [.int op, .int v4]) rfl (fun _ => rfl) ⟨Nat.le_of_ble_eq_true rfl, Nat.le_of_ble_eq_true rfl, rfl⟩ ⟨rfl, rfl⟩ (pj_Y_up (by decide) (ct_171bx G0 hI op v4)) ?_
      rintro _ _ ⟨y3, rfl, rfl, ry3, ey3, fy3⟩
      show pj_X _ _ G0 20 [(0, .ref 171), (1, .int so), (2, .int op), (3, .int v3), (4, .int v4)] [.int y3] _
      cases b4 : pj_c1 .eq y3 0 with
      | true =>
        have ub4 := pj_u0_eqT b4
        refine pj_X_of (fun r h => pj_R_ifT 83 rfl rfl b4 h) ?_
        refine pj_X_of (fun r h => pj_R_to (G0, 86, [(4, .int (v4 + Int32.ofInt 1)), (0, .ref 171), (1, .int so), (2, .int op), (3, .int v3)], [], 0, 0) 86 2 (fun _ => rfl) h) ?_
        obtain ⟨z5, hz5⟩ : ∃ z : Int32, z = v4 + Int32.ofInt 1 := ⟨_, rfl⟩
        rw [← hz5]
        have fz5_0 : z5.toInt = v4.toInt + (Int32.ofInt 1).toInt := by rw [hz5]; exact pj_addI (by have := pj_i32 v4; have := pj_i32 (Int32.ofInt 1); omega) (by have := pj_i32 v4; have := pj_i32 (Int32.ofInt 1); omega)
        refine pj_X_of (fun r h => pj_R_to (G0, 5, [(4, .int z5), (0, .ref 171), (1, .int so), (2, .int op), (3, .int v3)], [], 0, 0) 5 2 (fun _ => rfl) h) ?_
        exact pj_X_sub [(0, .ref 171), (1, .int so), (2, .int op), (3, .int v3), (4, .int z5)] (show List.Nodup [0, 1, 2, 3, 4] by decide) ⟨rfl, rfl, rfl, rfl, rfl, trivial⟩ (ih v3 z5 (pj_i32 _) ⟨by omega, by omega⟩ (by omega))
      | false =>
        have ub4 := pj_u0_eqF b4
        refine pj_X_of (fun r h => pj_R_ifF rfl b4 h) ?_
        refine pj_X_of (fun r h => pj_R_to (G0, 26, [(0, .ref 171), (1, .int so), (2, .int op), (3, .int v3), (4, .int v4)], [.ref 171, .int so, .int v3], 0, 0) 26 4 (fun _ => rfl) h) ?_
        refine pj_X_of (fun r h => pj_T_gr hI rfl rfl rfl h) ?_
        refine pj_X_of (fun r h => pj_R_to (G0, 31, [(0, .ref 171), (1, .int so), (2, .int op), (3, .int v3), (4, .int v4)], [.int v4, .ref 173, .int so, .int v3], 0, 0) 31 2 (fun _ => rfl) h) ?_
        refine pj_X_of (fun r h => pj_T_il hI rfl rfl (by omega) (by omega) h) ?_
        show pj_X _ _ G0 32 [(0, .ref 171), (1, .int so), (2, .int op), (3, .int v3), (4, .int v4)] [.int (pj_ai G0 173 v4.toInt.toNat), .int so, .int v3] _
        obtain ⟨z6, hz6⟩ : ∃ z : Int32, z = pj_ai G0 173 v4.toInt.toNat := ⟨_, rfl⟩
        refine pj_X_eqi hz6.symm ?_
        have ez6 : (pj_ai G0 173 v4.toInt.toNat).toInt = z6.toInt := by rw [hz6]
        have fz6_0 : (0 : Int) ≤ z6.toInt ∧ z6.toInt ≤ 7 ∧ (z6.toInt ≤ 0 ∨ 0 ≤ z6.toInt) := by rw [hz6]; exact hI.2.2.1 173 (10, 0, 7, 0, 0) rfl _ (by show _ < 10; omega)
        refine pj_X_ca (vs := [.int so, .int z6]) rfl (fun _ => rfl) ⟨Nat.le_of_ble_eq_true rfl, Nat.le_of_ble_eq_true rfl, rfl⟩ ⟨rfl, rfl⟩ (pj_Y_up (by decide) (ct_171bx G0 hI so z6)) ?_
        rintro _ _ ⟨y7, rfl, rfl, ry7, ey7, fy7⟩
        show pj_X _ _ G0 35 [(0, .ref 171), (1, .int so), (2, .int op), (3, .int v3), (4, .int v4)] [.int y7, .int v3] _
        cases b8 : pj_c1 .eq y7 0 with
        | true =>
          have ub8 := pj_u0_eqT b8
          refine pj_X_of (fun r h => pj_R_ifT 50 rfl rfl b8 h) ?_
          refine pj_X_of (fun r h => pj_R_to (G0, 52, [(0, .ref 171), (1, .int so), (2, .int op), (3, .int v3), (4, .int v4)], [.int (v3 ||| (Int32.ofInt 0))], 0, 0) 52 3 (fun _ => rfl) h) ?_
          obtain ⟨z9, hz9⟩ : ∃ z : Int32, z = v3 ||| (Int32.ofInt 0) := ⟨_, rfl⟩
          refine pj_X_eqi hz9.symm ?_
          refine pj_X_of (fun r h => pj_R_to (G0, 56, [(3, .int z9), (0, .ref 171), (1, .int so), (2, .int op), (4, .int v4)], [.ref 171, .int so, .int z9], 0, 0) 56 5 (fun _ => rfl) h) ?_
          refine pj_X_of (fun r h => pj_T_gr hI rfl rfl rfl h) ?_
          refine pj_X_of (fun r h => pj_R_to (G0, 61, [(3, .int z9), (0, .ref 171), (1, .int so), (2, .int op), (4, .int v4)], [.int v4, .ref 174, .int so, .int z9], 0, 0) 61 2 (fun _ => rfl) h) ?_
          refine pj_X_of (fun r h => pj_T_il hI rfl rfl (by omega) (by omega) h) ?_
          show pj_X _ _ G0 62 [(3, .int z9), (0, .ref 171), (1, .int so), (2, .int op), (4, .int v4)] [.int (pj_ai G0 174 v4.toInt.toNat), .int so, .int z9] _
          obtain ⟨z10, hz10⟩ : ∃ z : Int32, z = pj_ai G0 174 v4.toInt.toNat := ⟨_, rfl⟩
          refine pj_X_eqi hz10.symm ?_
          have ez10 : (pj_ai G0 174 v4.toInt.toNat).toInt = z10.toInt := by rw [hz10]
          have fz10_0 : (0 : Int) ≤ z10.toInt ∧ z10.toInt ≤ 7 ∧ (z10.toInt ≤ 0 ∨ 0 ≤ z10.toInt) := by rw [hz10]; exact hI.2.2.1 174 (10, 0, 7, 0, 0) rfl _ (by show _ < 10; omega)
          refine pj_X_ca (vs := [.int so, .int z10]) rfl (fun _ => rfl) ⟨Nat.le_of_ble_eq_true rfl, Nat.le_of_ble_eq_true rfl, rfl⟩ ⟨rfl, rfl⟩ (pj_Y_up (by decide) (ct_171bx G0 hI so z10)) ?_
          rintro _ _ ⟨y11, rfl, rfl, ry11, ey11, fy11⟩
          show pj_X _ _ G0 65 [(3, .int z9), (0, .ref 171), (1, .int so), (2, .int op), (4, .int v4)] [.int y11, .int z9] _
          cases b12 : pj_c1 .eq y11 0 with
          | true =>
            have ub12 := pj_u0_eqT b12
            refine pj_X_of (fun r h => pj_R_ifT 80 rfl rfl b12 h) ?_
            refine pj_X_of (fun r h => pj_R_to (G0, 82, [(3, .int z9), (0, .ref 171), (1, .int so), (2, .int op), (4, .int v4)], [.int (z9 ||| (Int32.ofInt 0))], 0, 0) 82 3 (fun _ => rfl) h) ?_
            obtain ⟨z13, hz13⟩ : ∃ z : Int32, z = z9 ||| (Int32.ofInt 0) := ⟨_, rfl⟩
            refine pj_X_eqi hz13.symm ?_
            refine pj_X_of (fun r h => pj_R_to (G0, 86, [(4, .int (v4 + Int32.ofInt 1)), (3, .int z13), (0, .ref 171), (1, .int so), (2, .int op)], [], 0, 0) 86 3 (fun _ => rfl) h) ?_
            obtain ⟨z14, hz14⟩ : ∃ z : Int32, z = v4 + Int32.ofInt 1 := ⟨_, rfl⟩
            rw [← hz14]
            have fz14_0 : z14.toInt = v4.toInt + (Int32.ofInt 1).toInt := by rw [hz14]; exact pj_addI (by have := pj_i32 v4; have := pj_i32 (Int32.ofInt 1); omega) (by have := pj_i32 v4; have := pj_i32 (Int32.ofInt 1); omega)
            refine pj_X_of (fun r h => pj_R_to (G0, 5, [(4, .int z14), (3, .int z13), (0, .ref 171), (1, .int so), (2, .int op)], [], 0, 0) 5 2 (fun _ => rfl) h) ?_
            exact pj_X_sub [(0, .ref 171), (1, .int so), (2, .int op), (3, .int z13), (4, .int z14)] (show List.Nodup [0, 1, 2, 3, 4] by decide) ⟨rfl, rfl, rfl, rfl, rfl, trivial⟩ (ih z13 z14 (pj_i32 _) ⟨by omega, by omega⟩ (by omega))
          | false =>
            have ub12 := pj_u0_eqF b12
            refine pj_X_of (fun r h => pj_R_ifF rfl b12 h) ?_
            refine pj_X_of (fun r h => pj_R_to (G0, 70, [(3, .int z9), (0, .ref 171), (1, .int so), (2, .int op), (4, .int v4)], [.ref 171, .int (Int32.ofInt 1), .int z9], 0, 0) 70 3 (fun _ => rfl) h) ?_
            refine pj_X_of (fun r h => pj_T_gr hI rfl rfl rfl h) ?_
            refine pj_X_of (fun r h => pj_R_to (G0, 75, [(3, .int z9), (0, .ref 171), (1, .int so), (2, .int op), (4, .int v4)], [.int v4, .ref 173, .int (Int32.ofInt 1), .int z9], 0, 0) 75 2 (fun _ => rfl) h) ?_
            refine pj_X_of (fun r h => pj_T_il hI rfl rfl (by omega) (by omega) h) ?_
            show pj_X _ _ G0 76 [(3, .int z9), (0, .ref 171), (1, .int so), (2, .int op), (4, .int v4)] [.int (pj_ai G0 173 v4.toInt.toNat), .int (Int32.ofInt 1), .int z9] _
            refine pj_X_eqi hz6.symm ?_
            refine pj_X_of (fun r h => pj_R_to (G0, 77, [(3, .int z9), (0, .ref 171), (1, .int so), (2, .int op), (4, .int v4)], [.int ((Int32.ofInt 1) <<< (z6 &&& 31)), .int z9], 0, 0) 77 2 (fun _ => rfl) h) ?_
            obtain ⟨z15, hz15⟩ : ∃ z : Int32, z = (Int32.ofInt 1) <<< (z6 &&& 31) := ⟨_, rfl⟩
            refine pj_X_eqi hz15.symm ?_
            have fz15_0 : 1 ≤ z15.toInt ∧ z15.toInt ≤ 128 := by rw [hz15]; exact pj_shlI7 (by omega) (by omega)
            refine pj_X_of (fun r h => pj_R_to (G0, 82, [(3, .int z9), (0, .ref 171), (1, .int so), (2, .int op), (4, .int v4)], [.int (z9 ||| z15)], 0, 0) 82 3 (fun _ => rfl) h) ?_
            obtain ⟨z16, hz16⟩ : ∃ z : Int32, z = z9 ||| z15 := ⟨_, rfl⟩
            refine pj_X_eqi hz16.symm ?_
            refine pj_X_of (fun r h => pj_R_to (G0, 86, [(4, .int (v4 + Int32.ofInt 1)), (3, .int z16), (0, .ref 171), (1, .int so), (2, .int op)], [], 0, 0) 86 3 (fun _ => rfl) h) ?_
            obtain ⟨z17, hz17⟩ : ∃ z : Int32, z = v4 + Int32.ofInt 1 := ⟨_, rfl⟩
            rw [← hz17]
            have fz17_0 : z17.toInt = v4.toInt + (Int32.ofInt 1).toInt := by rw [hz17]; exact pj_addI (by have := pj_i32 v4; have := pj_i32 (Int32.ofInt 1); omega) (by have := pj_i32 v4; have := pj_i32 (Int32.ofInt 1); omega)
            refine pj_X_of (fun r h => pj_R_to (G0, 5, [(4, .int z17), (3, .int z16), (0, .ref 171), (1, .int so), (2, .int op)], [], 0, 0) 5 2 (fun _ => rfl) h) ?_
            exact pj_X_sub [(0, .ref 171), (1, .int so), (2, .int op), (3, .int z16), (4, .int z17)] (show List.Nodup [0, 1, 2, 3, 4] by decide) ⟨rfl, rfl, rfl, rfl, rfl, trivial⟩ (ih z16 z17 (pj_i32 _) ⟨by omega, by omega⟩ (by omega))
        | false =>
          have ub8 := pj_u0_eqF b8
          refine pj_X_of (fun r h => pj_R_ifF rfl b8 h) ?_
          refine pj_X_of (fun r h => pj_R_to (G0, 40, [(0, .ref 171), (1, .int so), (2, .int op), (3, .int v3), (4, .int v4)], [.ref 171, .int (Int32.ofInt 1), .int v3], 0, 0) 40 3 (fun _ => rfl) h) ?_
          refine pj_X_of (fun r h => pj_T_gr hI rfl rfl rfl h) ?_
          refine pj_X_of (fun r h => pj_R_to (G0, 45, [(0, .ref 171), (1, .int so), (2, .int op), (3, .int v3), (4, .int v4)], [.int v4, .ref 174, .int (Int32.ofInt 1), .int v3], 0, 0) 45 2 (fun _ => rfl) h) ?_
          refine pj_X_of (fun r h => pj_T_il hI rfl rfl (by omega) (by omega) h) ?_
          show pj_X _ _ G0 46 [(0, .ref 171), (1, .int so), (2, .int op), (3, .int v3), (4, .int v4)] [.int (pj_ai G0 174 v4.toInt.toNat), .int (Int32.ofInt 1), .int v3] _
          obtain ⟨z18, hz18⟩ : ∃ z : Int32, z = pj_ai G0 174 v4.toInt.toNat := ⟨_, rfl⟩
          refine pj_X_eqi hz18.symm ?_
          have ez18 : (pj_ai G0 174 v4.toInt.toNat).toInt = z18.toInt := by rw [hz18]
          have fz18_0 : (0 : Int) ≤ z18.toInt ∧ z18.toInt ≤ 7 ∧ (z18.toInt ≤ 0 ∨ 0 ≤ z18.toInt) := by rw [hz18]; exact hI.2.2.1 174 (10, 0, 7, 0, 0) rfl _ (by show _ < 10; omega)
          refine pj_X_of (fun r h => pj_R_to (G0, 47, [(0, .ref 171), (1, .int so), (2, .int op), (3, .int v3), (4, .int v4)], [.int ((Int32.ofInt 1) <<< (z18 &&& 31)), .int v3], 0, 0) 47 2 (fun _ => rfl) h) ?_
          obtain ⟨z19, hz19⟩ : ∃ z : Int32, z = (Int32.ofInt 1) <<< (z18 &&& 31) := ⟨_, rfl⟩
          refine pj_X_eqi hz19.symm ?_
          have fz19_0 : 1 ≤ z19.toInt ∧ z19.toInt ≤ 128 := by rw [hz19]; exact pj_shlI7 (by omega) (by omega)
          refine pj_X_of (fun r h => pj_R_to (G0, 52, [(0, .ref 171), (1, .int so), (2, .int op), (3, .int v3), (4, .int v4)], [.int (v3 ||| z19)], 0, 0) 52 3 (fun _ => rfl) h) ?_
          obtain ⟨z20, hz20⟩ : ∃ z : Int32, z = v3 ||| z19 := ⟨_, rfl⟩
          refine pj_X_eqi hz20.symm ?_
          refine pj_X_of (fun r h => pj_R_to (G0, 56, [(3, .int z20), (0, .ref 171), (1, .int so), (2, .int op), (4, .int v4)], [.ref 171, .int so, .int z20], 0, 0) 56 5 (fun _ => rfl) h) ?_
          refine pj_X_of (fun r h => pj_T_gr hI rfl rfl rfl h) ?_
          refine pj_X_of (fun r h => pj_R_to (G0, 61, [(3, .int z20), (0, .ref 171), (1, .int so), (2, .int op), (4, .int v4)], [.int v4, .ref 174, .int so, .int z20], 0, 0) 61 2 (fun _ => rfl) h) ?_
          refine pj_X_of (fun r h => pj_T_il hI rfl rfl (by omega) (by omega) h) ?_
          show pj_X _ _ G0 62 [(3, .int z20), (0, .ref 171), (1, .int so), (2, .int op), (4, .int v4)] [.int (pj_ai G0 174 v4.toInt.toNat), .int so, .int z20] _
          refine pj_X_eqi hz18.symm ?_
          refine pj_X_ca (vs := [.int so, .int z18]) rfl (fun _ => rfl) ⟨Nat.le_of_ble_eq_true rfl, Nat.le_of_ble_eq_true rfl, rfl⟩ ⟨rfl, rfl⟩ (pj_Y_up (by decide) (ct_171bx G0 hI so z18)) ?_
          rintro _ _ ⟨y21, rfl, rfl, ry21, ey21, fy21⟩
          show pj_X _ _ G0 65 [(3, .int z20), (0, .ref 171), (1, .int so), (2, .int op), (4, .int v4)] [.int y21, .int z20] _
          cases b22 : pj_c1 .eq y21 0 with
          | true =>
            have ub22 := pj_u0_eqT b22
            refine pj_X_of (fun r h => pj_R_ifT 80 rfl rfl b22 h) ?_
            refine pj_X_of (fun r h => pj_R_to (G0, 82, [(3, .int z20), (0, .ref 171), (1, .int so), (2, .int op), (4, .int v4)], [.int (z20 ||| (Int32.ofInt 0))], 0, 0) 82 3 (fun _ => rfl) h) ?_
            obtain ⟨z23, hz23⟩ : ∃ z : Int32, z = z20 ||| (Int32.ofInt 0) := ⟨_, rfl⟩
            refine pj_X_eqi hz23.symm ?_
            refine pj_X_of (fun r h => pj_R_to (G0, 86, [(4, .int (v4 + Int32.ofInt 1)), (3, .int z23), (0, .ref 171), (1, .int so), (2, .int op)], [], 0, 0) 86 3 (fun _ => rfl) h) ?_
            obtain ⟨z24, hz24⟩ : ∃ z : Int32, z = v4 + Int32.ofInt 1 := ⟨_, rfl⟩
            rw [← hz24]
            have fz24_0 : z24.toInt = v4.toInt + (Int32.ofInt 1).toInt := by rw [hz24]; exact pj_addI (by have := pj_i32 v4; have := pj_i32 (Int32.ofInt 1); omega) (by have := pj_i32 v4; have := pj_i32 (Int32.ofInt 1); omega)
            refine pj_X_of (fun r h => pj_R_to (G0, 5, [(4, .int z24), (3, .int z23), (0, .ref 171), (1, .int so), (2, .int op)], [], 0, 0) 5 2 (fun _ => rfl) h) ?_
            exact pj_X_sub [(0, .ref 171), (1, .int so), (2, .int op), (3, .int z23), (4, .int z24)] (show List.Nodup [0, 1, 2, 3, 4] by decide) ⟨rfl, rfl, rfl, rfl, rfl, trivial⟩ (ih z23 z24 (pj_i32 _) ⟨by omega, by omega⟩ (by omega))
          | false =>
            have ub22 := pj_u0_eqF b22
            refine pj_X_of (fun r h => pj_R_ifF rfl b22 h) ?_
            refine pj_X_of (fun r h => pj_R_to (G0, 70, [(3, .int z20), (0, .ref 171), (1, .int so), (2, .int op), (4, .int v4)], [.ref 171, .int (Int32.ofInt 1), .int z20], 0, 0) 70 3 (fun _ => rfl) h) ?_
            refine pj_X_of (fun r h => pj_T_gr hI rfl rfl rfl h) ?_
            refine pj_X_of (fun r h => pj_R_to (G0, 75, [(3, .int z20), (0, .ref 171), (1, .int so), (2, .int op), (4, .int v4)], [.int v4, .ref 173, .int (Int32.ofInt 1), .int z20], 0, 0) 75 2 (fun _ => rfl) h) ?_
            refine pj_X_of (fun r h => pj_T_il hI rfl rfl (by omega) (by omega) h) ?_
            show pj_X _ _ G0 76 [(3, .int z20), (0, .ref 171), (1, .int so), (2, .int op), (4, .int v4)] [.int (pj_ai G0 173 v4.toInt.toNat), .int (Int32.ofInt 1), .int z20] _
            refine pj_X_eqi hz6.symm ?_
            refine pj_X_of (fun r h => pj_R_to (G0, 77, [(3, .int z20), (0, .ref 171), (1, .int so), (2, .int op), (4, .int v4)], [.int ((Int32.ofInt 1) <<< (z6 &&& 31)), .int z20], 0, 0) 77 2 (fun _ => rfl) h) ?_
            obtain ⟨z25, hz25⟩ : ∃ z : Int32, z = (Int32.ofInt 1) <<< (z6 &&& 31) := ⟨_, rfl⟩
            refine pj_X_eqi hz25.symm ?_
            have fz25_0 : 1 ≤ z25.toInt ∧ z25.toInt ≤ 128 := by rw [hz25]; exact pj_shlI7 (by omega) (by omega)
            refine pj_X_of (fun r h => pj_R_to (G0, 82, [(3, .int z20), (0, .ref 171), (1, .int so), (2, .int op), (4, .int v4)], [.int (z20 ||| z25)], 0, 0) 82 3 (fun _ => rfl) h) ?_
            obtain ⟨z26, hz26⟩ : ∃ z : Int32, z = z20 ||| z25 := ⟨_, rfl⟩
            refine pj_X_eqi hz26.symm ?_
            refine pj_X_of (fun r h => pj_R_to (G0, 86, [(4, .int (v4 + Int32.ofInt 1)), (3, .int z26), (0, .ref 171), (1, .int so), (2, .int op)], [], 0, 0) 86 3 (fun _ => rfl) h) ?_
            obtain ⟨z27, hz27⟩ : ∃ z : Int32, z = v4 + Int32.ofInt 1 := ⟨_, rfl⟩
            rw [← hz27]
            have fz27_0 : z27.toInt = v4.toInt + (Int32.ofInt 1).toInt := by rw [hz27]; exact pj_addI (by have := pj_i32 v4; have := pj_i32 (Int32.ofInt 1); omega) (by have := pj_i32 v4; have := pj_i32 (Int32.ofInt 1); omega)
            refine pj_X_of (fun r h => pj_R_to (G0, 5, [(4, .int z27), (3, .int z26), (0, .ref 171), (1, .int so), (2, .int op)], [], 0, 0) 5 2 (fun _ => rfl) h) ?_
            exact pj_X_sub [(0, .ref 171), (1, .int so), (2, .int op), (3, .int z26), (4, .int z27)] (show List.Nodup [0, 1, 2, 3, 4] by decide) ⟨rfl, rfl, rfl, rfl, rfl, trivial⟩ (ih z26 z27 (pj_i32 _) ⟨by omega, by omega⟩ (by omega))
theorem ct_207 (G0 : pj_G) (hI : pj_Inv G0) (so : Int32) (op : Int32) : pj_Y 2 207 [.ref 171, .int so, .int op] G0 (fun v G' => ∃ y : Int32, v = some (.int y) ∧ G0 = G' ∧ ((-2147483648 : Int) ≤ y.toInt ∧ y.toInt ≤ 2147483647)) := by
  have c0_ : (Int32.ofInt 0).toInt = 0 := by decide
  have c1_ : (Int32.ofInt 1).toInt = 1 := by decide
  refine pj_Y_X (M := pj_m207) rfl rfl (Nat.le_of_ble_eq_true rfl) ?_
  have hK : pj_kpt ([], [], []) G0 G0 := pj_kpt_r _ _
  show pj_X _ _ G0 0 [(0, .ref 171), (1, .int so), (2, .int op)] [] _
  refine pj_X_of (fun r h => pj_R_to (G0, 5, [(4, .int (Int32.ofInt 0)), (3, .int so), (0, .ref 171), (1, .int so), (2, .int op)], [], 0, 0) 5 5 (fun _ => rfl) h) ?_
  exact pj_X_sub [(0, .ref 171), (1, .int so), (2, .int op), (3, .int so), (4, .int (Int32.ofInt 0))] (show List.Nodup [0, 1, 2, 3, 4] by decide) ⟨rfl, rfl, rfl, rfl, rfl, trivial⟩ ((lp_ct_207 G0 hI so op  11) so (Int32.ofInt 0) (pj_i32 _) ⟨by omega, by omega⟩ (by omega))
theorem lp_ct_208 (G0 : pj_G) (hI : pj_Inv G0) (so : Int32) (op : Int32) : ∀ mn : Nat, (∀ (v3 : Int32) (v4 : Int32), ((-2147483648 : Int) ≤ v3.toInt ∧ v3.toInt ≤ 2147483647) → ((0 : Int) ≤ v4.toInt ∧ v4.toInt ≤ 8) → 8 - v4.toInt < (mn : Int) → pj_X 2 pj_m208 G0 5 [(0, .ref 171), (1, .int so), (2, .int op), (3, .int v3), (4, .int v4)] [] (fun v G' => ∃ y : Int32, v = some (.int y) ∧ G0 = G' ∧ ((-2147483648 : Int) ≤ y.toInt ∧ y.toInt ≤ 2147483647))) := by
  have c0_ : (Int32.ofInt 0).toInt = 0 := by decide
  have c1_ : (Int32.ofInt 1).toInt = 1 := by decide
  have hK : pj_kpt ([], [], []) G0 G0 := pj_kpt_r _ _
  intro mn
  induction mn with
  | zero =>
    intro v3 v4 rv3 rv4 hm
    exfalso
    omega
  | succ mn ih =>
    intro v3 v4 rv3 rv4 hm
    refine pj_X_of (fun r h => pj_R_to (G0, 8, [(0, .ref 171), (1, .int so), (2, .int op), (3, .int v3), (4, .int v4)], [.ref 171, .int v4], 0, 0) 8 3 (fun _ => rfl) h) ?_
    refine pj_X_of (fun r h => pj_T_gi hI rfl rfl h) ?_
    show pj_X _ _ G0 11 [(0, .ref 171), (1, .int so), (2, .int op), (3, .int v3), (4, .int v4)] [.int (pj_fi G0 171 3), .int v4] _
    obtain ⟨y1, hy1⟩ : ∃ z : Int32, z = pj_fi G0 171 3 := ⟨_, rfl⟩
    refine pj_X_eqi hy1.symm ?_
    have ey1 : (pj_fi G0 171 3).toInt = y1.toInt := by rw [hy1]
    have ry1 : (0 : Int) ≤ y1.toInt ∧ y1.toInt ≤ 8 := by rw [hy1]; exact hI.2.1 171 3 (0, 8) rfl
    cases b2 : pj_c1 .ge v4 y1 with
    | true =>
      have ub2 := pj_u_geT b2
      refine pj_X_of (fun r h => pj_R_icT 27 rfl rfl b2 h) ?_
      refine pj_X_of (fun r h => pj_R_to (G0, 28, [(0, .ref 171), (1, .int so), (2, .int op), (3, .int v3), (4, .int v4)], [.int v3], 0, 0) 28 2 (fun _ => rfl) h) ?_
      exact pj_X_rt rfl rfl ⟨_, rfl, rfl, pj_i32 _⟩
    | false =>
      have ub2 := pj_u_geF b2
      refine pj_X_of (fun r h => pj_R_icF rfl b2 h) ?_
      refine pj_X_of (fun r h => pj_R_to (G0, 17, [(0, .ref 171), (1, .int so), (2, .int op), (3, .int v3), (4, .int v4)], [.int op, .int v3, .ref 171], 0, 0) 17 4 (fun _ => rfl) h) ?_
      refine pj_X_ca (vs := [.ref 171, .int v3, .int op]) rfl (fun _ => rfl) ⟨Nat.le_of_ble_eq_true rfl, Nat.le_of_ble_eq_true rfl, pj_T_rcv hI rfl⟩ ⟨rfl, rfl⟩ (pj_Y_up (by decide) (ct_207 G0 hI v3 op)) ?_
      rintro _ _ ⟨y3, rfl, rfl, ry3⟩
      show pj_X _ _ G0 20 [(0, .ref 171), (1, .int so), (2, .int op), (3, .int v3), (4, .int v4)] [.int y3] _
      refine pj_X_of (fun r h => pj_R_to (G0, 24, [(4, .int (v4 + Int32.ofInt 1)), (3, .int y3), (0, .ref 171), (1, .int so), (2, .int op)], [], 0, 0) 24 3 (fun _ => rfl) h) ?_
      obtain ⟨z4, hz4⟩ : ∃ z : Int32, z = v4 + Int32.ofInt 1 := ⟨_, rfl⟩
      rw [← hz4]
      have fz4_0 : z4.toInt = v4.toInt + (Int32.ofInt 1).toInt := by rw [hz4]; exact pj_addI (by have := pj_i32 v4; have := pj_i32 (Int32.ofInt 1); omega) (by have := pj_i32 v4; have := pj_i32 (Int32.ofInt 1); omega)
      refine pj_X_of (fun r h => pj_R_to (G0, 5, [(4, .int z4), (3, .int y3), (0, .ref 171), (1, .int so), (2, .int op)], [], 0, 0) 5 2 (fun _ => rfl) h) ?_
      exact pj_X_sub [(0, .ref 171), (1, .int so), (2, .int op), (3, .int y3), (4, .int z4)] (show List.Nodup [0, 1, 2, 3, 4] by decide) ⟨rfl, rfl, rfl, rfl, rfl, trivial⟩ (ih y3 z4 (pj_i32 _) ⟨by omega, by omega⟩ (by omega))
theorem ct_208 (G0 : pj_G) (hI : pj_Inv G0) (so : Int32) (op : Int32) : pj_Y 3 208 [.ref 171, .int so, .int op] G0 (fun v G' => ∃ y : Int32, v = some (.int y) ∧ G0 = G' ∧ ((-2147483648 : Int) ≤ y.toInt ∧ y.toInt ≤ 2147483647)) := by
  have c0_ : (Int32.ofInt 0).toInt = 0 := by decide
  have c1_ : (Int32.ofInt 1).toInt = 1 := by decide
  refine pj_Y_X (M := pj_m208) rfl rfl (Nat.le_of_ble_eq_true rfl) ?_
  have hK : pj_kpt ([], [], []) G0 G0 := pj_kpt_r _ _
  show pj_X _ _ G0 0 [(0, .ref 171), (1, .int so), (2, .int op)] [] _
  refine pj_X_of (fun r h => pj_R_to (G0, 5, [(4, .int (Int32.ofInt 0)), (3, .int so), (0, .ref 171), (1, .int so), (2, .int op)], [], 0, 0) 5 5 (fun _ => rfl) h) ?_
  exact pj_X_sub [(0, .ref 171), (1, .int so), (2, .int op), (3, .int so), (4, .int (Int32.ofInt 0))] (show List.Nodup [0, 1, 2, 3, 4] by decide) ⟨rfl, rfl, rfl, rfl, rfl, trivial⟩ ((lp_ct_208 G0 hI so op  9) so (Int32.ofInt 0) (pj_i32 _) ⟨by omega, by omega⟩ (by omega))
theorem lp_ct_209 (G0 : pj_G) (hI : pj_Inv G0) (op : Int32) : ∀ mn : Nat, (∀ (v2 : Int32) (v3 : Int32), ((-2147483648 : Int) ≤ v2.toInt ∧ v2.toInt ≤ 2147483647) → ((0 : Int) ≤ v3.toInt ∧ v3.toInt ≤ 8) → 8 - v3.toInt < (mn : Int) → pj_X 3 pj_m209 G0 4 [(0, .ref 171), (1, .int op), (2, .int v2), (3, .int v3)] [] (fun v G' => ∃ y : Int32, v = some (.int y) ∧ G0 = G' ∧ ((-2147483648 : Int) ≤ y.toInt ∧ y.toInt ≤ 2147483647))) := by
  have c0_ : (Int32.ofInt 0).toInt = 0 := by decide
  have c1_ : (Int32.ofInt 1).toInt = 1 := by decide
  have c2_ : (Int32.ofInt 2).toInt = 2 := by decide
  have hK : pj_kpt ([], [], []) G0 G0 := pj_kpt_r _ _
  intro mn
  induction mn with
  | zero =>
    intro v2 v3 rv2 rv3 hm
    exfalso
    omega
  | succ mn ih =>
    intro v2 v3 rv2 rv3 hm
    refine pj_X_of (fun r h => pj_R_to (G0, 6, [(0, .ref 171), (1, .int op), (2, .int v2), (3, .int v3)], [.ref 171, .int v3], 0, 0) 6 3 (fun _ => rfl) h) ?_
    refine pj_X_of (fun r h => pj_T_gi hI rfl rfl h) ?_
    show pj_X _ _ G0 9 [(0, .ref 171), (1, .int op), (2, .int v2), (3, .int v3)] [.int (pj_fi G0 171 3), .int v3] _
    obtain ⟨y1, hy1⟩ : ∃ z : Int32, z = pj_fi G0 171 3 := ⟨_, rfl⟩
    refine pj_X_eqi hy1.symm ?_
    have ey1 : (pj_fi G0 171 3).toInt = y1.toInt := by rw [hy1]
    have ry1 : (0 : Int) ≤ y1.toInt ∧ y1.toInt ≤ 8 := by rw [hy1]; exact hI.2.1 171 3 (0, 8) rfl
    cases b2 : pj_c1 .ge v3 y1 with
    | true =>
      have ub2 := pj_u_geT b2
      refine pj_X_of (fun r h => pj_R_icT 34 rfl rfl b2 h) ?_
      refine pj_X_of (fun r h => pj_R_to (G0, 36, [(0, .ref 171), (1, .int op), (2, .int v2), (3, .int v3)], [.int (Int32.ofInt 2), .int v2], 0, 0) 36 3 (fun _ => rfl) h) ?_
      refine pj_X_of (fun r h => pj_R_dv rfl (pj_nz (by omega)) h) ?_
      show pj_X _ _ G0 37 [(0, .ref 171), (1, .int op), (2, .int v2), (3, .int v3)] [.int (v2 / (Int32.ofInt 2))] _
      obtain ⟨z3, hz3⟩ : ∃ z : Int32, z = v2 / (Int32.ofInt 2) := ⟨_, rfl⟩
      refine pj_X_eqi hz3.symm ?_
      exact pj_X_rt rfl rfl ⟨_, rfl, rfl, pj_i32 _⟩
    | false =>
      have ub2 := pj_u_geF b2
      refine pj_X_of (fun r h => pj_R_icF rfl b2 h) ?_
      refine pj_X_of (fun r h => pj_R_to (G0, 17, [(0, .ref 171), (1, .int op), (2, .int v2), (3, .int v3)], [.int ((Int32.ofInt 1) <<< (v3 &&& 31)), .ref 171, .int v2], 0, 0) 17 6 (fun _ => rfl) h) ?_
      obtain ⟨z4, hz4⟩ : ∃ z : Int32, z = (Int32.ofInt 1) <<< (v3 &&& 31) := ⟨_, rfl⟩
      refine pj_X_eqi hz4.symm ?_
      have fz4_0 : 1 ≤ z4.toInt ∧ z4.toInt ≤ 128 := by rw [hz4]; exact pj_shlI7 (by omega) (by omega)
      refine pj_X_of (fun r h => pj_R_to (G0, 18, [(0, .ref 171), (1, .int op), (2, .int v2), (3, .int v3)], [.int op, .int z4, .ref 171, .int v2], 0, 0) 18 2 (fun _ => rfl) h) ?_
      refine pj_X_ca (vs := [.ref 171, .int z4, .int op]) rfl (fun _ => rfl) ⟨Nat.le_of_ble_eq_true rfl, Nat.le_of_ble_eq_true rfl, pj_T_rcv hI rfl⟩ ⟨rfl, rfl⟩ (pj_Y_up (by decide) (ct_208 G0 hI z4 op)) ?_
      rintro _ _ ⟨y5, rfl, rfl, ry5⟩
      show pj_X _ _ G0 21 [(0, .ref 171), (1, .int op), (2, .int v2), (3, .int v3)] [.int y5, .int v2] _
      refine pj_X_ca (vs := [.int y5]) rfl (fun _ => rfl) ⟨Nat.le_of_ble_eq_true rfl, Nat.le_of_ble_eq_true rfl, rfl⟩ ⟨rfl, rfl⟩ (pj_Y_up (by decide) (ct_287 G0 hI y5)) ?_
      rintro _ _ ⟨y6, rfl, rfl, ry6⟩
      show pj_X _ _ G0 24 [(0, .ref 171), (1, .int op), (2, .int v2), (3, .int v3)] [.int y6, .int v2] _
      refine pj_X_of (fun r h => pj_R_to (G0, 26, [(0, .ref 171), (1, .int op), (2, .int v2), (3, .int v3)], [.int (y6 - (Int32.ofInt 1)), .int v2], 0, 0) 26 3 (fun _ => rfl) h) ?_
      obtain ⟨z7, hz7⟩ : ∃ z : Int32, z = y6 - (Int32.ofInt 1) := ⟨_, rfl⟩
      refine pj_X_eqi hz7.symm ?_
      refine pj_X_of (fun r h => pj_R_to (G0, 27, [(0, .ref 171), (1, .int op), (2, .int v2), (3, .int v3)], [.int (v2 + z7)], 0, 0) 27 2 (fun _ => rfl) h) ?_
      obtain ⟨z8, hz8⟩ : ∃ z : Int32, z = v2 + z7 := ⟨_, rfl⟩
      refine pj_X_eqi hz8.symm ?_
      refine pj_X_of (fun r h => pj_R_to (G0, 31, [(3, .int (v3 + Int32.ofInt 1)), (2, .int z8), (0, .ref 171), (1, .int op)], [], 0, 0) 31 3 (fun _ => rfl) h) ?_
      obtain ⟨z9, hz9⟩ : ∃ z : Int32, z = v3 + Int32.ofInt 1 := ⟨_, rfl⟩
      rw [← hz9]
      have fz9_0 : z9.toInt = v3.toInt + (Int32.ofInt 1).toInt := by rw [hz9]; exact pj_addI (by have := pj_i32 v3; have := pj_i32 (Int32.ofInt 1); omega) (by have := pj_i32 v3; have := pj_i32 (Int32.ofInt 1); omega)
      refine pj_X_of (fun r h => pj_R_to (G0, 4, [(3, .int z9), (2, .int z8), (0, .ref 171), (1, .int op)], [], 0, 0) 4 2 (fun _ => rfl) h) ?_
      exact pj_X_sub [(0, .ref 171), (1, .int op), (2, .int z8), (3, .int z9)] (show List.Nodup [0, 1, 2, 3] by decide) ⟨rfl, rfl, rfl, rfl, trivial⟩ (ih z8 z9 (pj_i32 _) ⟨by omega, by omega⟩ (by omega))
theorem ct_209 (G0 : pj_G) (hI : pj_Inv G0) (op : Int32) : pj_Y 4 209 [.ref 171, .int op] G0 (fun v G' => ∃ y : Int32, v = some (.int y) ∧ G0 = G' ∧ ((-2147483648 : Int) ≤ y.toInt ∧ y.toInt ≤ 2147483647)) := by
  have c0_ : (Int32.ofInt 0).toInt = 0 := by decide
  have c1_ : (Int32.ofInt 1).toInt = 1 := by decide
  have c2_ : (Int32.ofInt 2).toInt = 2 := by decide
  refine pj_Y_X (M := pj_m209) rfl rfl (Nat.le_of_ble_eq_true rfl) ?_
  have hK : pj_kpt ([], [], []) G0 G0 := pj_kpt_r _ _
  show pj_X _ _ G0 0 [(0, .ref 171), (1, .int op)] [] _
  refine pj_X_of (fun r h => pj_R_to (G0, 4, [(3, .int (Int32.ofInt 0)), (2, .int (Int32.ofInt 0)), (0, .ref 171), (1, .int op)], [], 0, 0) 4 5 (fun _ => rfl) h) ?_
  exact pj_X_sub [(0, .ref 171), (1, .int op), (2, .int (Int32.ofInt 0)), (3, .int (Int32.ofInt 0))] (show List.Nodup [0, 1, 2, 3] by decide) ⟨rfl, rfl, rfl, rfl, trivial⟩ ((lp_ct_209 G0 hI op  9) (Int32.ofInt 0) (Int32.ofInt 0) (pj_i32 _) ⟨by omega, by omega⟩ (by omega))
def kc_210 : pj_KT := ([(171, 0)], [171], [])
theorem ct_210 (G0 : pj_G) (hI : pj_Inv G0) (c : Int32) (w : Int32) : pj_Y 3 210 [.ref 171, .int c, .int w] G0 (fun v G' => ∃ y : Int32, v = some (.int y) ∧ pj_Inv G' ∧ pj_kpt kc_210 G0 G' ∧ ((-2147483648 : Int) ≤ y.toInt ∧ y.toInt ≤ 2147483647)) := by
  have c0_ : (Int32.ofInt 0).toInt = 0 := by decide
  have c1_ : (Int32.ofInt 1).toInt = 1 := by decide
  have c2_ : (Int32.ofInt 4).toInt = 4 := by decide
  refine pj_Y_X (M := pj_m210) rfl rfl (Nat.le_of_ble_eq_true rfl) ?_
  have hK : pj_kpt kc_210 G0 G0 := pj_kpt_r _ _
  show pj_X _ _ G0 0 [(0, .ref 171), (1, .int c), (2, .int w)] [] _
  refine pj_X_of (fun r h => pj_R_to (G0, 2, [(0, .ref 171), (1, .int c), (2, .int w)], [.int (Int32.ofInt 0), .ref 171], 0, 0) 2 3 (fun _ => rfl) h) ?_
  refine pj_X_of (fun r h => pj_T_pf hI rfl rfl rfl h) ?_
  show pj_X _ _ (pj_wv G0 171 0 (.int (Int32.ofInt 0))) 5 [(0, .ref 171), (1, .int c), (2, .int w)] [] _
  obtain ⟨G1, hG1⟩ : ∃ H, H = pj_wv G0 171 0 (.int (Int32.ofInt 0)) := ⟨_, rfl⟩
  have iG1 : pj_Inv G1 := by rw [hG1]; exact pj_Inv_wi hI (ci := 12) rfl (fun q hq => by cases hq)
  have kG1 : pj_kpt kc_210 G0 G1 := by rw [hG1]; exact pj_kpt_v hK rfl
  rw [← hG1]
  refine pj_X_of (fun r h => pj_R_to (G1, 7, [(0, .ref 171), (1, .int c), (2, .int w)], [.int c, .ref 171], 0, 0) 7 3 (fun _ => rfl) h) ?_
  refine pj_X_ca (vs := [.ref 171, .int c]) rfl (fun _ => rfl) ⟨Nat.le_of_ble_eq_true rfl, Nat.le_of_ble_eq_true rfl, pj_T_rcv iG1 rfl⟩ ⟨rfl, rfl⟩ (pj_Y_up (by decide) (ct_176x G1 iG1 c)) ?_
  rintro _ _ ⟨y2, rfl, rfl, ry2, ey2, fy2⟩
  replace ey2 := ey2 _ rfl
  show pj_X _ _ G1 10 [(0, .ref 171), (1, .int c), (2, .int w)] [.int y2] _
  cases b3 : pj_c1 .eq y2 0 with
  | true =>
    have ub3 := pj_u0_eqT b3
    refine pj_X_of (fun r h => pj_R_ifT 25 rfl rfl b3 h) ?_
    refine pj_X_of (fun r h => pj_R_to (G1, 26, [(0, .ref 171), (1, .int c), (2, .int w)], [.ref 171], 0, 0) 26 2 (fun _ => rfl) h) ?_
    refine pj_X_ca (vs := [.ref 171]) rfl (fun _ => rfl) ⟨Nat.le_of_ble_eq_true rfl, Nat.le_of_ble_eq_true rfl, pj_T_rcv iG1 rfl⟩ ⟨rfl, rfl⟩ (pj_Y_up (by decide) (ct_169 G1 iG1)) ?_
    rintro _ G5 ⟨y4, rfl, iG5, jG5, ry4⟩
    have kG5 : pj_kpt kc_210 G0 G5 := pj_kpt_t kG1 (pj_kpt_s jG5 rfl)
    show pj_X _ _ G5 29 [(0, .ref 171), (1, .int c), (2, .int w)] [.int y4] _
    exact pj_X_rt rfl rfl ⟨_, rfl, iG5, kG5, pj_i32 _⟩
  | false =>
    have ub3 := pj_u0_eqF b3
    refine pj_X_of (fun r h => pj_R_ifF rfl b3 h) ?_
    refine pj_X_of (fun r h => pj_R_to (G1, 19, [(0, .ref 171), (1, .int c), (2, .int w)], [.long (Int64.ofInt 5), .long (Int64.ofNat 0), .long w.toInt64], 0, 0) 19 5 (fun _ => rfl) h) ?_
    have lc6 : (w.toInt64).toInt = w.toInt := Int32.toInt_toInt64 _
    have lc7 : (Int64.ofNat 0).toInt = 0 := by decide
    have lc8 : (Int64.ofInt 5).toInt = 5 := by decide
    refine pj_X_ca (vs := [.long w.toInt64, .long (Int64.ofNat 0), .long (Int64.ofInt 5)]) rfl (fun _ => rfl) ⟨Nat.le_of_ble_eq_true rfl, Nat.le_of_ble_eq_true rfl, rfl⟩ ⟨rfl, rfl⟩ (pj_Y_up (by decide) (ct_170x G1 iG1 w.toInt64 (Int64.ofNat 0) (Int64.ofInt 5))) ?_
    rintro _ _ ⟨y9, rfl, rfl, ry9, ey9, fy9⟩
    show pj_X _ _ G1 22 [(0, .ref 171), (1, .int c), (2, .int w)] [.int y9] _
    cases b10 : pj_c1 .ne y9 0 with
    | true =>
      have ub10 := pj_u0_neT b10
      refine pj_X_of (fun r h => pj_R_ifT 30 rfl rfl b10 h) ?_
      refine pj_X_of (fun r h => pj_R_to (G1, 31, [(0, .ref 171), (1, .int c), (2, .int w)], [.int w], 0, 0) 31 2 (fun _ => rfl) h) ?_
      by_cases t11 : w.toInt = 0
      · refine pj_X_of (fun r h => pj_R_tw 60 rfl (n := 0) t11 rfl h) ?_
        refine pj_X_of (fun r h => pj_R_to (G1, 61, [(0, .ref 171), (1, .int c), (2, .int w)], [.ref 171], 0, 0) 61 2 (fun _ => rfl) h) ?_
        refine pj_X_of (fun r h => pj_T_gr iG1 rfl rfl rfl h) ?_
        refine pj_X_of (fun r h => pj_R_to (G1, 65, [(0, .ref 171), (1, .int c), (2, .int w)], [.int c, .ref 173], 0, 0) 65 2 (fun _ => rfl) h) ?_
        refine pj_X_of (fun r h => pj_T_il iG1 rfl rfl (by omega) (by omega) h) ?_
        show pj_X _ _ G1 66 [(0, .ref 171), (1, .int c), (2, .int w)] [.int (pj_ai G1 173 c.toInt.toNat)] _
        obtain ⟨z12, hz12⟩ : ∃ z : Int32, z = pj_ai G1 173 c.toInt.toNat := ⟨_, rfl⟩
        refine pj_X_eqi hz12.symm ?_
        have ez12 : (pj_ai G1 173 c.toInt.toNat).toInt = z12.toInt := by rw [hz12]
        have fz12_0 : (0 : Int) ≤ z12.toInt ∧ z12.toInt ≤ 7 ∧ (z12.toInt ≤ 0 ∨ 0 ≤ z12.toInt) := by rw [hz12]; exact iG1.2.2.1 173 (10, 0, 7, 0, 0) rfl _ (by show _ < 10; omega)
        exact pj_X_rt rfl rfl ⟨_, rfl, iG1, kG1, pj_i32 _⟩
      by_cases t13 : w.toInt = 1
      · refine pj_X_of (fun r h => pj_R_tw 67 rfl (n := 1) t13 rfl h) ?_
        refine pj_X_of (fun r h => pj_R_to (G1, 68, [(0, .ref 171), (1, .int c), (2, .int w)], [.ref 171], 0, 0) 68 2 (fun _ => rfl) h) ?_
        refine pj_X_of (fun r h => pj_T_gr iG1 rfl rfl rfl h) ?_
        refine pj_X_of (fun r h => pj_R_to (G1, 72, [(0, .ref 171), (1, .int c), (2, .int w)], [.int c, .ref 174], 0, 0) 72 2 (fun _ => rfl) h) ?_
        refine pj_X_of (fun r h => pj_T_il iG1 rfl rfl (by omega) (by omega) h) ?_
        show pj_X _ _ G1 73 [(0, .ref 171), (1, .int c), (2, .int w)] [.int (pj_ai G1 174 c.toInt.toNat)] _
        obtain ⟨z14, hz14⟩ : ∃ z : Int32, z = pj_ai G1 174 c.toInt.toNat := ⟨_, rfl⟩
        refine pj_X_eqi hz14.symm ?_
        have ez14 : (pj_ai G1 174 c.toInt.toNat).toInt = z14.toInt := by rw [hz14]
        have fz14_0 : (0 : Int) ≤ z14.toInt ∧ z14.toInt ≤ 7 ∧ (z14.toInt ≤ 0 ∨ 0 ≤ z14.toInt) := by rw [hz14]; exact iG1.2.2.1 174 (10, 0, 7, 0, 0) rfl _ (by show _ < 10; omega)
        exact pj_X_rt rfl rfl ⟨_, rfl, iG1, kG1, pj_i32 _⟩
      by_cases t15 : w.toInt = 2
      · refine pj_X_of (fun r h => pj_R_tw 74 rfl (n := 2) t15 rfl h) ?_
        refine pj_X_of (fun r h => pj_R_to (G1, 75, [(0, .ref 171), (1, .int c), (2, .int w)], [.ref 171], 0, 0) 75 2 (fun _ => rfl) h) ?_
        refine pj_X_of (fun r h => pj_T_gr iG1 rfl rfl rfl h) ?_
        refine pj_X_of (fun r h => pj_R_to (G1, 79, [(0, .ref 171), (1, .int c), (2, .int w)], [.int c, .ref 175], 0, 0) 79 2 (fun _ => rfl) h) ?_
        refine pj_X_of (fun r h => pj_T_il iG1 rfl rfl (by omega) (by omega) h) ?_
        show pj_X _ _ G1 80 [(0, .ref 171), (1, .int c), (2, .int w)] [.int (pj_ai G1 175 c.toInt.toNat)] _
        obtain ⟨z16, hz16⟩ : ∃ z : Int32, z = pj_ai G1 175 c.toInt.toNat := ⟨_, rfl⟩
        refine pj_X_eqi hz16.symm ?_
        have ez16 : (pj_ai G1 175 c.toInt.toNat).toInt = z16.toInt := by rw [hz16]
        have fz16_0 : (0 : Int) ≤ z16.toInt ∧ z16.toInt ≤ 99 ∧ (z16.toInt ≤ 0 ∨ 0 ≤ z16.toInt) := by rw [hz16]; exact iG1.2.2.1 175 (10, 0, 99, 0, 0) rfl _ (by show _ < 10; omega)
        exact pj_X_rt rfl rfl ⟨_, rfl, iG1, kG1, pj_i32 _⟩
      by_cases t17 : w.toInt = 3
      · refine pj_X_of (fun r h => pj_R_tw 81 rfl (n := 3) t17 rfl h) ?_
        refine pj_X_of (fun r h => pj_R_to (G1, 82, [(0, .ref 171), (1, .int c), (2, .int w)], [.ref 171], 0, 0) 82 2 (fun _ => rfl) h) ?_
        refine pj_X_of (fun r h => pj_T_gr iG1 rfl rfl rfl h) ?_
        refine pj_X_of (fun r h => pj_R_to (G1, 86, [(0, .ref 171), (1, .int c), (2, .int w)], [.int c, .ref 176], 0, 0) 86 2 (fun _ => rfl) h) ?_
        refine pj_X_of (fun r h => pj_T_il iG1 rfl rfl (by omega) (by omega) h) ?_
        show pj_X _ _ G1 87 [(0, .ref 171), (1, .int c), (2, .int w)] [.int (pj_ai G1 176 c.toInt.toNat)] _
        obtain ⟨z18, hz18⟩ : ∃ z : Int32, z = pj_ai G1 176 c.toInt.toNat := ⟨_, rfl⟩
        refine pj_X_eqi hz18.symm ?_
        have ez18 : (pj_ai G1 176 c.toInt.toNat).toInt = z18.toInt := by rw [hz18]
        exact pj_X_rt rfl rfl ⟨_, rfl, iG1, kG1, pj_i32 _⟩
      refine pj_X_of (fun r h => pj_R_td 88 rfl (by omega) rfl h) ?_
      refine pj_X_of (fun r h => pj_R_to (G1, 92, [(0, .ref 171), (1, .int c), (2, .int w)], [.int (Int32.ofInt 4), .int w, .int c, .ref 171], 0, 0) 92 5 (fun _ => rfl) h) ?_
      cases b19 : pj_c1 .ne w (Int32.ofInt 4) with
      | true =>
        have ub19 := pj_u_neT b19
        refine pj_X_of (fun r h => pj_R_icT 99 rfl rfl b19 h) ?_
        refine pj_X_of (fun r h => pj_R_to (G1, 100, [(0, .ref 171), (1, .int c), (2, .int w)], [.int (Int32.ofInt 0), .int c, .ref 171], 0, 0) 100 2 (fun _ => rfl) h) ?_
        refine pj_X_ca (vs := [.ref 171, .int c, .int (Int32.ofInt 0)]) rfl (fun _ => rfl) ⟨Nat.le_of_ble_eq_true rfl, Nat.le_of_ble_eq_true rfl, pj_T_rcv iG1 rfl⟩ ⟨rfl, rfl⟩ (pj_Y_up (by decide) (ct_205x G1 iG1 c (Int32.ofInt 0) ⟨by omega, by omega⟩)) ?_
        rintro _ _ ⟨y20, rfl, rfl, ry20, ey20, fy20⟩
        replace ey20 := ey20 _ rfl
        show pj_X _ _ G1 103 [(0, .ref 171), (1, .int c), (2, .int w)] [.int y20] _
        exact pj_X_rt rfl rfl ⟨_, rfl, iG1, kG1, pj_i32 _⟩
      | false =>
        have ub19 := pj_u_neF b19
        refine pj_X_of (fun r h => pj_R_icF rfl b19 h) ?_
        refine pj_X_of (fun r h => pj_R_to (G1, 100, [(0, .ref 171), (1, .int c), (2, .int w)], [.int (Int32.ofInt 1), .int c, .ref 171], 0, 0) 100 3 (fun _ => rfl) h) ?_
        refine pj_X_ca (vs := [.ref 171, .int c, .int (Int32.ofInt 1)]) rfl (fun _ => rfl) ⟨Nat.le_of_ble_eq_true rfl, Nat.le_of_ble_eq_true rfl, pj_T_rcv iG1 rfl⟩ ⟨rfl, rfl⟩ (pj_Y_up (by decide) (ct_205x G1 iG1 c (Int32.ofInt 1) ⟨by omega, by omega⟩)) ?_
        rintro _ _ ⟨y21, rfl, rfl, ry21, ey21, fy21⟩
        replace ey21 := ey21 _ rfl
        show pj_X _ _ G1 103 [(0, .ref 171), (1, .int c), (2, .int w)] [.int y21] _
        exact pj_X_rt rfl rfl ⟨_, rfl, iG1, kG1, pj_i32 _⟩
    | false =>
      have ub10 := pj_u0_neF b10
      refine pj_X_of (fun r h => pj_R_ifF rfl b10 h) ?_
      refine pj_X_of (fun r h => pj_R_to (G1, 26, [(0, .ref 171), (1, .int c), (2, .int w)], [.ref 171], 0, 0) 26 2 (fun _ => rfl) h) ?_
      refine pj_X_ca (vs := [.ref 171]) rfl (fun _ => rfl) ⟨Nat.le_of_ble_eq_true rfl, Nat.le_of_ble_eq_true rfl, pj_T_rcv iG1 rfl⟩ ⟨rfl, rfl⟩ (pj_Y_up (by decide) (ct_169 G1 iG1)) ?_
      rintro _ G23 ⟨y22, rfl, iG23, jG23, ry22⟩
      have kG23 : pj_kpt kc_210 G0 G23 := pj_kpt_t kG1 (pj_kpt_s jG23 rfl)
      show pj_X _ _ G23 29 [(0, .ref 171), (1, .int c), (2, .int w)] [.int y22] _
      exact pj_X_rt rfl rfl ⟨_, rfl, iG23, kG23, pj_i32 _⟩
def kc_211 : pj_KT := ([(171, 0)], [171], [])
theorem ct_211 (G0 : pj_G) (hI : pj_Inv G0) (b : Int32) (w : Int32) : pj_Y 3 211 [.ref 171, .int b, .int w] G0 (fun v G' => ∃ y : Int32, v = some (.int y) ∧ pj_Inv G' ∧ pj_kpt kc_211 G0 G' ∧ ((-2147483648 : Int) ≤ y.toInt ∧ y.toInt ≤ 2147483647)) := by
  have c0_ : (Int32.ofInt 0).toInt = 0 := by decide
  have c1_ : (Int32.ofInt 1).toInt = 1 := by decide
  have c2_ : (Int32.ofInt 2).toInt = 2 := by decide
  have c3_ : (Int32.ofInt 3).toInt = 3 := by decide
  have c4_ : (Int32.ofInt 4).toInt = 4 := by decide
  refine pj_Y_X (M := pj_m211) rfl rfl (Nat.le_of_ble_eq_true rfl) ?_
  have hK : pj_kpt kc_211 G0 G0 := pj_kpt_r _ _
  show pj_X _ _ G0 0 [(0, .ref 171), (1, .int b), (2, .int w)] [] _
  refine pj_X_of (fun r h => pj_R_to (G0, 2, [(0, .ref 171), (1, .int b), (2, .int w)], [.int (Int32.ofInt 0), .ref 171], 0, 0) 2 3 (fun _ => rfl) h) ?_
  refine pj_X_of (fun r h => pj_T_pf hI rfl rfl rfl h) ?_
  show pj_X _ _ (pj_wv G0 171 0 (.int (Int32.ofInt 0))) 5 [(0, .ref 171), (1, .int b), (2, .int w)] [] _
  obtain ⟨G1, hG1⟩ : ∃ H, H = pj_wv G0 171 0 (.int (Int32.ofInt 0)) := ⟨_, rfl⟩
  have iG1 : pj_Inv G1 := by rw [hG1]; exact pj_Inv_wi hI (ci := 12) rfl (fun q hq => by cases hq)
  have kG1 : pj_kpt kc_211 G0 G1 := by rw [hG1]; exact pj_kpt_v hK rfl
  rw [← hG1]
  refine pj_X_of (fun r h => pj_R_to (G1, 7, [(0, .ref 171), (1, .int b), (2, .int w)], [.int b, .ref 171], 0, 0) 7 3 (fun _ => rfl) h) ?_
  refine pj_X_ca (vs := [.ref 171, .int b]) rfl (fun _ => rfl) ⟨Nat.le_of_ble_eq_true rfl, Nat.le_of_ble_eq_true rfl, pj_T_rcv iG1 rfl⟩ ⟨rfl, rfl⟩ (pj_Y_up (by decide) (ct_177x G1 iG1 b)) ?_
  rintro _ _ ⟨y2, rfl, rfl, ry2, ey2, fy2⟩
  replace ey2 := ey2 _ rfl
  show pj_X _ _ G1 10 [(0, .ref 171), (1, .int b), (2, .int w)] [.int y2] _
  cases b3 : pj_c1 .eq y2 0 with
  | true =>
    have ub3 := pj_u0_eqT b3
    refine pj_X_of (fun r h => pj_R_ifT 25 rfl rfl b3 h) ?_
    refine pj_X_of (fun r h => pj_R_to (G1, 26, [(0, .ref 171), (1, .int b), (2, .int w)], [.ref 171], 0, 0) 26 2 (fun _ => rfl) h) ?_
    refine pj_X_ca (vs := [.ref 171]) rfl (fun _ => rfl) ⟨Nat.le_of_ble_eq_true rfl, Nat.le_of_ble_eq_true rfl, pj_T_rcv iG1 rfl⟩ ⟨rfl, rfl⟩ (pj_Y_up (by decide) (ct_169 G1 iG1)) ?_
    rintro _ G5 ⟨y4, rfl, iG5, jG5, ry4⟩
    have kG5 : pj_kpt kc_211 G0 G5 := pj_kpt_t kG1 (pj_kpt_s jG5 rfl)
    show pj_X _ _ G5 29 [(0, .ref 171), (1, .int b), (2, .int w)] [.int y4] _
    exact pj_X_rt rfl rfl ⟨_, rfl, iG5, kG5, pj_i32 _⟩
  | false =>
    have ub3 := pj_u0_eqF b3
    refine pj_X_of (fun r h => pj_R_ifF rfl b3 h) ?_
    refine pj_X_of (fun r h => pj_R_to (G1, 19, [(0, .ref 171), (1, .int b), (2, .int w)], [.long (Int64.ofInt 4), .long (Int64.ofNat 0), .long w.toInt64], 0, 0) 19 5 (fun _ => rfl) h) ?_
    have lc6 : (w.toInt64).toInt = w.toInt := Int32.toInt_toInt64 _
    have lc7 : (Int64.ofNat 0).toInt = 0 := by decide
    have lc8 : (Int64.ofInt 4).toInt = 4 := by decide
    refine pj_X_ca (vs := [.long w.toInt64, .long (Int64.ofNat 0), .long (Int64.ofInt 4)]) rfl (fun _ => rfl) ⟨Nat.le_of_ble_eq_true rfl, Nat.le_of_ble_eq_true rfl, rfl⟩ ⟨rfl, rfl⟩ (pj_Y_up (by decide) (ct_170x G1 iG1 w.toInt64 (Int64.ofNat 0) (Int64.ofInt 4))) ?_
    rintro _ _ ⟨y9, rfl, rfl, ry9, ey9, fy9⟩
    show pj_X _ _ G1 22 [(0, .ref 171), (1, .int b), (2, .int w)] [.int y9] _
    cases b10 : pj_c1 .ne y9 0 with
    | true =>
      have ub10 := pj_u0_neT b10
      refine pj_X_of (fun r h => pj_R_ifT 30 rfl rfl b10 h) ?_
      refine pj_X_of (fun r h => pj_R_to (G1, 31, [(0, .ref 171), (1, .int b), (2, .int w)], [.int w], 0, 0) 31 2 (fun _ => rfl) h) ?_
      by_cases t11 : w.toInt = 0
      · refine pj_X_of (fun r h => pj_R_tw 60 rfl (n := 0) t11 rfl h) ?_
        refine pj_X_of (fun r h => pj_R_to (G1, 61, [(0, .ref 171), (1, .int b), (2, .int w)], [.ref 171], 0, 0) 61 2 (fun _ => rfl) h) ?_
        refine pj_X_of (fun r h => pj_T_gr iG1 rfl rfl rfl h) ?_
        refine pj_X_of (fun r h => pj_R_to (G1, 65, [(0, .ref 171), (1, .int b), (2, .int w)], [.int b, .ref 177], 0, 0) 65 2 (fun _ => rfl) h) ?_
        refine pj_X_of (fun r h => pj_T_il iG1 rfl rfl (by omega) (by omega) h) ?_
        show pj_X _ _ G1 66 [(0, .ref 171), (1, .int b), (2, .int w)] [.int (pj_ai G1 177 b.toInt.toNat)] _
        obtain ⟨z12, hz12⟩ : ∃ z : Int32, z = pj_ai G1 177 b.toInt.toNat := ⟨_, rfl⟩
        refine pj_X_eqi hz12.symm ?_
        have ez12 : (pj_ai G1 177 b.toInt.toNat).toInt = z12.toInt := by rw [hz12]
        exact pj_X_rt rfl rfl ⟨_, rfl, iG1, kG1, pj_i32 _⟩
      by_cases t13 : w.toInt = 1
      · refine pj_X_of (fun r h => pj_R_tw 67 rfl (n := 1) t13 rfl h) ?_
        refine pj_X_of (fun r h => pj_R_to (G1, 68, [(0, .ref 171), (1, .int b), (2, .int w)], [.ref 171], 0, 0) 68 2 (fun _ => rfl) h) ?_
        refine pj_X_of (fun r h => pj_T_gr iG1 rfl rfl rfl h) ?_
        refine pj_X_of (fun r h => pj_R_to (G1, 74, [(0, .ref 171), (1, .int b), (2, .int w)], [.int ((Int32.ofInt 4) * b), .ref 179], 0, 0) 74 4 (fun _ => rfl) h) ?_
        obtain ⟨z14, hz14⟩ : ∃ z : Int32, z = (Int32.ofInt 4) * b := ⟨_, rfl⟩
        refine pj_X_eqi hz14.symm ?_
        have fz14_0 : z14.toInt = 4 * b.toInt := by rw [hz14]; exact pj_mulL (by decide) (by omega) (by omega)
        refine pj_X_of (fun r h => pj_R_to (G1, 76, [(0, .ref 171), (1, .int b), (2, .int w)], [.int (z14 + (Int32.ofInt 3)), .ref 179], 0, 0) 76 3 (fun _ => rfl) h) ?_
        obtain ⟨z15, hz15⟩ : ∃ z : Int32, z = z14 + (Int32.ofInt 3) := ⟨_, rfl⟩
        refine pj_X_eqi hz15.symm ?_
        have fz15_0 : z15.toInt = z14.toInt + (Int32.ofInt 3).toInt := by rw [hz15]; exact pj_addI (by have := pj_i32 z14; have := pj_i32 (Int32.ofInt 3); omega) (by have := pj_i32 z14; have := pj_i32 (Int32.ofInt 3); omega)
        refine pj_X_of (fun r h => pj_T_il iG1 rfl rfl (by omega) (by omega) h) ?_
        show pj_X _ _ G1 77 [(0, .ref 171), (1, .int b), (2, .int w)] [.int (pj_ai G1 179 z15.toInt.toNat)] _
        obtain ⟨z16, hz16⟩ : ∃ z : Int32, z = pj_ai G1 179 z15.toInt.toNat := ⟨_, rfl⟩
        refine pj_X_eqi hz16.symm ?_
        have ez16 : (pj_ai G1 179 z15.toInt.toNat).toInt = z16.toInt := by rw [hz16]
        exact pj_X_rt rfl rfl ⟨_, rfl, iG1, kG1, pj_i32 _⟩
      by_cases t17 : w.toInt = 2
      · refine pj_X_of (fun r h => pj_R_tw 78 rfl (n := 2) t17 rfl h) ?_
        refine pj_X_of (fun r h => pj_R_to (G1, 79, [(0, .ref 171), (1, .int b), (2, .int w)], [.ref 171], 0, 0) 79 2 (fun _ => rfl) h) ?_
        refine pj_X_of (fun r h => pj_T_gr iG1 rfl rfl rfl h) ?_
        refine pj_X_of (fun r h => pj_R_to (G1, 85, [(0, .ref 171), (1, .int b), (2, .int w)], [.int ((Int32.ofInt 4) * b), .ref 179], 0, 0) 85 4 (fun _ => rfl) h) ?_
        obtain ⟨z18, hz18⟩ : ∃ z : Int32, z = (Int32.ofInt 4) * b := ⟨_, rfl⟩
        refine pj_X_eqi hz18.symm ?_
        have fz18_0 : z18.toInt = 4 * b.toInt := by rw [hz18]; exact pj_mulL (by decide) (by omega) (by omega)
        refine pj_X_of (fun r h => pj_R_to (G1, 87, [(0, .ref 171), (1, .int b), (2, .int w)], [.int (z18 + (Int32.ofInt 0)), .ref 179], 0, 0) 87 3 (fun _ => rfl) h) ?_
        obtain ⟨z19, hz19⟩ : ∃ z : Int32, z = z18 + (Int32.ofInt 0) := ⟨_, rfl⟩
        refine pj_X_eqi hz19.symm ?_
        have fz19_0 : z19.toInt = z18.toInt + (Int32.ofInt 0).toInt := by rw [hz19]; exact pj_addI (by have := pj_i32 z18; have := pj_i32 (Int32.ofInt 0); omega) (by have := pj_i32 z18; have := pj_i32 (Int32.ofInt 0); omega)
        refine pj_X_of (fun r h => pj_T_il iG1 rfl rfl (by omega) (by omega) h) ?_
        show pj_X _ _ G1 88 [(0, .ref 171), (1, .int b), (2, .int w)] [.int (pj_ai G1 179 z19.toInt.toNat)] _
        obtain ⟨z20, hz20⟩ : ∃ z : Int32, z = pj_ai G1 179 z19.toInt.toNat := ⟨_, rfl⟩
        refine pj_X_eqi hz20.symm ?_
        have ez20 : (pj_ai G1 179 z19.toInt.toNat).toInt = z20.toInt := by rw [hz20]
        have fz20_0 : -1 ≤ z20.toInt ∧ z20.toInt ≤ 9 := by rw [hz20]; exact ((iG1.2.2.2 179 32 rfl _ (by show _ < 32; omega)).1 (by omega)).1 (by omega)
        exact pj_X_rt rfl rfl ⟨_, rfl, iG1, kG1, pj_i32 _⟩
      by_cases t21 : w.toInt = 3
      · refine pj_X_of (fun r h => pj_R_tw 89 rfl (n := 3) t21 rfl h) ?_
        refine pj_X_of (fun r h => pj_R_to (G1, 90, [(0, .ref 171), (1, .int b), (2, .int w)], [.ref 171], 0, 0) 90 2 (fun _ => rfl) h) ?_
        refine pj_X_of (fun r h => pj_T_gr iG1 rfl rfl rfl h) ?_
        refine pj_X_of (fun r h => pj_R_to (G1, 96, [(0, .ref 171), (1, .int b), (2, .int w)], [.int ((Int32.ofInt 4) * b), .ref 179], 0, 0) 96 4 (fun _ => rfl) h) ?_
        obtain ⟨z22, hz22⟩ : ∃ z : Int32, z = (Int32.ofInt 4) * b := ⟨_, rfl⟩
        refine pj_X_eqi hz22.symm ?_
        have fz22_0 : z22.toInt = 4 * b.toInt := by rw [hz22]; exact pj_mulL (by decide) (by omega) (by omega)
        refine pj_X_of (fun r h => pj_R_to (G1, 98, [(0, .ref 171), (1, .int b), (2, .int w)], [.int (z22 + (Int32.ofInt 1)), .ref 179], 0, 0) 98 3 (fun _ => rfl) h) ?_
        obtain ⟨z23, hz23⟩ : ∃ z : Int32, z = z22 + (Int32.ofInt 1) := ⟨_, rfl⟩
        refine pj_X_eqi hz23.symm ?_
        have fz23_0 : z23.toInt = z22.toInt + (Int32.ofInt 1).toInt := by rw [hz23]; exact pj_addI (by have := pj_i32 z22; have := pj_i32 (Int32.ofInt 1); omega) (by have := pj_i32 z22; have := pj_i32 (Int32.ofInt 1); omega)
        refine pj_X_of (fun r h => pj_T_il iG1 rfl rfl (by omega) (by omega) h) ?_
        show pj_X _ _ G1 99 [(0, .ref 171), (1, .int b), (2, .int w)] [.int (pj_ai G1 179 z23.toInt.toNat)] _
        obtain ⟨z24, hz24⟩ : ∃ z : Int32, z = pj_ai G1 179 z23.toInt.toNat := ⟨_, rfl⟩
        refine pj_X_eqi hz24.symm ?_
        have ez24 : (pj_ai G1 179 z23.toInt.toNat).toInt = z24.toInt := by rw [hz24]
        have fz24_0 : 0 ≤ z24.toInt := by rw [hz24]; exact ((iG1.2.2.2 179 32 rfl _ (by show _ < 32; omega)).1 (by omega)).2 (by omega)
        exact pj_X_rt rfl rfl ⟨_, rfl, iG1, kG1, pj_i32 _⟩
      refine pj_X_of (fun r h => pj_R_td 100 rfl (by omega) rfl h) ?_
      refine pj_X_of (fun r h => pj_R_to (G1, 101, [(0, .ref 171), (1, .int b), (2, .int w)], [.ref 171], 0, 0) 101 2 (fun _ => rfl) h) ?_
      refine pj_X_of (fun r h => pj_T_gr iG1 rfl rfl rfl h) ?_
      refine pj_X_of (fun r h => pj_R_to (G1, 107, [(0, .ref 171), (1, .int b), (2, .int w)], [.int ((Int32.ofInt 4) * b), .ref 179], 0, 0) 107 4 (fun _ => rfl) h) ?_
      obtain ⟨z25, hz25⟩ : ∃ z : Int32, z = (Int32.ofInt 4) * b := ⟨_, rfl⟩
      refine pj_X_eqi hz25.symm ?_
      have fz25_0 : z25.toInt = 4 * b.toInt := by rw [hz25]; exact pj_mulL (by decide) (by omega) (by omega)
      refine pj_X_of (fun r h => pj_R_to (G1, 109, [(0, .ref 171), (1, .int b), (2, .int w)], [.int (z25 + (Int32.ofInt 2)), .ref 179], 0, 0) 109 3 (fun _ => rfl) h) ?_
      obtain ⟨z26, hz26⟩ : ∃ z : Int32, z = z25 + (Int32.ofInt 2) := ⟨_, rfl⟩
      refine pj_X_eqi hz26.symm ?_
      have fz26_0 : z26.toInt = z25.toInt + (Int32.ofInt 2).toInt := by rw [hz26]; exact pj_addI (by have := pj_i32 z25; have := pj_i32 (Int32.ofInt 2); omega) (by have := pj_i32 z25; have := pj_i32 (Int32.ofInt 2); omega)
      refine pj_X_of (fun r h => pj_T_il iG1 rfl rfl (by omega) (by omega) h) ?_
      show pj_X _ _ G1 110 [(0, .ref 171), (1, .int b), (2, .int w)] [.int (pj_ai G1 179 z26.toInt.toNat)] _
      obtain ⟨z27, hz27⟩ : ∃ z : Int32, z = pj_ai G1 179 z26.toInt.toNat := ⟨_, rfl⟩
      refine pj_X_eqi hz27.symm ?_
      have ez27 : (pj_ai G1 179 z26.toInt.toNat).toInt = z27.toInt := by rw [hz27]
      exact pj_X_rt rfl rfl ⟨_, rfl, iG1, kG1, pj_i32 _⟩
    | false =>
      have ub10 := pj_u0_neF b10
      refine pj_X_of (fun r h => pj_R_ifF rfl b10 h) ?_
      refine pj_X_of (fun r h => pj_R_to (G1, 26, [(0, .ref 171), (1, .int b), (2, .int w)], [.ref 171], 0, 0) 26 2 (fun _ => rfl) h) ?_
      refine pj_X_ca (vs := [.ref 171]) rfl (fun _ => rfl) ⟨Nat.le_of_ble_eq_true rfl, Nat.le_of_ble_eq_true rfl, pj_T_rcv iG1 rfl⟩ ⟨rfl, rfl⟩ (pj_Y_up (by decide) (ct_169 G1 iG1)) ?_
      rintro _ G29 ⟨y28, rfl, iG29, jG29, ry28⟩
      have kG29 : pj_kpt kc_211 G0 G29 := pj_kpt_t kG1 (pj_kpt_s jG29 rfl)
      show pj_X _ _ G29 29 [(0, .ref 171), (1, .int b), (2, .int w)] [.int y28] _
      exact pj_X_rt rfl rfl ⟨_, rfl, iG29, kG29, pj_i32 _⟩
def kc_212 : pj_KT := ([(171, 0)], [171], [])
theorem ct_212 (G0 : pj_G) (hI : pj_Inv G0) (p : Int32) (w : Int32) : pj_Y 3 212 [.ref 171, .int p, .int w] G0 (fun v G' => ∃ y : Int32, v = some (.int y) ∧ pj_Inv G' ∧ pj_kpt kc_212 G0 G' ∧ ((-2147483648 : Int) ≤ y.toInt ∧ y.toInt ≤ 2147483647)) := by
  have c0_ : ((Int8.ofInt 24).toInt32).toInt = 24 := by decide
  have c1_ : (Int32.ofInt 0).toInt = 0 := by decide
  refine pj_Y_X (M := pj_m212) rfl rfl (Nat.le_of_ble_eq_true rfl) ?_
  have hK : pj_kpt kc_212 G0 G0 := pj_kpt_r _ _
  show pj_X _ _ G0 0 [(0, .ref 171), (1, .int p), (2, .int w)] [] _
  refine pj_X_of (fun r h => pj_R_to (G0, 2, [(0, .ref 171), (1, .int p), (2, .int w)], [.int (Int32.ofInt 0), .ref 171], 0, 0) 2 3 (fun _ => rfl) h) ?_
  refine pj_X_of (fun r h => pj_T_pf hI rfl rfl rfl h) ?_
  show pj_X _ _ (pj_wv G0 171 0 (.int (Int32.ofInt 0))) 5 [(0, .ref 171), (1, .int p), (2, .int w)] [] _
  obtain ⟨G1, hG1⟩ : ∃ H, H = pj_wv G0 171 0 (.int (Int32.ofInt 0)) := ⟨_, rfl⟩
  have iG1 : pj_Inv G1 := by rw [hG1]; exact pj_Inv_wi hI (ci := 12) rfl (fun q hq => by cases hq)
  have kG1 : pj_kpt kc_212 G0 G1 := by rw [hG1]; exact pj_kpt_v hK rfl
  rw [← hG1]
  refine pj_X_of (fun r h => pj_R_to (G1, 7, [(0, .ref 171), (1, .int p), (2, .int w)], [.int p, .ref 171], 0, 0) 7 3 (fun _ => rfl) h) ?_
  refine pj_X_ca (vs := [.ref 171, .int p]) rfl (fun _ => rfl) ⟨Nat.le_of_ble_eq_true rfl, Nat.le_of_ble_eq_true rfl, pj_T_rcv iG1 rfl⟩ ⟨rfl, rfl⟩ (pj_Y_up (by decide) (ct_178x G1 iG1 p)) ?_
  rintro _ _ ⟨y2, rfl, rfl, ry2, ey2, fy2⟩
  replace ey2 := ey2 _ rfl
  show pj_X _ _ G1 10 [(0, .ref 171), (1, .int p), (2, .int w)] [.int y2] _
  cases b3 : pj_c1 .eq y2 0 with
  | true =>
    have ub3 := pj_u0_eqT b3
    refine pj_X_of (fun r h => pj_R_ifT 23 rfl rfl b3 h) ?_
    refine pj_X_of (fun r h => pj_R_to (G1, 24, [(0, .ref 171), (1, .int p), (2, .int w)], [.ref 171], 0, 0) 24 2 (fun _ => rfl) h) ?_
    refine pj_X_ca (vs := [.ref 171]) rfl (fun _ => rfl) ⟨Nat.le_of_ble_eq_true rfl, Nat.le_of_ble_eq_true rfl, pj_T_rcv iG1 rfl⟩ ⟨rfl, rfl⟩ (pj_Y_up (by decide) (ct_169 G1 iG1)) ?_
    rintro _ G5 ⟨y4, rfl, iG5, jG5, ry4⟩
    have kG5 : pj_kpt kc_212 G0 G5 := pj_kpt_t kG1 (pj_kpt_s jG5 rfl)
    show pj_X _ _ G5 27 [(0, .ref 171), (1, .int p), (2, .int w)] [.int y4] _
    exact pj_X_rt rfl rfl ⟨_, rfl, iG5, kG5, pj_i32 _⟩
  | false =>
    have ub3 := pj_u0_eqF b3
    refine pj_X_of (fun r h => pj_R_ifF rfl b3 h) ?_
    refine pj_X_of (fun r h => pj_R_to (G1, 17, [(0, .ref 171), (1, .int p), (2, .int w)], [.long (Int64.ofNat 1), .long (Int64.ofNat 0), .long w.toInt64], 0, 0) 17 5 (fun _ => rfl) h) ?_
    have lc6 : (w.toInt64).toInt = w.toInt := Int32.toInt_toInt64 _
    have lc7 : (Int64.ofNat 0).toInt = 0 := by decide
    have lc8 : (Int64.ofNat 1).toInt = 1 := by decide
    refine pj_X_ca (vs := [.long w.toInt64, .long (Int64.ofNat 0), .long (Int64.ofNat 1)]) rfl (fun _ => rfl) ⟨Nat.le_of_ble_eq_true rfl, Nat.le_of_ble_eq_true rfl, rfl⟩ ⟨rfl, rfl⟩ (pj_Y_up (by decide) (ct_170x G1 iG1 w.toInt64 (Int64.ofNat 0) (Int64.ofNat 1))) ?_
    rintro _ _ ⟨y9, rfl, rfl, ry9, ey9, fy9⟩
    show pj_X _ _ G1 20 [(0, .ref 171), (1, .int p), (2, .int w)] [.int y9] _
    cases b10 : pj_c1 .ne y9 0 with
    | true =>
      have ub10 := pj_u0_neT b10
      refine pj_X_of (fun r h => pj_R_ifT 28 rfl rfl b10 h) ?_
      refine pj_X_of (fun r h => pj_R_to (G1, 29, [(0, .ref 171), (1, .int p), (2, .int w)], [.int w], 0, 0) 29 2 (fun _ => rfl) h) ?_
      cases b11 : pj_c1 .ne w 0 with
      | true =>
        have ub11 := pj_u0_neT b11
        refine pj_X_of (fun r h => pj_R_ifT 44 rfl rfl b11 h) ?_
        refine pj_X_of (fun r h => pj_R_to (G1, 45, [(0, .ref 171), (1, .int p), (2, .int w)], [.ref 171], 0, 0) 45 2 (fun _ => rfl) h) ?_
        refine pj_X_of (fun r h => pj_T_gr iG1 rfl rfl rfl h) ?_
        refine pj_X_of (fun r h => pj_R_to (G1, 49, [(0, .ref 171), (1, .int p), (2, .int w)], [.int p, .ref 178], 0, 0) 49 2 (fun _ => rfl) h) ?_
        refine pj_X_of (fun r h => pj_T_il iG1 rfl rfl (by omega) (by omega) h) ?_
        show pj_X _ _ G1 50 [(0, .ref 171), (1, .int p), (2, .int w)] [.int (pj_ai G1 178 p.toInt.toNat)] _
        obtain ⟨z12, hz12⟩ : ∃ z : Int32, z = pj_ai G1 178 p.toInt.toNat := ⟨_, rfl⟩
        refine pj_X_eqi hz12.symm ?_
        have ez12 : (pj_ai G1 178 p.toInt.toNat).toInt = z12.toInt := by rw [hz12]
        exact pj_X_rt rfl rfl ⟨_, rfl, iG1, kG1, pj_i32 _⟩
      | false =>
        have ub11 := pj_u0_neF b11
        refine pj_X_of (fun r h => pj_R_ifF rfl b11 h) ?_
        refine pj_X_of (fun r h => pj_R_to (G1, 33, [(0, .ref 171), (1, .int p), (2, .int w)], [.ref 171], 0, 0) 33 2 (fun _ => rfl) h) ?_
        refine pj_X_of (fun r h => pj_T_gr iG1 rfl rfl rfl h) ?_
        refine pj_X_of (fun r h => pj_R_to (G1, 40, [(0, .ref 171), (1, .int p), (2, .int w)], [.int (((Int8.ofInt 24).toInt32) + p), .ref 179], 0, 0) 40 4 (fun _ => rfl) h) ?_
        obtain ⟨z13, hz13⟩ : ∃ z : Int32, z = ((Int8.ofInt 24).toInt32) + p := ⟨_, rfl⟩
        refine pj_X_eqi hz13.symm ?_
        have fz13_0 : z13.toInt = ((Int8.ofInt 24).toInt32).toInt + p.toInt := by rw [hz13]; exact pj_addI (by have := pj_i32 ((Int8.ofInt 24).toInt32); have := pj_i32 p; omega) (by have := pj_i32 ((Int8.ofInt 24).toInt32); have := pj_i32 p; omega)
        refine pj_X_of (fun r h => pj_T_il iG1 rfl rfl (by omega) (by omega) h) ?_
        show pj_X _ _ G1 41 [(0, .ref 171), (1, .int p), (2, .int w)] [.int (pj_ai G1 179 z13.toInt.toNat)] _
        obtain ⟨z14, hz14⟩ : ∃ z : Int32, z = pj_ai G1 179 z13.toInt.toNat := ⟨_, rfl⟩
        refine pj_X_eqi hz14.symm ?_
        have ez14 : (pj_ai G1 179 z13.toInt.toNat).toInt = z14.toInt := by rw [hz14]
        have fz14_0 : 0 ≤ z14.toInt ∧ z14.toInt ≤ 7 := by rw [hz14]; exact (iG1.2.2.2 179 32 rfl _ (by show _ < 32; omega)).2 ⟨by omega, by omega⟩
        refine pj_X_of (fun r h => pj_R_to (G1, 50, [(0, .ref 171), (1, .int p), (2, .int w)], [.int z14], 0, 0) 50 2 (fun _ => rfl) h) ?_
        exact pj_X_rt rfl rfl ⟨_, rfl, iG1, kG1, pj_i32 _⟩
    | false =>
      have ub10 := pj_u0_neF b10
      refine pj_X_of (fun r h => pj_R_ifF rfl b10 h) ?_
      refine pj_X_of (fun r h => pj_R_to (G1, 24, [(0, .ref 171), (1, .int p), (2, .int w)], [.ref 171], 0, 0) 24 2 (fun _ => rfl) h) ?_
      refine pj_X_ca (vs := [.ref 171]) rfl (fun _ => rfl) ⟨Nat.le_of_ble_eq_true rfl, Nat.le_of_ble_eq_true rfl, pj_T_rcv iG1 rfl⟩ ⟨rfl, rfl⟩ (pj_Y_up (by decide) (ct_169 G1 iG1)) ?_
      rintro _ G16 ⟨y15, rfl, iG16, jG16, ry15⟩
      have kG16 : pj_kpt kc_212 G0 G16 := pj_kpt_t kG1 (pj_kpt_s jG16 rfl)
      show pj_X _ _ G16 27 [(0, .ref 171), (1, .int p), (2, .int w)] [.int y15] _
      exact pj_X_rt rfl rfl ⟨_, rfl, iG16, kG16, pj_i32 _⟩
def kc_213 : pj_KT := ([(171, 0)], [171, 179], [179])
theorem lp_ct_213 (G0 : pj_G) (hI0 : pj_Inv G0) (kd : Int32) (n : Int32) (f : Int32) (sp : Int32) : ∀ mn : Nat, (∀ (G : pj_G) (hI : pj_Inv G) (hK : pj_kpt kc_213 G0 G) (v5 : Int32) (v6 : Int32) (v7 : Int32), ((-2147483648 : Int) ≤ v5.toInt ∧ v5.toInt ≤ 2147483647) → ((-2147483648 : Int) ≤ v6.toInt ∧ v6.toInt ≤ 2147483647) → ((0 : Int) ≤ v7.toInt ∧ v7.toInt ≤ 6) → 6 - v7.toInt < (mn : Int) → pj_X 1 pj_m213 G 46 [(0, .ref 171), (1, .int kd), (2, .int n), (3, .int f), (4, .int sp), (5, .int v5), (6, .int v6), (7, .int v7)] [] (fun v G' => ∃ y : Int32, v = some (.int y) ∧ pj_Inv G' ∧ pj_kpt kc_213 G0 G' ∧ ((-2147483648 : Int) ≤ y.toInt ∧ y.toInt ≤ 2147483647))) := by
  have c0_ : ((Int8.ofInt (-2)).toInt32).toInt = -2 := by decide
  have c1_ : ((Int8.ofInt (-3)).toInt32).toInt = -3 := by decide
  have c2_ : ((Int8.ofInt 6).toInt32).toInt = 6 := by decide
  have c3_ : ((Int8.ofInt 9).toInt32).toInt = 9 := by decide
  have c4_ : (Int32.ofInt (-1)).toInt = -1 := by decide
  have c5_ : (Int32.ofInt 0).toInt = 0 := by decide
  have c6_ : (Int32.ofInt 1).toInt = 1 := by decide
  have c7_ : (Int32.ofInt 3).toInt = 3 := by decide
  have c8_ : (Int32.ofInt 4).toInt = 4 := by decide
  intro mn
  induction mn with
  | zero =>
    intro G hI hK v5 v6 v7 rv5 rv6 rv7 hm
    exfalso
    omega
  | succ mn ih =>
    intro G hI hK v5 v6 v7 rv5 rv6 rv7 hm
    refine pj_X_of (fun r h => pj_R_to (G, 49, [(0, .ref 171), (1, .int kd), (2, .int n), (3, .int f), (4, .int sp), (5, .int v5), (6, .int v6), (7, .int v7)], [.ref 171, .int v7], 0, 0) 49 3 (fun _ => rfl) h) ?_
    refine pj_X_of (fun r h => pj_T_gi hI rfl rfl h) ?_
    show pj_X _ _ G 52 [(0, .ref 171), (1, .int kd), (2, .int n), (3, .int f), (4, .int sp), (5, .int v5), (6, .int v6), (7, .int v7)] [.int (pj_fi G 171 5), .int v7] _
    obtain ⟨y1, hy1⟩ : ∃ z : Int32, z = pj_fi G 171 5 := ⟨_, rfl⟩
    refine pj_X_eqi hy1.symm ?_
    have ey1 : (pj_fi G 171 5).toInt = y1.toInt := by rw [hy1]
    have ry1 : (0 : Int) ≤ y1.toInt ∧ y1.toInt ≤ 6 := by rw [hy1]; exact hI.2.1 171 5 (0, 6) rfl
    cases b2 : pj_c1 .ge v7 y1 with
    | true =>
      have ub2 := pj_u_geT b2
      refine pj_X_of (fun r h => pj_R_icT 146 rfl rfl b2 h) ?_
      refine pj_X_of (fun r h => pj_R_to (G, 148, [(0, .ref 171), (1, .int kd), (2, .int n), (3, .int f), (4, .int sp), (5, .int v5), (6, .int v6), (7, .int v7)], [.int (Int32.ofInt 3), .int kd], 0, 0) 148 3 (fun _ => rfl) h) ?_
      cases b3 : pj_c1 .ne kd (Int32.ofInt 3) with
      | true =>
        have ub3 := pj_u_neT b3
        refine pj_X_of (fun r h => pj_R_icT 156 rfl rfl b3 h) ?_
        refine pj_X_of (fun r h => pj_R_to (G, 158, [(0, .ref 171), (1, .int kd), (2, .int n), (3, .int f), (4, .int sp), (5, .int v5), (6, .int v6), (7, .int v7)], [.int v5], 0, 0) 158 2 (fun _ => rfl) h) ?_
        exact pj_X_rt rfl rfl ⟨_, rfl, hI, hK, pj_i32 _⟩
      | false =>
        have ub3 := pj_u_neF b3
        refine pj_X_of (fun r h => pj_R_icF rfl b3 h) ?_
        refine pj_X_of (fun r h => pj_R_to (G, 158, [(0, .ref 171), (1, .int kd), (2, .int n), (3, .int f), (4, .int sp), (5, .int v5), (6, .int v6), (7, .int v7)], [.int ((Int8.ofInt (-3)).toInt32)], 0, 0) 158 3 (fun _ => rfl) h) ?_
        exact pj_X_rt rfl rfl ⟨_, rfl, hI, hK, pj_i32 _⟩
    | false =>
      have ub2 := pj_u_geF b2
      refine pj_X_of (fun r h => pj_R_icF rfl b2 h) ?_
      refine pj_X_of (fun r h => pj_R_to (G, 56, [(0, .ref 171), (1, .int kd), (2, .int n), (3, .int f), (4, .int sp), (5, .int v5), (6, .int v6), (7, .int v7)], [.int kd], 0, 0) 56 2 (fun _ => rfl) h) ?_
      cases b4 : pj_c1 .ne kd 0 with
      | true =>
        have ub4 := pj_u0_neT b4
        refine pj_X_of (fun r h => pj_R_ifT 65 rfl rfl b4 h) ?_
        refine pj_X_of (fun r h => pj_R_to (G, 67, [(0, .ref 171), (1, .int kd), (2, .int n), (3, .int f), (4, .int sp), (5, .int v5), (6, .int v6), (7, .int v7)], [.int (Int32.ofInt 1), .int kd], 0, 0) 67 3 (fun _ => rfl) h) ?_
        cases b5 : pj_c1 .ne kd (Int32.ofInt 1) with
        | true =>
          have ub5 := pj_u_neT b5
          refine pj_X_of (fun r h => pj_R_icT 76 rfl rfl b5 h) ?_
          refine pj_X_of (fun r h => pj_R_to (G, 81, [(8, .int v6), (0, .ref 171), (1, .int kd), (2, .int n), (3, .int f), (4, .int sp), (5, .int v5), (6, .int v6), (7, .int v7)], [.ref 171], 0, 0) 81 4 (fun _ => rfl) h) ?_
          refine pj_X_of (fun r h => pj_T_gr hI rfl rfl rfl h) ?_
          refine pj_X_of (fun r h => pj_R_to (G, 88, [(8, .int v6), (0, .ref 171), (1, .int kd), (2, .int n), (3, .int f), (4, .int sp), (5, .int v5), (6, .int v6), (7, .int v7)], [.int ((Int32.ofInt 4) * v7), .ref 179], 0, 0) 88 4 (fun _ => rfl) h) ?_
          obtain ⟨z6, hz6⟩ : ∃ z : Int32, z = (Int32.ofInt 4) * v7 := ⟨_, rfl⟩
          refine pj_X_eqi hz6.symm ?_
          have fz6_0 : z6.toInt = 4 * v7.toInt := by rw [hz6]; exact pj_mulL (by decide) (by omega) (by omega)
          refine pj_X_of (fun r h => pj_R_to (G, 90, [(8, .int v6), (0, .ref 171), (1, .int kd), (2, .int n), (3, .int f), (4, .int sp), (5, .int v5), (6, .int v6), (7, .int v7)], [.int (z6 + (Int32.ofInt 3)), .ref 179], 0, 0) 90 3 (fun _ => rfl) h) ?_
          obtain ⟨z7, hz7⟩ : ∃ z : Int32, z = z6 + (Int32.ofInt 3) := ⟨_, rfl⟩
          refine pj_X_eqi hz7.symm ?_
          have fz7_0 : z7.toInt = z6.toInt + (Int32.ofInt 3).toInt := by rw [hz7]; exact pj_addI (by have := pj_i32 z6; have := pj_i32 (Int32.ofInt 3); omega) (by have := pj_i32 z6; have := pj_i32 (Int32.ofInt 3); omega)
          refine pj_X_of (fun r h => pj_R_to (G, 92, [(8, .int v6), (0, .ref 171), (1, .int kd), (2, .int n), (3, .int f), (4, .int sp), (5, .int v5), (6, .int v6), (7, .int v7)], [.int (Int32.ofInt 3), .int kd, .int z7, .ref 179], 0, 0) 92 3 (fun _ => rfl) h) ?_
          cases b8 : pj_c1 .eq kd (Int32.ofInt 3) with
          | true =>
            have ub8 := pj_u_eqT b8
            refine pj_X_of (fun r h => pj_R_icT 101 rfl rfl b8 h) ?_
            refine pj_X_of (fun r h => pj_R_to (G, 116, [(8, .int v6), (0, .ref 171), (1, .int kd), (2, .int n), (3, .int f), (4, .int sp), (5, .int v5), (6, .int v6), (7, .int v7)], [.int (Int32.ofInt 0), .int z7, .ref 179], 0, 0) 116 3 (fun _ => rfl) h) ?_
            refine pj_X_of (fun r h => pj_T_is hI rfl rfl (by omega) (by omega) h) ?_
            show pj_X _ _ (pj_wa G 179 z7.toInt.toNat (Int32.ofInt 0)) 117 [(8, .int v6), (0, .ref 171), (1, .int kd), (2, .int n), (3, .int f), (4, .int sp), (5, .int v5), (6, .int v6), (7, .int v7)] [] _
            obtain ⟨G9, hG9⟩ : ∃ H, H = pj_wa G 179 z7.toInt.toNat (Int32.ofInt 0) := ⟨_, rfl⟩
            have iG9 : pj_Inv G9 := by rw [hG9]; exact pj_Inv_wa hI rfl (fun q hq => by cases hq) (fun n hn => ⟨fun h1 => ⟨fun h2 => by omega, fun h2 => by omega⟩, fun h1 => by omega⟩)
            have kG9 : pj_kpt kc_213 G0 G9 := by rw [hG9]; exact pj_kpt_a hK rfl
            rw [← hG9]
            refine pj_X_of (fun r h => pj_R_to (G9, 120, [(8, .int v6), (0, .ref 171), (1, .int kd), (2, .int n), (3, .int f), (4, .int sp), (5, .int v5), (6, .int v6), (7, .int v7)], [.ref 171, .int v5], 0, 0) 120 3 (fun _ => rfl) h) ?_
            refine pj_X_of (fun r h => pj_T_gr iG9 rfl rfl rfl h) ?_
            refine pj_X_of (fun r h => pj_R_to (G9, 127, [(8, .int v6), (0, .ref 171), (1, .int kd), (2, .int n), (3, .int f), (4, .int sp), (5, .int v5), (6, .int v6), (7, .int v7)], [.int ((Int32.ofInt 4) * v7), .ref 179, .int v5], 0, 0) 127 4 (fun _ => rfl) h) ?_
            obtain ⟨z10, hz10⟩ : ∃ z : Int32, z = (Int32.ofInt 4) * v7 := ⟨_, rfl⟩
            refine pj_X_eqi hz10.symm ?_
            have fz10_0 : z10.toInt = 4 * v7.toInt := by rw [hz10]; exact pj_mulL (by decide) (by omega) (by omega)
            refine pj_X_of (fun r h => pj_R_to (G9, 129, [(8, .int v6), (0, .ref 171), (1, .int kd), (2, .int n), (3, .int f), (4, .int sp), (5, .int v5), (6, .int v6), (7, .int v7)], [.int (z10 + (Int32.ofInt 3)), .ref 179, .int v5], 0, 0) 129 3 (fun _ => rfl) h) ?_
            obtain ⟨z11, hz11⟩ : ∃ z : Int32, z = z10 + (Int32.ofInt 3) := ⟨_, rfl⟩
            refine pj_X_eqi hz11.symm ?_
            have fz11_0 : z11.toInt = z10.toInt + (Int32.ofInt 3).toInt := by rw [hz11]; exact pj_addI (by have := pj_i32 z10; have := pj_i32 (Int32.ofInt 3); omega) (by have := pj_i32 z10; have := pj_i32 (Int32.ofInt 3); omega)
            refine pj_X_of (fun r h => pj_T_il iG9 rfl rfl (by omega) (by omega) h) ?_
            show pj_X _ _ G9 130 [(8, .int v6), (0, .ref 171), (1, .int kd), (2, .int n), (3, .int f), (4, .int sp), (5, .int v5), (6, .int v6), (7, .int v7)] [.int (pj_ai G9 179 z11.toInt.toNat), .int v5] _
            obtain ⟨z12, hz12⟩ : ∃ z : Int32, z = pj_ai G9 179 z11.toInt.toNat := ⟨_, rfl⟩
            refine pj_X_eqi hz12.symm ?_
            have ez12 : (pj_ai G9 179 z11.toInt.toNat).toInt = z12.toInt := by rw [hz12]
            refine pj_X_of (fun r h => pj_R_to (G9, 131, [(8, .int v6), (0, .ref 171), (1, .int kd), (2, .int n), (3, .int f), (4, .int sp), (5, .int v5), (6, .int v6), (7, .int v7)], [.int (v5 + z12)], 0, 0) 131 2 (fun _ => rfl) h) ?_
            obtain ⟨z13, hz13⟩ : ∃ z : Int32, z = v5 + z12 := ⟨_, rfl⟩
            refine pj_X_eqi hz13.symm ?_
            refine pj_X_of (fun r h => pj_R_to (G9, 138, [(5, .int z13), (8, .int v6), (0, .ref 171), (1, .int kd), (2, .int n), (3, .int f), (4, .int sp), (6, .int v6), (7, .int v7)], [.int (v6 + sp)], 0, 0) 138 5 (fun _ => rfl) h) ?_
            obtain ⟨z14, hz14⟩ : ∃ z : Int32, z = v6 + sp := ⟨_, rfl⟩
            refine pj_X_eqi hz14.symm ?_
            refine pj_X_of (fun r h => pj_R_to (G9, 143, [(7, .int (v7 + Int32.ofInt 1)), (6, .int z14), (5, .int z13), (8, .int v6), (0, .ref 171), (1, .int kd), (2, .int n), (3, .int f), (4, .int sp)], [], 0, 0) 143 3 (fun _ => rfl) h) ?_
            obtain ⟨z15, hz15⟩ : ∃ z : Int32, z = v7 + Int32.ofInt 1 := ⟨_, rfl⟩
            rw [← hz15]
            have fz15_0 : z15.toInt = v7.toInt + (Int32.ofInt 1).toInt := by rw [hz15]; exact pj_addI (by have := pj_i32 v7; have := pj_i32 (Int32.ofInt 1); omega) (by have := pj_i32 v7; have := pj_i32 (Int32.ofInt 1); omega)
            refine pj_X_of (fun r h => pj_R_to (G9, 46, [(7, .int z15), (6, .int z14), (5, .int z13), (8, .int v6), (0, .ref 171), (1, .int kd), (2, .int n), (3, .int f), (4, .int sp)], [], 0, 0) 46 2 (fun _ => rfl) h) ?_
            exact pj_X_sub [(0, .ref 171), (1, .int kd), (2, .int n), (3, .int f), (4, .int sp), (5, .int z13), (6, .int z14), (7, .int z15)] (show List.Nodup [0, 1, 2, 3, 4, 5, 6, 7] by decide) ⟨rfl, rfl, rfl, rfl, rfl, rfl, rfl, rfl, trivial⟩ (ih G9 iG9 kG9 z13 z14 z15 (pj_i32 _) (pj_i32 _) ⟨by omega, by omega⟩ (by omega))
          | false =>
            have ub8 := pj_u_eqF b8
            refine pj_X_of (fun r h => pj_R_icF rfl b8 h) ?_
            refine pj_X_of (fun r h => pj_R_to (G, 98, [(8, .int v6), (0, .ref 171), (1, .int kd), (2, .int n), (3, .int f), (4, .int sp), (5, .int v5), (6, .int v6), (7, .int v7)], [.int n, .int v7, .int z7, .ref 179], 0, 0) 98 3 (fun _ => rfl) h) ?_
            cases b16 : pj_c1 .lt v7 n with
            | true =>
              have ub16 := pj_u_ltT b16
              refine pj_X_of (fun r h => pj_R_icT 105 rfl rfl b16 h) ?_
              refine pj_X_of (fun r h => pj_R_to (G, 110, [(8, .int v6), (0, .ref 171), (1, .int kd), (2, .int n), (3, .int f), (4, .int sp), (5, .int v5), (6, .int v6), (7, .int v7)], [.int v6, .int ((Int8.ofInt 9).toInt32), .int (Int32.ofInt 0), .int z7, .ref 179], 0, 0) 110 4 (fun _ => rfl) h) ?_
              refine pj_X_of (fun r h => pj_R_mn (v := (if v6 < ((Int8.ofInt 9).toInt32) then v6 else ((Int8.ofInt 9).toInt32))) rfl rfl rfl (Nat.le_of_ble_eq_true rfl) h) ?_
              show pj_X _ _ G 113 [(8, .int v6), (0, .ref 171), (1, .int kd), (2, .int n), (3, .int f), (4, .int sp), (5, .int v5), (6, .int v6), (7, .int v7)] [.int (if v6 < ((Int8.ofInt 9).toInt32) then v6 else ((Int8.ofInt 9).toInt32)), .int (Int32.ofInt 0), .int z7, .ref 179] _
              obtain ⟨z17, hz17⟩ : ∃ z : Int32, z = (if v6 < ((Int8.ofInt 9).toInt32) then v6 else ((Int8.ofInt 9).toInt32)) := ⟨_, rfl⟩
              refine pj_X_eqi hz17.symm ?_
              have fz17_0 : z17.toInt ≤ ((Int8.ofInt 9).toInt32).toInt ∧ z17.toInt ≤ v6.toInt ∧ (z17.toInt = ((Int8.ofInt 9).toInt32).toInt ∨ z17.toInt = v6.toInt) := by rw [hz17]; exact pj_minI
              refine pj_X_of (fun r h => pj_R_mx (v := (if (Int32.ofInt 0) < z17 then z17 else (Int32.ofInt 0))) rfl rfl rfl (Nat.le_of_ble_eq_true rfl) h) ?_
              show pj_X _ _ G 116 [(8, .int v6), (0, .ref 171), (1, .int kd), (2, .int n), (3, .int f), (4, .int sp), (5, .int v5), (6, .int v6), (7, .int v7)] [.int (if (Int32.ofInt 0) < z17 then z17 else (Int32.ofInt 0)), .int z7, .ref 179] _
              obtain ⟨z18, hz18⟩ : ∃ z : Int32, z = (if (Int32.ofInt 0) < z17 then z17 else (Int32.ofInt 0)) := ⟨_, rfl⟩
              refine pj_X_eqi hz18.symm ?_
              have fz18_0 : (Int32.ofInt 0).toInt ≤ z18.toInt ∧ z17.toInt ≤ z18.toInt ∧ (z18.toInt = (Int32.ofInt 0).toInt ∨ z18.toInt = z17.toInt) := by rw [hz18]; exact pj_maxI
              refine pj_X_of (fun r h => pj_T_is hI rfl rfl (by omega) (by omega) h) ?_
              show pj_X _ _ (pj_wa G 179 z7.toInt.toNat z18) 117 [(8, .int v6), (0, .ref 171), (1, .int kd), (2, .int n), (3, .int f), (4, .int sp), (5, .int v5), (6, .int v6), (7, .int v7)] [] _
              obtain ⟨G19, hG19⟩ : ∃ H, H = pj_wa G 179 z7.toInt.toNat z18 := ⟨_, rfl⟩
              have iG19 : pj_Inv G19 := by rw [hG19]; exact pj_Inv_wa hI rfl (fun q hq => by cases hq) (fun n hn => ⟨fun h1 => ⟨fun h2 => by omega, fun h2 => by omega⟩, fun h1 => by omega⟩)
              have kG19 : pj_kpt kc_213 G0 G19 := by rw [hG19]; exact pj_kpt_a hK rfl
              rw [← hG19]
              refine pj_X_of (fun r h => pj_R_to (G19, 120, [(8, .int v6), (0, .ref 171), (1, .int kd), (2, .int n), (3, .int f), (4, .int sp), (5, .int v5), (6, .int v6), (7, .int v7)], [.ref 171, .int v5], 0, 0) 120 3 (fun _ => rfl) h) ?_
              refine pj_X_of (fun r h => pj_T_gr iG19 rfl rfl rfl h) ?_
              refine pj_X_of (fun r h => pj_R_to (G19, 127, [(8, .int v6), (0, .ref 171), (1, .int kd), (2, .int n), (3, .int f), (4, .int sp), (5, .int v5), (6, .int v6), (7, .int v7)], [.int ((Int32.ofInt 4) * v7), .ref 179, .int v5], 0, 0) 127 4 (fun _ => rfl) h) ?_
              obtain ⟨z20, hz20⟩ : ∃ z : Int32, z = (Int32.ofInt 4) * v7 := ⟨_, rfl⟩
              refine pj_X_eqi hz20.symm ?_
              have fz20_0 : z20.toInt = 4 * v7.toInt := by rw [hz20]; exact pj_mulL (by decide) (by omega) (by omega)
              refine pj_X_of (fun r h => pj_R_to (G19, 129, [(8, .int v6), (0, .ref 171), (1, .int kd), (2, .int n), (3, .int f), (4, .int sp), (5, .int v5), (6, .int v6), (7, .int v7)], [.int (z20 + (Int32.ofInt 3)), .ref 179, .int v5], 0, 0) 129 3 (fun _ => rfl) h) ?_
              obtain ⟨z21, hz21⟩ : ∃ z : Int32, z = z20 + (Int32.ofInt 3) := ⟨_, rfl⟩
              refine pj_X_eqi hz21.symm ?_
              have fz21_0 : z21.toInt = z20.toInt + (Int32.ofInt 3).toInt := by rw [hz21]; exact pj_addI (by have := pj_i32 z20; have := pj_i32 (Int32.ofInt 3); omega) (by have := pj_i32 z20; have := pj_i32 (Int32.ofInt 3); omega)
              refine pj_X_of (fun r h => pj_T_il iG19 rfl rfl (by omega) (by omega) h) ?_
              show pj_X _ _ G19 130 [(8, .int v6), (0, .ref 171), (1, .int kd), (2, .int n), (3, .int f), (4, .int sp), (5, .int v5), (6, .int v6), (7, .int v7)] [.int (pj_ai G19 179 z21.toInt.toNat), .int v5] _
              obtain ⟨z22, hz22⟩ : ∃ z : Int32, z = pj_ai G19 179 z21.toInt.toNat := ⟨_, rfl⟩
              refine pj_X_eqi hz22.symm ?_
              have ez22 : (pj_ai G19 179 z21.toInt.toNat).toInt = z22.toInt := by rw [hz22]
              refine pj_X_of (fun r h => pj_R_to (G19, 131, [(8, .int v6), (0, .ref 171), (1, .int kd), (2, .int n), (3, .int f), (4, .int sp), (5, .int v5), (6, .int v6), (7, .int v7)], [.int (v5 + z22)], 0, 0) 131 2 (fun _ => rfl) h) ?_
              obtain ⟨z23, hz23⟩ : ∃ z : Int32, z = v5 + z22 := ⟨_, rfl⟩
              refine pj_X_eqi hz23.symm ?_
              refine pj_X_of (fun r h => pj_R_to (G19, 138, [(5, .int z23), (8, .int v6), (0, .ref 171), (1, .int kd), (2, .int n), (3, .int f), (4, .int sp), (6, .int v6), (7, .int v7)], [.int (v6 + sp)], 0, 0) 138 5 (fun _ => rfl) h) ?_
              obtain ⟨z24, hz24⟩ : ∃ z : Int32, z = v6 + sp := ⟨_, rfl⟩
              refine pj_X_eqi hz24.symm ?_
              refine pj_X_of (fun r h => pj_R_to (G19, 143, [(7, .int (v7 + Int32.ofInt 1)), (6, .int z24), (5, .int z23), (8, .int v6), (0, .ref 171), (1, .int kd), (2, .int n), (3, .int f), (4, .int sp)], [], 0, 0) 143 3 (fun _ => rfl) h) ?_
              obtain ⟨z25, hz25⟩ : ∃ z : Int32, z = v7 + Int32.ofInt 1 := ⟨_, rfl⟩
              rw [← hz25]
              have fz25_0 : z25.toInt = v7.toInt + (Int32.ofInt 1).toInt := by rw [hz25]; exact pj_addI (by have := pj_i32 v7; have := pj_i32 (Int32.ofInt 1); omega) (by have := pj_i32 v7; have := pj_i32 (Int32.ofInt 1); omega)
              refine pj_X_of (fun r h => pj_R_to (G19, 46, [(7, .int z25), (6, .int z24), (5, .int z23), (8, .int v6), (0, .ref 171), (1, .int kd), (2, .int n), (3, .int f), (4, .int sp)], [], 0, 0) 46 2 (fun _ => rfl) h) ?_
              exact pj_X_sub [(0, .ref 171), (1, .int kd), (2, .int n), (3, .int f), (4, .int sp), (5, .int z23), (6, .int z24), (7, .int z25)] (show List.Nodup [0, 1, 2, 3, 4, 5, 6, 7] by decide) ⟨rfl, rfl, rfl, rfl, rfl, rfl, rfl, rfl, trivial⟩ (ih G19 iG19 kG19 z23 z24 z25 (pj_i32 _) (pj_i32 _) ⟨by omega, by omega⟩ (by omega))
            | false =>
              have ub16 := pj_u_ltF b16
              refine pj_X_of (fun r h => pj_R_icF rfl b16 h) ?_
              refine pj_X_of (fun r h => pj_R_to (G, 116, [(8, .int v6), (0, .ref 171), (1, .int kd), (2, .int n), (3, .int f), (4, .int sp), (5, .int v5), (6, .int v6), (7, .int v7)], [.int (Int32.ofInt 0), .int z7, .ref 179], 0, 0) 116 3 (fun _ => rfl) h) ?_
              refine pj_X_of (fun r h => pj_T_is hI rfl rfl (by omega) (by omega) h) ?_
              show pj_X _ _ (pj_wa G 179 z7.toInt.toNat (Int32.ofInt 0)) 117 [(8, .int v6), (0, .ref 171), (1, .int kd), (2, .int n), (3, .int f), (4, .int sp), (5, .int v5), (6, .int v6), (7, .int v7)] [] _
              obtain ⟨G26, hG26⟩ : ∃ H, H = pj_wa G 179 z7.toInt.toNat (Int32.ofInt 0) := ⟨_, rfl⟩
              have iG26 : pj_Inv G26 := by rw [hG26]; exact pj_Inv_wa hI rfl (fun q hq => by cases hq) (fun n hn => ⟨fun h1 => ⟨fun h2 => by omega, fun h2 => by omega⟩, fun h1 => by omega⟩)
              have kG26 : pj_kpt kc_213 G0 G26 := by rw [hG26]; exact pj_kpt_a hK rfl
              rw [← hG26]
              refine pj_X_of (fun r h => pj_R_to (G26, 120, [(8, .int v6), (0, .ref 171), (1, .int kd), (2, .int n), (3, .int f), (4, .int sp), (5, .int v5), (6, .int v6), (7, .int v7)], [.ref 171, .int v5], 0, 0) 120 3 (fun _ => rfl) h) ?_
              refine pj_X_of (fun r h => pj_T_gr iG26 rfl rfl rfl h) ?_
              refine pj_X_of (fun r h => pj_R_to (G26, 127, [(8, .int v6), (0, .ref 171), (1, .int kd), (2, .int n), (3, .int f), (4, .int sp), (5, .int v5), (6, .int v6), (7, .int v7)], [.int ((Int32.ofInt 4) * v7), .ref 179, .int v5], 0, 0) 127 4 (fun _ => rfl) h) ?_
              obtain ⟨z27, hz27⟩ : ∃ z : Int32, z = (Int32.ofInt 4) * v7 := ⟨_, rfl⟩
              refine pj_X_eqi hz27.symm ?_
              have fz27_0 : z27.toInt = 4 * v7.toInt := by rw [hz27]; exact pj_mulL (by decide) (by omega) (by omega)
              refine pj_X_of (fun r h => pj_R_to (G26, 129, [(8, .int v6), (0, .ref 171), (1, .int kd), (2, .int n), (3, .int f), (4, .int sp), (5, .int v5), (6, .int v6), (7, .int v7)], [.int (z27 + (Int32.ofInt 3)), .ref 179, .int v5], 0, 0) 129 3 (fun _ => rfl) h) ?_
              obtain ⟨z28, hz28⟩ : ∃ z : Int32, z = z27 + (Int32.ofInt 3) := ⟨_, rfl⟩
              refine pj_X_eqi hz28.symm ?_
              have fz28_0 : z28.toInt = z27.toInt + (Int32.ofInt 3).toInt := by rw [hz28]; exact pj_addI (by have := pj_i32 z27; have := pj_i32 (Int32.ofInt 3); omega) (by have := pj_i32 z27; have := pj_i32 (Int32.ofInt 3); omega)
              refine pj_X_of (fun r h => pj_T_il iG26 rfl rfl (by omega) (by omega) h) ?_
              show pj_X _ _ G26 130 [(8, .int v6), (0, .ref 171), (1, .int kd), (2, .int n), (3, .int f), (4, .int sp), (5, .int v5), (6, .int v6), (7, .int v7)] [.int (pj_ai G26 179 z28.toInt.toNat), .int v5] _
              obtain ⟨z29, hz29⟩ : ∃ z : Int32, z = pj_ai G26 179 z28.toInt.toNat := ⟨_, rfl⟩
              refine pj_X_eqi hz29.symm ?_
              have ez29 : (pj_ai G26 179 z28.toInt.toNat).toInt = z29.toInt := by rw [hz29]
              refine pj_X_of (fun r h => pj_R_to (G26, 131, [(8, .int v6), (0, .ref 171), (1, .int kd), (2, .int n), (3, .int f), (4, .int sp), (5, .int v5), (6, .int v6), (7, .int v7)], [.int (v5 + z29)], 0, 0) 131 2 (fun _ => rfl) h) ?_
              obtain ⟨z30, hz30⟩ : ∃ z : Int32, z = v5 + z29 := ⟨_, rfl⟩
              refine pj_X_eqi hz30.symm ?_
              refine pj_X_of (fun r h => pj_R_to (G26, 138, [(5, .int z30), (8, .int v6), (0, .ref 171), (1, .int kd), (2, .int n), (3, .int f), (4, .int sp), (6, .int v6), (7, .int v7)], [.int (v6 + sp)], 0, 0) 138 5 (fun _ => rfl) h) ?_
              obtain ⟨z31, hz31⟩ : ∃ z : Int32, z = v6 + sp := ⟨_, rfl⟩
              refine pj_X_eqi hz31.symm ?_
              refine pj_X_of (fun r h => pj_R_to (G26, 143, [(7, .int (v7 + Int32.ofInt 1)), (6, .int z31), (5, .int z30), (8, .int v6), (0, .ref 171), (1, .int kd), (2, .int n), (3, .int f), (4, .int sp)], [], 0, 0) 143 3 (fun _ => rfl) h) ?_
              obtain ⟨z32, hz32⟩ : ∃ z : Int32, z = v7 + Int32.ofInt 1 := ⟨_, rfl⟩
              rw [← hz32]
              have fz32_0 : z32.toInt = v7.toInt + (Int32.ofInt 1).toInt := by rw [hz32]; exact pj_addI (by have := pj_i32 v7; have := pj_i32 (Int32.ofInt 1); omega) (by have := pj_i32 v7; have := pj_i32 (Int32.ofInt 1); omega)
              refine pj_X_of (fun r h => pj_R_to (G26, 46, [(7, .int z32), (6, .int z31), (5, .int z30), (8, .int v6), (0, .ref 171), (1, .int kd), (2, .int n), (3, .int f), (4, .int sp)], [], 0, 0) 46 2 (fun _ => rfl) h) ?_
              exact pj_X_sub [(0, .ref 171), (1, .int kd), (2, .int n), (3, .int f), (4, .int sp), (5, .int z30), (6, .int z31), (7, .int z32)] (show List.Nodup [0, 1, 2, 3, 4, 5, 6, 7] by decide) ⟨rfl, rfl, rfl, rfl, rfl, rfl, rfl, rfl, trivial⟩ (ih G26 iG26 kG26 z30 z31 z32 (pj_i32 _) (pj_i32 _) ⟨by omega, by omega⟩ (by omega))
        | false =>
          have ub5 := pj_u_neF b5
          refine pj_X_of (fun r h => pj_R_icF rfl b5 h) ?_
          refine pj_X_of (fun r h => pj_R_to (G, 73, [(0, .ref 171), (1, .int kd), (2, .int n), (3, .int f), (4, .int sp), (5, .int v5), (6, .int v6), (7, .int v7)], [.int v6.toInt16.toInt32], 0, 0) 73 3 (fun _ => rfl) h) ?_
          obtain ⟨z33, hz33⟩ : ∃ z : Int32, z = v6.toInt16.toInt32 := ⟨_, rfl⟩
          refine pj_X_eqi hz33.symm ?_
          refine pj_X_of (fun r h => pj_R_to (G, 81, [(8, .int z33), (0, .ref 171), (1, .int kd), (2, .int n), (3, .int f), (4, .int sp), (5, .int v5), (6, .int v6), (7, .int v7)], [.ref 171], 0, 0) 81 4 (fun _ => rfl) h) ?_
          refine pj_X_of (fun r h => pj_T_gr hI rfl rfl rfl h) ?_
          refine pj_X_of (fun r h => pj_R_to (G, 88, [(8, .int z33), (0, .ref 171), (1, .int kd), (2, .int n), (3, .int f), (4, .int sp), (5, .int v5), (6, .int v6), (7, .int v7)], [.int ((Int32.ofInt 4) * v7), .ref 179], 0, 0) 88 4 (fun _ => rfl) h) ?_
          obtain ⟨z34, hz34⟩ : ∃ z : Int32, z = (Int32.ofInt 4) * v7 := ⟨_, rfl⟩
          refine pj_X_eqi hz34.symm ?_
          have fz34_0 : z34.toInt = 4 * v7.toInt := by rw [hz34]; exact pj_mulL (by decide) (by omega) (by omega)
          refine pj_X_of (fun r h => pj_R_to (G, 90, [(8, .int z33), (0, .ref 171), (1, .int kd), (2, .int n), (3, .int f), (4, .int sp), (5, .int v5), (6, .int v6), (7, .int v7)], [.int (z34 + (Int32.ofInt 3)), .ref 179], 0, 0) 90 3 (fun _ => rfl) h) ?_
          obtain ⟨z35, hz35⟩ : ∃ z : Int32, z = z34 + (Int32.ofInt 3) := ⟨_, rfl⟩
          refine pj_X_eqi hz35.symm ?_
          have fz35_0 : z35.toInt = z34.toInt + (Int32.ofInt 3).toInt := by rw [hz35]; exact pj_addI (by have := pj_i32 z34; have := pj_i32 (Int32.ofInt 3); omega) (by have := pj_i32 z34; have := pj_i32 (Int32.ofInt 3); omega)
          refine pj_X_of (fun r h => pj_R_to (G, 92, [(8, .int z33), (0, .ref 171), (1, .int kd), (2, .int n), (3, .int f), (4, .int sp), (5, .int v5), (6, .int v6), (7, .int v7)], [.int (Int32.ofInt 3), .int kd, .int z35, .ref 179], 0, 0) 92 3 (fun _ => rfl) h) ?_
          refine pj_X_of (fun r h => pj_R_icF rfl (pj_b_eqF (by omega)) h) ?_
          refine pj_X_of (fun r h => pj_R_to (G, 98, [(8, .int z33), (0, .ref 171), (1, .int kd), (2, .int n), (3, .int f), (4, .int sp), (5, .int v5), (6, .int v6), (7, .int v7)], [.int n, .int v7, .int z35, .ref 179], 0, 0) 98 3 (fun _ => rfl) h) ?_
          cases b36 : pj_c1 .lt v7 n with
          | true =>
            have ub36 := pj_u_ltT b36
            refine pj_X_of (fun r h => pj_R_icT 105 rfl rfl b36 h) ?_
            refine pj_X_of (fun r h => pj_R_to (G, 110, [(8, .int z33), (0, .ref 171), (1, .int kd), (2, .int n), (3, .int f), (4, .int sp), (5, .int v5), (6, .int v6), (7, .int v7)], [.int z33, .int ((Int8.ofInt 9).toInt32), .int (Int32.ofInt 0), .int z35, .ref 179], 0, 0) 110 4 (fun _ => rfl) h) ?_
            refine pj_X_of (fun r h => pj_R_mn (v := (if z33 < ((Int8.ofInt 9).toInt32) then z33 else ((Int8.ofInt 9).toInt32))) rfl rfl rfl (Nat.le_of_ble_eq_true rfl) h) ?_
            show pj_X _ _ G 113 [(8, .int z33), (0, .ref 171), (1, .int kd), (2, .int n), (3, .int f), (4, .int sp), (5, .int v5), (6, .int v6), (7, .int v7)] [.int (if z33 < ((Int8.ofInt 9).toInt32) then z33 else ((Int8.ofInt 9).toInt32)), .int (Int32.ofInt 0), .int z35, .ref 179] _
            obtain ⟨z37, hz37⟩ : ∃ z : Int32, z = (if z33 < ((Int8.ofInt 9).toInt32) then z33 else ((Int8.ofInt 9).toInt32)) := ⟨_, rfl⟩
            refine pj_X_eqi hz37.symm ?_
            have fz37_0 : z37.toInt ≤ ((Int8.ofInt 9).toInt32).toInt ∧ z37.toInt ≤ z33.toInt ∧ (z37.toInt = ((Int8.ofInt 9).toInt32).toInt ∨ z37.toInt = z33.toInt) := by rw [hz37]; exact pj_minI
            refine pj_X_of (fun r h => pj_R_mx (v := (if (Int32.ofInt 0) < z37 then z37 else (Int32.ofInt 0))) rfl rfl rfl (Nat.le_of_ble_eq_true rfl) h) ?_
            show pj_X _ _ G 116 [(8, .int z33), (0, .ref 171), (1, .int kd), (2, .int n), (3, .int f), (4, .int sp), (5, .int v5), (6, .int v6), (7, .int v7)] [.int (if (Int32.ofInt 0) < z37 then z37 else (Int32.ofInt 0)), .int z35, .ref 179] _
            obtain ⟨z38, hz38⟩ : ∃ z : Int32, z = (if (Int32.ofInt 0) < z37 then z37 else (Int32.ofInt 0)) := ⟨_, rfl⟩
            refine pj_X_eqi hz38.symm ?_
            have fz38_0 : (Int32.ofInt 0).toInt ≤ z38.toInt ∧ z37.toInt ≤ z38.toInt ∧ (z38.toInt = (Int32.ofInt 0).toInt ∨ z38.toInt = z37.toInt) := by rw [hz38]; exact pj_maxI
            refine pj_X_of (fun r h => pj_T_is hI rfl rfl (by omega) (by omega) h) ?_
            show pj_X _ _ (pj_wa G 179 z35.toInt.toNat z38) 117 [(8, .int z33), (0, .ref 171), (1, .int kd), (2, .int n), (3, .int f), (4, .int sp), (5, .int v5), (6, .int v6), (7, .int v7)] [] _
            obtain ⟨G39, hG39⟩ : ∃ H, H = pj_wa G 179 z35.toInt.toNat z38 := ⟨_, rfl⟩
            have iG39 : pj_Inv G39 := by rw [hG39]; exact pj_Inv_wa hI rfl (fun q hq => by cases hq) (fun n hn => ⟨fun h1 => ⟨fun h2 => by omega, fun h2 => by omega⟩, fun h1 => by omega⟩)
            have kG39 : pj_kpt kc_213 G0 G39 := by rw [hG39]; exact pj_kpt_a hK rfl
            rw [← hG39]
            refine pj_X_of (fun r h => pj_R_to (G39, 120, [(8, .int z33), (0, .ref 171), (1, .int kd), (2, .int n), (3, .int f), (4, .int sp), (5, .int v5), (6, .int v6), (7, .int v7)], [.ref 171, .int v5], 0, 0) 120 3 (fun _ => rfl) h) ?_
            refine pj_X_of (fun r h => pj_T_gr iG39 rfl rfl rfl h) ?_
            refine pj_X_of (fun r h => pj_R_to (G39, 127, [(8, .int z33), (0, .ref 171), (1, .int kd), (2, .int n), (3, .int f), (4, .int sp), (5, .int v5), (6, .int v6), (7, .int v7)], [.int ((Int32.ofInt 4) * v7), .ref 179, .int v5], 0, 0) 127 4 (fun _ => rfl) h) ?_
            obtain ⟨z40, hz40⟩ : ∃ z : Int32, z = (Int32.ofInt 4) * v7 := ⟨_, rfl⟩
            refine pj_X_eqi hz40.symm ?_
            have fz40_0 : z40.toInt = 4 * v7.toInt := by rw [hz40]; exact pj_mulL (by decide) (by omega) (by omega)
            refine pj_X_of (fun r h => pj_R_to (G39, 129, [(8, .int z33), (0, .ref 171), (1, .int kd), (2, .int n), (3, .int f), (4, .int sp), (5, .int v5), (6, .int v6), (7, .int v7)], [.int (z40 + (Int32.ofInt 3)), .ref 179, .int v5], 0, 0) 129 3 (fun _ => rfl) h) ?_
            obtain ⟨z41, hz41⟩ : ∃ z : Int32, z = z40 + (Int32.ofInt 3) := ⟨_, rfl⟩
            refine pj_X_eqi hz41.symm ?_
            have fz41_0 : z41.toInt = z40.toInt + (Int32.ofInt 3).toInt := by rw [hz41]; exact pj_addI (by have := pj_i32 z40; have := pj_i32 (Int32.ofInt 3); omega) (by have := pj_i32 z40; have := pj_i32 (Int32.ofInt 3); omega)
            refine pj_X_of (fun r h => pj_T_il iG39 rfl rfl (by omega) (by omega) h) ?_
            show pj_X _ _ G39 130 [(8, .int z33), (0, .ref 171), (1, .int kd), (2, .int n), (3, .int f), (4, .int sp), (5, .int v5), (6, .int v6), (7, .int v7)] [.int (pj_ai G39 179 z41.toInt.toNat), .int v5] _
            obtain ⟨z42, hz42⟩ : ∃ z : Int32, z = pj_ai G39 179 z41.toInt.toNat := ⟨_, rfl⟩
            refine pj_X_eqi hz42.symm ?_
            have ez42 : (pj_ai G39 179 z41.toInt.toNat).toInt = z42.toInt := by rw [hz42]
            refine pj_X_of (fun r h => pj_R_to (G39, 131, [(8, .int z33), (0, .ref 171), (1, .int kd), (2, .int n), (3, .int f), (4, .int sp), (5, .int v5), (6, .int v6), (7, .int v7)], [.int (v5 + z42)], 0, 0) 131 2 (fun _ => rfl) h) ?_
            obtain ⟨z43, hz43⟩ : ∃ z : Int32, z = v5 + z42 := ⟨_, rfl⟩
            refine pj_X_eqi hz43.symm ?_
            refine pj_X_of (fun r h => pj_R_to (G39, 138, [(5, .int z43), (8, .int z33), (0, .ref 171), (1, .int kd), (2, .int n), (3, .int f), (4, .int sp), (6, .int v6), (7, .int v7)], [.int (v6 + sp)], 0, 0) 138 5 (fun _ => rfl) h) ?_
            obtain ⟨z44, hz44⟩ : ∃ z : Int32, z = v6 + sp := ⟨_, rfl⟩
            refine pj_X_eqi hz44.symm ?_
            refine pj_X_of (fun r h => pj_R_to (G39, 143, [(7, .int (v7 + Int32.ofInt 1)), (6, .int z44), (5, .int z43), (8, .int z33), (0, .ref 171), (1, .int kd), (2, .int n), (3, .int f), (4, .int sp)], [], 0, 0) 143 3 (fun _ => rfl) h) ?_
            obtain ⟨z45, hz45⟩ : ∃ z : Int32, z = v7 + Int32.ofInt 1 := ⟨_, rfl⟩
            rw [← hz45]
            have fz45_0 : z45.toInt = v7.toInt + (Int32.ofInt 1).toInt := by rw [hz45]; exact pj_addI (by have := pj_i32 v7; have := pj_i32 (Int32.ofInt 1); omega) (by have := pj_i32 v7; have := pj_i32 (Int32.ofInt 1); omega)
            refine pj_X_of (fun r h => pj_R_to (G39, 46, [(7, .int z45), (6, .int z44), (5, .int z43), (8, .int z33), (0, .ref 171), (1, .int kd), (2, .int n), (3, .int f), (4, .int sp)], [], 0, 0) 46 2 (fun _ => rfl) h) ?_
            exact pj_X_sub [(0, .ref 171), (1, .int kd), (2, .int n), (3, .int f), (4, .int sp), (5, .int z43), (6, .int z44), (7, .int z45)] (show List.Nodup [0, 1, 2, 3, 4, 5, 6, 7] by decide) ⟨rfl, rfl, rfl, rfl, rfl, rfl, rfl, rfl, trivial⟩ (ih G39 iG39 kG39 z43 z44 z45 (pj_i32 _) (pj_i32 _) ⟨by omega, by omega⟩ (by omega))
          | false =>
            have ub36 := pj_u_ltF b36
            refine pj_X_of (fun r h => pj_R_icF rfl b36 h) ?_
            refine pj_X_of (fun r h => pj_R_to (G, 116, [(8, .int z33), (0, .ref 171), (1, .int kd), (2, .int n), (3, .int f), (4, .int sp), (5, .int v5), (6, .int v6), (7, .int v7)], [.int (Int32.ofInt 0), .int z35, .ref 179], 0, 0) 116 3 (fun _ => rfl) h) ?_
            refine pj_X_of (fun r h => pj_T_is hI rfl rfl (by omega) (by omega) h) ?_
            show pj_X _ _ (pj_wa G 179 z35.toInt.toNat (Int32.ofInt 0)) 117 [(8, .int z33), (0, .ref 171), (1, .int kd), (2, .int n), (3, .int f), (4, .int sp), (5, .int v5), (6, .int v6), (7, .int v7)] [] _
            obtain ⟨G46, hG46⟩ : ∃ H, H = pj_wa G 179 z35.toInt.toNat (Int32.ofInt 0) := ⟨_, rfl⟩
            have iG46 : pj_Inv G46 := by rw [hG46]; exact pj_Inv_wa hI rfl (fun q hq => by cases hq) (fun n hn => ⟨fun h1 => ⟨fun h2 => by omega, fun h2 => by omega⟩, fun h1 => by omega⟩)
            have kG46 : pj_kpt kc_213 G0 G46 := by rw [hG46]; exact pj_kpt_a hK rfl
            rw [← hG46]
            refine pj_X_of (fun r h => pj_R_to (G46, 120, [(8, .int z33), (0, .ref 171), (1, .int kd), (2, .int n), (3, .int f), (4, .int sp), (5, .int v5), (6, .int v6), (7, .int v7)], [.ref 171, .int v5], 0, 0) 120 3 (fun _ => rfl) h) ?_
            refine pj_X_of (fun r h => pj_T_gr iG46 rfl rfl rfl h) ?_
            refine pj_X_of (fun r h => pj_R_to (G46, 127, [(8, .int z33), (0, .ref 171), (1, .int kd), (2, .int n), (3, .int f), (4, .int sp), (5, .int v5), (6, .int v6), (7, .int v7)], [.int ((Int32.ofInt 4) * v7), .ref 179, .int v5], 0, 0) 127 4 (fun _ => rfl) h) ?_
            obtain ⟨z47, hz47⟩ : ∃ z : Int32, z = (Int32.ofInt 4) * v7 := ⟨_, rfl⟩
            refine pj_X_eqi hz47.symm ?_
            have fz47_0 : z47.toInt = 4 * v7.toInt := by rw [hz47]; exact pj_mulL (by decide) (by omega) (by omega)
            refine pj_X_of (fun r h => pj_R_to (G46, 129, [(8, .int z33), (0, .ref 171), (1, .int kd), (2, .int n), (3, .int f), (4, .int sp), (5, .int v5), (6, .int v6), (7, .int v7)], [.int (z47 + (Int32.ofInt 3)), .ref 179, .int v5], 0, 0) 129 3 (fun _ => rfl) h) ?_
            obtain ⟨z48, hz48⟩ : ∃ z : Int32, z = z47 + (Int32.ofInt 3) := ⟨_, rfl⟩
            refine pj_X_eqi hz48.symm ?_
            have fz48_0 : z48.toInt = z47.toInt + (Int32.ofInt 3).toInt := by rw [hz48]; exact pj_addI (by have := pj_i32 z47; have := pj_i32 (Int32.ofInt 3); omega) (by have := pj_i32 z47; have := pj_i32 (Int32.ofInt 3); omega)
            refine pj_X_of (fun r h => pj_T_il iG46 rfl rfl (by omega) (by omega) h) ?_
            show pj_X _ _ G46 130 [(8, .int z33), (0, .ref 171), (1, .int kd), (2, .int n), (3, .int f), (4, .int sp), (5, .int v5), (6, .int v6), (7, .int v7)] [.int (pj_ai G46 179 z48.toInt.toNat), .int v5] _
            obtain ⟨z49, hz49⟩ : ∃ z : Int32, z = pj_ai G46 179 z48.toInt.toNat := ⟨_, rfl⟩
            refine pj_X_eqi hz49.symm ?_
            have ez49 : (pj_ai G46 179 z48.toInt.toNat).toInt = z49.toInt := by rw [hz49]
            refine pj_X_of (fun r h => pj_R_to (G46, 131, [(8, .int z33), (0, .ref 171), (1, .int kd), (2, .int n), (3, .int f), (4, .int sp), (5, .int v5), (6, .int v6), (7, .int v7)], [.int (v5 + z49)], 0, 0) 131 2 (fun _ => rfl) h) ?_
            obtain ⟨z50, hz50⟩ : ∃ z : Int32, z = v5 + z49 := ⟨_, rfl⟩
            refine pj_X_eqi hz50.symm ?_
            refine pj_X_of (fun r h => pj_R_to (G46, 138, [(5, .int z50), (8, .int z33), (0, .ref 171), (1, .int kd), (2, .int n), (3, .int f), (4, .int sp), (6, .int v6), (7, .int v7)], [.int (v6 + sp)], 0, 0) 138 5 (fun _ => rfl) h) ?_
            obtain ⟨z51, hz51⟩ : ∃ z : Int32, z = v6 + sp := ⟨_, rfl⟩
            refine pj_X_eqi hz51.symm ?_
            refine pj_X_of (fun r h => pj_R_to (G46, 143, [(7, .int (v7 + Int32.ofInt 1)), (6, .int z51), (5, .int z50), (8, .int z33), (0, .ref 171), (1, .int kd), (2, .int n), (3, .int f), (4, .int sp)], [], 0, 0) 143 3 (fun _ => rfl) h) ?_
            obtain ⟨z52, hz52⟩ : ∃ z : Int32, z = v7 + Int32.ofInt 1 := ⟨_, rfl⟩
            rw [← hz52]
            have fz52_0 : z52.toInt = v7.toInt + (Int32.ofInt 1).toInt := by rw [hz52]; exact pj_addI (by have := pj_i32 v7; have := pj_i32 (Int32.ofInt 1); omega) (by have := pj_i32 v7; have := pj_i32 (Int32.ofInt 1); omega)
            refine pj_X_of (fun r h => pj_R_to (G46, 46, [(7, .int z52), (6, .int z51), (5, .int z50), (8, .int z33), (0, .ref 171), (1, .int kd), (2, .int n), (3, .int f), (4, .int sp)], [], 0, 0) 46 2 (fun _ => rfl) h) ?_
            exact pj_X_sub [(0, .ref 171), (1, .int kd), (2, .int n), (3, .int f), (4, .int sp), (5, .int z50), (6, .int z51), (7, .int z52)] (show List.Nodup [0, 1, 2, 3, 4, 5, 6, 7] by decide) ⟨rfl, rfl, rfl, rfl, rfl, rfl, rfl, rfl, trivial⟩ (ih G46 iG46 kG46 z50 z51 z52 (pj_i32 _) (pj_i32 _) ⟨by omega, by omega⟩ (by omega))
      | false =>
        have ub4 := pj_u0_neF b4
        refine pj_X_of (fun r h => pj_R_ifF rfl b4 h) ?_
        refine pj_X_of (fun r h => pj_R_to (G, 62, [(0, .ref 171), (1, .int kd), (2, .int n), (3, .int f), (4, .int sp), (5, .int v5), (6, .int v6), (7, .int v7)], [.int v6.toInt8.toInt32], 0, 0) 62 3 (fun _ => rfl) h) ?_
        obtain ⟨z53, hz53⟩ : ∃ z : Int32, z = v6.toInt8.toInt32 := ⟨_, rfl⟩
        refine pj_X_eqi hz53.symm ?_
        refine pj_X_of (fun r h => pj_R_to (G, 81, [(8, .int z53), (0, .ref 171), (1, .int kd), (2, .int n), (3, .int f), (4, .int sp), (5, .int v5), (6, .int v6), (7, .int v7)], [.ref 171], 0, 0) 81 4 (fun _ => rfl) h) ?_
        refine pj_X_of (fun r h => pj_T_gr hI rfl rfl rfl h) ?_
        refine pj_X_of (fun r h => pj_R_to (G, 88, [(8, .int z53), (0, .ref 171), (1, .int kd), (2, .int n), (3, .int f), (4, .int sp), (5, .int v5), (6, .int v6), (7, .int v7)], [.int ((Int32.ofInt 4) * v7), .ref 179], 0, 0) 88 4 (fun _ => rfl) h) ?_
        obtain ⟨z54, hz54⟩ : ∃ z : Int32, z = (Int32.ofInt 4) * v7 := ⟨_, rfl⟩
        refine pj_X_eqi hz54.symm ?_
        have fz54_0 : z54.toInt = 4 * v7.toInt := by rw [hz54]; exact pj_mulL (by decide) (by omega) (by omega)
        refine pj_X_of (fun r h => pj_R_to (G, 90, [(8, .int z53), (0, .ref 171), (1, .int kd), (2, .int n), (3, .int f), (4, .int sp), (5, .int v5), (6, .int v6), (7, .int v7)], [.int (z54 + (Int32.ofInt 3)), .ref 179], 0, 0) 90 3 (fun _ => rfl) h) ?_
        obtain ⟨z55, hz55⟩ : ∃ z : Int32, z = z54 + (Int32.ofInt 3) := ⟨_, rfl⟩
        refine pj_X_eqi hz55.symm ?_
        have fz55_0 : z55.toInt = z54.toInt + (Int32.ofInt 3).toInt := by rw [hz55]; exact pj_addI (by have := pj_i32 z54; have := pj_i32 (Int32.ofInt 3); omega) (by have := pj_i32 z54; have := pj_i32 (Int32.ofInt 3); omega)
        refine pj_X_of (fun r h => pj_R_to (G, 92, [(8, .int z53), (0, .ref 171), (1, .int kd), (2, .int n), (3, .int f), (4, .int sp), (5, .int v5), (6, .int v6), (7, .int v7)], [.int (Int32.ofInt 3), .int kd, .int z55, .ref 179], 0, 0) 92 3 (fun _ => rfl) h) ?_
        refine pj_X_of (fun r h => pj_R_icF rfl (pj_b_eqF (by omega)) h) ?_
        refine pj_X_of (fun r h => pj_R_to (G, 98, [(8, .int z53), (0, .ref 171), (1, .int kd), (2, .int n), (3, .int f), (4, .int sp), (5, .int v5), (6, .int v6), (7, .int v7)], [.int n, .int v7, .int z55, .ref 179], 0, 0) 98 3 (fun _ => rfl) h) ?_
        cases b56 : pj_c1 .lt v7 n with
        | true =>
          have ub56 := pj_u_ltT b56
          refine pj_X_of (fun r h => pj_R_icT 105 rfl rfl b56 h) ?_
          refine pj_X_of (fun r h => pj_R_to (G, 110, [(8, .int z53), (0, .ref 171), (1, .int kd), (2, .int n), (3, .int f), (4, .int sp), (5, .int v5), (6, .int v6), (7, .int v7)], [.int z53, .int ((Int8.ofInt 9).toInt32), .int (Int32.ofInt 0), .int z55, .ref 179], 0, 0) 110 4 (fun _ => rfl) h) ?_
          refine pj_X_of (fun r h => pj_R_mn (v := (if z53 < ((Int8.ofInt 9).toInt32) then z53 else ((Int8.ofInt 9).toInt32))) rfl rfl rfl (Nat.le_of_ble_eq_true rfl) h) ?_
          show pj_X _ _ G 113 [(8, .int z53), (0, .ref 171), (1, .int kd), (2, .int n), (3, .int f), (4, .int sp), (5, .int v5), (6, .int v6), (7, .int v7)] [.int (if z53 < ((Int8.ofInt 9).toInt32) then z53 else ((Int8.ofInt 9).toInt32)), .int (Int32.ofInt 0), .int z55, .ref 179] _
          obtain ⟨z57, hz57⟩ : ∃ z : Int32, z = (if z53 < ((Int8.ofInt 9).toInt32) then z53 else ((Int8.ofInt 9).toInt32)) := ⟨_, rfl⟩
          refine pj_X_eqi hz57.symm ?_
          have fz57_0 : z57.toInt ≤ ((Int8.ofInt 9).toInt32).toInt ∧ z57.toInt ≤ z53.toInt ∧ (z57.toInt = ((Int8.ofInt 9).toInt32).toInt ∨ z57.toInt = z53.toInt) := by rw [hz57]; exact pj_minI
          refine pj_X_of (fun r h => pj_R_mx (v := (if (Int32.ofInt 0) < z57 then z57 else (Int32.ofInt 0))) rfl rfl rfl (Nat.le_of_ble_eq_true rfl) h) ?_
          show pj_X _ _ G 116 [(8, .int z53), (0, .ref 171), (1, .int kd), (2, .int n), (3, .int f), (4, .int sp), (5, .int v5), (6, .int v6), (7, .int v7)] [.int (if (Int32.ofInt 0) < z57 then z57 else (Int32.ofInt 0)), .int z55, .ref 179] _
          obtain ⟨z58, hz58⟩ : ∃ z : Int32, z = (if (Int32.ofInt 0) < z57 then z57 else (Int32.ofInt 0)) := ⟨_, rfl⟩
          refine pj_X_eqi hz58.symm ?_
          have fz58_0 : (Int32.ofInt 0).toInt ≤ z58.toInt ∧ z57.toInt ≤ z58.toInt ∧ (z58.toInt = (Int32.ofInt 0).toInt ∨ z58.toInt = z57.toInt) := by rw [hz58]; exact pj_maxI
          refine pj_X_of (fun r h => pj_T_is hI rfl rfl (by omega) (by omega) h) ?_
          show pj_X _ _ (pj_wa G 179 z55.toInt.toNat z58) 117 [(8, .int z53), (0, .ref 171), (1, .int kd), (2, .int n), (3, .int f), (4, .int sp), (5, .int v5), (6, .int v6), (7, .int v7)] [] _
          obtain ⟨G59, hG59⟩ : ∃ H, H = pj_wa G 179 z55.toInt.toNat z58 := ⟨_, rfl⟩
          have iG59 : pj_Inv G59 := by rw [hG59]; exact pj_Inv_wa hI rfl (fun q hq => by cases hq) (fun n hn => ⟨fun h1 => ⟨fun h2 => by omega, fun h2 => by omega⟩, fun h1 => by omega⟩)
          have kG59 : pj_kpt kc_213 G0 G59 := by rw [hG59]; exact pj_kpt_a hK rfl
          rw [← hG59]
          refine pj_X_of (fun r h => pj_R_to (G59, 120, [(8, .int z53), (0, .ref 171), (1, .int kd), (2, .int n), (3, .int f), (4, .int sp), (5, .int v5), (6, .int v6), (7, .int v7)], [.ref 171, .int v5], 0, 0) 120 3 (fun _ => rfl) h) ?_
          refine pj_X_of (fun r h => pj_T_gr iG59 rfl rfl rfl h) ?_
          refine pj_X_of (fun r h => pj_R_to (G59, 127, [(8, .int z53), (0, .ref 171), (1, .int kd), (2, .int n), (3, .int f), (4, .int sp), (5, .int v5), (6, .int v6), (7, .int v7)], [.int ((Int32.ofInt 4) * v7), .ref 179, .int v5], 0, 0) 127 4 (fun _ => rfl) h) ?_
          obtain ⟨z60, hz60⟩ : ∃ z : Int32, z = (Int32.ofInt 4) * v7 := ⟨_, rfl⟩
          refine pj_X_eqi hz60.symm ?_
          have fz60_0 : z60.toInt = 4 * v7.toInt := by rw [hz60]; exact pj_mulL (by decide) (by omega) (by omega)
          refine pj_X_of (fun r h => pj_R_to (G59, 129, [(8, .int z53), (0, .ref 171), (1, .int kd), (2, .int n), (3, .int f), (4, .int sp), (5, .int v5), (6, .int v6), (7, .int v7)], [.int (z60 + (Int32.ofInt 3)), .ref 179, .int v5], 0, 0) 129 3 (fun _ => rfl) h) ?_
          obtain ⟨z61, hz61⟩ : ∃ z : Int32, z = z60 + (Int32.ofInt 3) := ⟨_, rfl⟩
          refine pj_X_eqi hz61.symm ?_
          have fz61_0 : z61.toInt = z60.toInt + (Int32.ofInt 3).toInt := by rw [hz61]; exact pj_addI (by have := pj_i32 z60; have := pj_i32 (Int32.ofInt 3); omega) (by have := pj_i32 z60; have := pj_i32 (Int32.ofInt 3); omega)
          refine pj_X_of (fun r h => pj_T_il iG59 rfl rfl (by omega) (by omega) h) ?_
          show pj_X _ _ G59 130 [(8, .int z53), (0, .ref 171), (1, .int kd), (2, .int n), (3, .int f), (4, .int sp), (5, .int v5), (6, .int v6), (7, .int v7)] [.int (pj_ai G59 179 z61.toInt.toNat), .int v5] _
          obtain ⟨z62, hz62⟩ : ∃ z : Int32, z = pj_ai G59 179 z61.toInt.toNat := ⟨_, rfl⟩
          refine pj_X_eqi hz62.symm ?_
          have ez62 : (pj_ai G59 179 z61.toInt.toNat).toInt = z62.toInt := by rw [hz62]
          refine pj_X_of (fun r h => pj_R_to (G59, 131, [(8, .int z53), (0, .ref 171), (1, .int kd), (2, .int n), (3, .int f), (4, .int sp), (5, .int v5), (6, .int v6), (7, .int v7)], [.int (v5 + z62)], 0, 0) 131 2 (fun _ => rfl) h) ?_
          obtain ⟨z63, hz63⟩ : ∃ z : Int32, z = v5 + z62 := ⟨_, rfl⟩
          refine pj_X_eqi hz63.symm ?_
          refine pj_X_of (fun r h => pj_R_to (G59, 138, [(5, .int z63), (8, .int z53), (0, .ref 171), (1, .int kd), (2, .int n), (3, .int f), (4, .int sp), (6, .int v6), (7, .int v7)], [.int (v6 + sp)], 0, 0) 138 5 (fun _ => rfl) h) ?_
          obtain ⟨z64, hz64⟩ : ∃ z : Int32, z = v6 + sp := ⟨_, rfl⟩
          refine pj_X_eqi hz64.symm ?_
          refine pj_X_of (fun r h => pj_R_to (G59, 143, [(7, .int (v7 + Int32.ofInt 1)), (6, .int z64), (5, .int z63), (8, .int z53), (0, .ref 171), (1, .int kd), (2, .int n), (3, .int f), (4, .int sp)], [], 0, 0) 143 3 (fun _ => rfl) h) ?_
          obtain ⟨z65, hz65⟩ : ∃ z : Int32, z = v7 + Int32.ofInt 1 := ⟨_, rfl⟩
          rw [← hz65]
          have fz65_0 : z65.toInt = v7.toInt + (Int32.ofInt 1).toInt := by rw [hz65]; exact pj_addI (by have := pj_i32 v7; have := pj_i32 (Int32.ofInt 1); omega) (by have := pj_i32 v7; have := pj_i32 (Int32.ofInt 1); omega)
          refine pj_X_of (fun r h => pj_R_to (G59, 46, [(7, .int z65), (6, .int z64), (5, .int z63), (8, .int z53), (0, .ref 171), (1, .int kd), (2, .int n), (3, .int f), (4, .int sp)], [], 0, 0) 46 2 (fun _ => rfl) h) ?_
          exact pj_X_sub [(0, .ref 171), (1, .int kd), (2, .int n), (3, .int f), (4, .int sp), (5, .int z63), (6, .int z64), (7, .int z65)] (show List.Nodup [0, 1, 2, 3, 4, 5, 6, 7] by decide) ⟨rfl, rfl, rfl, rfl, rfl, rfl, rfl, rfl, trivial⟩ (ih G59 iG59 kG59 z63 z64 z65 (pj_i32 _) (pj_i32 _) ⟨by omega, by omega⟩ (by omega))
        | false =>
          have ub56 := pj_u_ltF b56
          refine pj_X_of (fun r h => pj_R_icF rfl b56 h) ?_
          refine pj_X_of (fun r h => pj_R_to (G, 116, [(8, .int z53), (0, .ref 171), (1, .int kd), (2, .int n), (3, .int f), (4, .int sp), (5, .int v5), (6, .int v6), (7, .int v7)], [.int (Int32.ofInt 0), .int z55, .ref 179], 0, 0) 116 3 (fun _ => rfl) h) ?_
          refine pj_X_of (fun r h => pj_T_is hI rfl rfl (by omega) (by omega) h) ?_
          show pj_X _ _ (pj_wa G 179 z55.toInt.toNat (Int32.ofInt 0)) 117 [(8, .int z53), (0, .ref 171), (1, .int kd), (2, .int n), (3, .int f), (4, .int sp), (5, .int v5), (6, .int v6), (7, .int v7)] [] _
          obtain ⟨G66, hG66⟩ : ∃ H, H = pj_wa G 179 z55.toInt.toNat (Int32.ofInt 0) := ⟨_, rfl⟩
          have iG66 : pj_Inv G66 := by rw [hG66]; exact pj_Inv_wa hI rfl (fun q hq => by cases hq) (fun n hn => ⟨fun h1 => ⟨fun h2 => by omega, fun h2 => by omega⟩, fun h1 => by omega⟩)
          have kG66 : pj_kpt kc_213 G0 G66 := by rw [hG66]; exact pj_kpt_a hK rfl
          rw [← hG66]
          refine pj_X_of (fun r h => pj_R_to (G66, 120, [(8, .int z53), (0, .ref 171), (1, .int kd), (2, .int n), (3, .int f), (4, .int sp), (5, .int v5), (6, .int v6), (7, .int v7)], [.ref 171, .int v5], 0, 0) 120 3 (fun _ => rfl) h) ?_
          refine pj_X_of (fun r h => pj_T_gr iG66 rfl rfl rfl h) ?_
          refine pj_X_of (fun r h => pj_R_to (G66, 127, [(8, .int z53), (0, .ref 171), (1, .int kd), (2, .int n), (3, .int f), (4, .int sp), (5, .int v5), (6, .int v6), (7, .int v7)], [.int ((Int32.ofInt 4) * v7), .ref 179, .int v5], 0, 0) 127 4 (fun _ => rfl) h) ?_
          obtain ⟨z67, hz67⟩ : ∃ z : Int32, z = (Int32.ofInt 4) * v7 := ⟨_, rfl⟩
          refine pj_X_eqi hz67.symm ?_
          have fz67_0 : z67.toInt = 4 * v7.toInt := by rw [hz67]; exact pj_mulL (by decide) (by omega) (by omega)
          refine pj_X_of (fun r h => pj_R_to (G66, 129, [(8, .int z53), (0, .ref 171), (1, .int kd), (2, .int n), (3, .int f), (4, .int sp), (5, .int v5), (6, .int v6), (7, .int v7)], [.int (z67 + (Int32.ofInt 3)), .ref 179, .int v5], 0, 0) 129 3 (fun _ => rfl) h) ?_
          obtain ⟨z68, hz68⟩ : ∃ z : Int32, z = z67 + (Int32.ofInt 3) := ⟨_, rfl⟩
          refine pj_X_eqi hz68.symm ?_
          have fz68_0 : z68.toInt = z67.toInt + (Int32.ofInt 3).toInt := by rw [hz68]; exact pj_addI (by have := pj_i32 z67; have := pj_i32 (Int32.ofInt 3); omega) (by have := pj_i32 z67; have := pj_i32 (Int32.ofInt 3); omega)
          refine pj_X_of (fun r h => pj_T_il iG66 rfl rfl (by omega) (by omega) h) ?_
          show pj_X _ _ G66 130 [(8, .int z53), (0, .ref 171), (1, .int kd), (2, .int n), (3, .int f), (4, .int sp), (5, .int v5), (6, .int v6), (7, .int v7)] [.int (pj_ai G66 179 z68.toInt.toNat), .int v5] _
          obtain ⟨z69, hz69⟩ : ∃ z : Int32, z = pj_ai G66 179 z68.toInt.toNat := ⟨_, rfl⟩
          refine pj_X_eqi hz69.symm ?_
          have ez69 : (pj_ai G66 179 z68.toInt.toNat).toInt = z69.toInt := by rw [hz69]
          refine pj_X_of (fun r h => pj_R_to (G66, 131, [(8, .int z53), (0, .ref 171), (1, .int kd), (2, .int n), (3, .int f), (4, .int sp), (5, .int v5), (6, .int v6), (7, .int v7)], [.int (v5 + z69)], 0, 0) 131 2 (fun _ => rfl) h) ?_
          obtain ⟨z70, hz70⟩ : ∃ z : Int32, z = v5 + z69 := ⟨_, rfl⟩
          refine pj_X_eqi hz70.symm ?_
          refine pj_X_of (fun r h => pj_R_to (G66, 138, [(5, .int z70), (8, .int z53), (0, .ref 171), (1, .int kd), (2, .int n), (3, .int f), (4, .int sp), (6, .int v6), (7, .int v7)], [.int (v6 + sp)], 0, 0) 138 5 (fun _ => rfl) h) ?_
          obtain ⟨z71, hz71⟩ : ∃ z : Int32, z = v6 + sp := ⟨_, rfl⟩
          refine pj_X_eqi hz71.symm ?_
          refine pj_X_of (fun r h => pj_R_to (G66, 143, [(7, .int (v7 + Int32.ofInt 1)), (6, .int z71), (5, .int z70), (8, .int z53), (0, .ref 171), (1, .int kd), (2, .int n), (3, .int f), (4, .int sp)], [], 0, 0) 143 3 (fun _ => rfl) h) ?_
          obtain ⟨z72, hz72⟩ : ∃ z : Int32, z = v7 + Int32.ofInt 1 := ⟨_, rfl⟩
          rw [← hz72]
          have fz72_0 : z72.toInt = v7.toInt + (Int32.ofInt 1).toInt := by rw [hz72]; exact pj_addI (by have := pj_i32 v7; have := pj_i32 (Int32.ofInt 1); omega) (by have := pj_i32 v7; have := pj_i32 (Int32.ofInt 1); omega)
          refine pj_X_of (fun r h => pj_R_to (G66, 46, [(7, .int z72), (6, .int z71), (5, .int z70), (8, .int z53), (0, .ref 171), (1, .int kd), (2, .int n), (3, .int f), (4, .int sp)], [], 0, 0) 46 2 (fun _ => rfl) h) ?_
          exact pj_X_sub [(0, .ref 171), (1, .int kd), (2, .int n), (3, .int f), (4, .int sp), (5, .int z70), (6, .int z71), (7, .int z72)] (show List.Nodup [0, 1, 2, 3, 4, 5, 6, 7] by decide) ⟨rfl, rfl, rfl, rfl, rfl, rfl, rfl, rfl, trivial⟩ (ih G66 iG66 kG66 z70 z71 z72 (pj_i32 _) (pj_i32 _) ⟨by omega, by omega⟩ (by omega))
theorem ct_213 (G0 : pj_G) (hI : pj_Inv G0) (kd : Int32) (n : Int32) (f : Int32) (sp : Int32) : pj_Y 2 213 [.ref 171, .int kd, .int n, .int f, .int sp] G0 (fun v G' => ∃ y : Int32, v = some (.int y) ∧ pj_Inv G' ∧ pj_kpt kc_213 G0 G' ∧ ((-2147483648 : Int) ≤ y.toInt ∧ y.toInt ≤ 2147483647)) := by
  have c0_ : ((Int8.ofInt (-2)).toInt32).toInt = -2 := by decide
  have c1_ : ((Int8.ofInt (-3)).toInt32).toInt = -3 := by decide
  have c2_ : ((Int8.ofInt 6).toInt32).toInt = 6 := by decide
  have c3_ : ((Int8.ofInt 9).toInt32).toInt = 9 := by decide
  have c4_ : (Int32.ofInt (-1)).toInt = -1 := by decide
  have c5_ : (Int32.ofInt 0).toInt = 0 := by decide
  have c6_ : (Int32.ofInt 1).toInt = 1 := by decide
  have c7_ : (Int32.ofInt 3).toInt = 3 := by decide
  have c8_ : (Int32.ofInt 4).toInt = 4 := by decide
  refine pj_Y_X (M := pj_m213) rfl rfl (Nat.le_of_ble_eq_true rfl) ?_
  have hK : pj_kpt kc_213 G0 G0 := pj_kpt_r _ _
  show pj_X _ _ G0 0 [(0, .ref 171), (1, .int kd), (2, .int n), (3, .int f), (4, .int sp)] [] _
  refine pj_X_of (fun r h => pj_R_to (G0, 2, [(0, .ref 171), (1, .int kd), (2, .int n), (3, .int f), (4, .int sp)], [.int (Int32.ofInt 0), .ref 171], 0, 0) 2 3 (fun _ => rfl) h) ?_
  refine pj_X_of (fun r h => pj_T_pf hI rfl rfl rfl h) ?_
  show pj_X _ _ (pj_wv G0 171 0 (.int (Int32.ofInt 0))) 5 [(0, .ref 171), (1, .int kd), (2, .int n), (3, .int f), (4, .int sp)] [] _
  obtain ⟨G73, hG73⟩ : ∃ H, H = pj_wv G0 171 0 (.int (Int32.ofInt 0)) := ⟨_, rfl⟩
  have iG73 : pj_Inv G73 := by rw [hG73]; exact pj_Inv_wi hI (ci := 12) rfl (fun q hq => by cases hq)
  have kG73 : pj_kpt kc_213 G0 G73 := by rw [hG73]; exact pj_kpt_v hK rfl
  rw [← hG73]
  refine pj_X_of (fun r h => pj_R_to (G73, 11, [(0, .ref 171), (1, .int kd), (2, .int n), (3, .int f), (4, .int sp)], [.long (Int64.ofInt 3), .long (Int64.ofNat 0), .long kd.toInt64], 0, 0) 11 5 (fun _ => rfl) h) ?_
  have lc74 : (kd.toInt64).toInt = kd.toInt := Int32.toInt_toInt64 _
  have lc75 : (Int64.ofNat 0).toInt = 0 := by decide
  have lc76 : (Int64.ofInt 3).toInt = 3 := by decide
  refine pj_X_ca (vs := [.long kd.toInt64, .long (Int64.ofNat 0), .long (Int64.ofInt 3)]) rfl (fun _ => rfl) ⟨Nat.le_of_ble_eq_true rfl, Nat.le_of_ble_eq_true rfl, rfl⟩ ⟨rfl, rfl⟩ (pj_Y_up (by decide) (ct_170x G73 iG73 kd.toInt64 (Int64.ofNat 0) (Int64.ofInt 3))) ?_
  rintro _ _ ⟨y77, rfl, rfl, ry77, ey77, fy77⟩
  show pj_X _ _ G73 14 [(0, .ref 171), (1, .int kd), (2, .int n), (3, .int f), (4, .int sp)] [.int y77] _
  cases b78 : pj_c1 .eq y77 0 with
  | true =>
    have ub78 := pj_u0_eqT b78
    refine pj_X_of (fun r h => pj_R_ifT 23 rfl rfl b78 h) ?_
    refine pj_X_of (fun r h => pj_R_to (G73, 24, [(0, .ref 171), (1, .int kd), (2, .int n), (3, .int f), (4, .int sp)], [.int (Int32.ofInt (-1))], 0, 0) 24 2 (fun _ => rfl) h) ?_
    exact pj_X_rt rfl rfl ⟨_, rfl, iG73, kG73, pj_i32 _⟩
  | false =>
    have ub78 := pj_u0_eqF b78
    refine pj_X_of (fun r h => pj_R_ifF rfl b78 h) ?_
    refine pj_X_of (fun r h => pj_R_to (G73, 20, [(0, .ref 171), (1, .int kd), (2, .int n), (3, .int f), (4, .int sp)], [.int ((Int8.ofInt 6).toInt32), .int n], 0, 0) 20 3 (fun _ => rfl) h) ?_
    cases b79 : pj_c1 .le n ((Int8.ofInt 6).toInt32) with
    | true =>
      have ub79 := pj_u_leT b79
      refine pj_X_of (fun r h => pj_R_icT 25 rfl rfl b79 h) ?_
      refine pj_X_of (fun r h => pj_R_to (G73, 27, [(0, .ref 171), (1, .int kd), (2, .int n), (3, .int f), (4, .int sp)], [.int (Int32.ofInt 3), .int kd], 0, 0) 27 3 (fun _ => rfl) h) ?_
      cases b80 : pj_c1 .eq kd (Int32.ofInt 3) with
      | true =>
        have ub80 := pj_u_eqT b80
        refine pj_X_of (fun r h => pj_R_icT 37 rfl rfl b80 h) ?_
        refine pj_X_of (fun r h => pj_R_to (G73, 46, [(7, .int (Int32.ofInt 0)), (6, .int f), (5, .int (Int32.ofInt 0)), (0, .ref 171), (1, .int kd), (2, .int n), (3, .int f), (4, .int sp)], [], 0, 0) 46 7 (fun _ => rfl) h) ?_
        exact pj_X_sub [(0, .ref 171), (1, .int kd), (2, .int n), (3, .int f), (4, .int sp), (5, .int (Int32.ofInt 0)), (6, .int f), (7, .int (Int32.ofInt 0))] (show List.Nodup [0, 1, 2, 3, 4, 5, 6, 7] by decide) ⟨rfl, rfl, rfl, rfl, rfl, rfl, rfl, rfl, trivial⟩ ((lp_ct_213 G0 hI kd n f sp  7) G73 iG73 kG73 (Int32.ofInt 0) f (Int32.ofInt 0) (pj_i32 _) (pj_i32 _) ⟨by omega, by omega⟩ (by omega))
      | false =>
        have ub80 := pj_u_eqF b80
        refine pj_X_of (fun r h => pj_R_icF rfl b80 h) ?_
        refine pj_X_of (fun r h => pj_R_to (G73, 31, [(0, .ref 171), (1, .int kd), (2, .int n), (3, .int f), (4, .int sp)], [.int n], 0, 0) 31 2 (fun _ => rfl) h) ?_
        cases b81 : pj_c1 .ge n 0 with
        | true =>
          have ub81 := pj_u0_geT b81
          refine pj_X_of (fun r h => pj_R_ifT 37 rfl rfl b81 h) ?_
          refine pj_X_of (fun r h => pj_R_to (G73, 46, [(7, .int (Int32.ofInt 0)), (6, .int f), (5, .int (Int32.ofInt 0)), (0, .ref 171), (1, .int kd), (2, .int n), (3, .int f), (4, .int sp)], [], 0, 0) 46 7 (fun _ => rfl) h) ?_
          exact pj_X_sub [(0, .ref 171), (1, .int kd), (2, .int n), (3, .int f), (4, .int sp), (5, .int (Int32.ofInt 0)), (6, .int f), (7, .int (Int32.ofInt 0))] (show List.Nodup [0, 1, 2, 3, 4, 5, 6, 7] by decide) ⟨rfl, rfl, rfl, rfl, rfl, rfl, rfl, rfl, trivial⟩ ((lp_ct_213 G0 hI kd n f sp  7) G73 iG73 kG73 (Int32.ofInt 0) f (Int32.ofInt 0) (pj_i32 _) (pj_i32 _) ⟨by omega, by omega⟩ (by omega))
        | false =>
          have ub81 := pj_u0_geF b81
          refine pj_X_of (fun r h => pj_R_ifF rfl b81 h) ?_
          refine pj_X_of (fun r h => pj_R_to (G73, 36, [(0, .ref 171), (1, .int kd), (2, .int n), (3, .int f), (4, .int sp)], [.int ((Int8.ofInt (-2)).toInt32)], 0, 0) 36 2 (fun _ => rfl) h) ?_
          exact pj_X_rt rfl rfl ⟨_, rfl, iG73, kG73, pj_i32 _⟩
    | false =>
      have ub79 := pj_u_leF b79
      refine pj_X_of (fun r h => pj_R_icF rfl b79 h) ?_
      refine pj_X_of (fun r h => pj_R_to (G73, 24, [(0, .ref 171), (1, .int kd), (2, .int n), (3, .int f), (4, .int sp)], [.int (Int32.ofInt (-1))], 0, 0) 24 2 (fun _ => rfl) h) ?_
      exact pj_X_rt rfl rfl ⟨_, rfl, iG73, kG73, pj_i32 _⟩
def kc_214x : pj_KT := ([], [186], [186])
noncomputable def L_215x (G0 : pj_G) (fu : Nat) : Int32 → pj_G → pj_G := Nat.rec (motive := fun _ => Int32 → pj_G → pj_G) (fun _ G => G) (fun _ ih v1 G => cond (pj_c1 .ge v1 ((Int8.ofInt 32).toInt32)) (G) (pj_nm (pj_fi G 171 30) (fun y1 => pj_nm (((Int8.ofInt 32).toInt32) * y1) (fun z4 => pj_nm (z4 + v1) (fun z5 => pj_nm (pj_ai G 179 v1.toInt.toNat) (fun z6 => pj_nm (pj_wa G 186 z5.toInt.toNat z6) (fun G7 => pj_nm (v1 + Int32.ofInt 1) (fun z8 => ih z8 G7)))))))) fu
theorem L_215x_s0 (G0 : pj_G) (fu : Nat) (v1 : Int32) (G : pj_G) : L_215x G0 (fu + 1) v1 G = cond (pj_c1 .ge v1 ((Int8.ofInt 32).toInt32)) (G) (pj_nm (pj_fi G 171 30) (fun y1 => pj_nm (((Int8.ofInt 32).toInt32) * y1) (fun z4 => pj_nm (z4 + v1) (fun z5 => pj_nm (pj_ai G 179 v1.toInt.toNat) (fun z6 => pj_nm (pj_wa G 186 z5.toInt.toNat z6) (fun G7 => pj_nm (v1 + Int32.ofInt 1) (fun z8 => L_215x G0 fu z8 G7))))))) := rfl
noncomputable def F_215x (G0 : pj_G) : pj_G := L_215x G0 33 (Int32.ofInt 0) G0
theorem F_215x_e (G0 : pj_G) : F_215x G0 = L_215x G0 33 (Int32.ofInt 0) G0 := rfl
theorem lp_ct_214x (G0 : pj_G) (hI0 : pj_Inv G0) (p0_ : (pj_fi G0 171 30).toInt ≤ 15) : ∀ mn : Nat, (∀ (G : pj_G) (hI : pj_Inv G) (hK : pj_kpt kc_214x G0 G) (v1 : Int32), ((0 : Int) ≤ v1.toInt ∧ v1.toInt ≤ 32) → ((pj_fi G 171 30).toInt ≤ 15) → 32 - v1.toInt < (mn : Int) → pj_X 0 pj_m214 G 2 [(0, .ref 171), (1, .int v1)] [] (fun v' G' => v' = none ∧ pj_Inv G' ∧ pj_kpt kc_214x G0 G' ∧ (G' = L_215x G0 mn v1 G))) := by
  have c0_ : ((Int8.ofInt 32).toInt32).toInt = 32 := by decide
  have c1_ : (Int32.ofInt 0).toInt = 0 := by decide
  have c2_ : (Int32.ofInt 1).toInt = 1 := by decide
  intro mn
  induction mn with
  | zero =>
    intro G hI hK v1 rv1 x0_ hm
    exfalso
    omega
  | succ mn ih =>
    intro G hI hK v1 rv1 x0_ hm
    rw [L_215x_s0]
    obtain ⟨y1, hy1⟩ : ∃ z : Int32, z = pj_fi G 171 30 := ⟨_, rfl⟩
    have ey1 : (pj_fi G 171 30).toInt = y1.toInt := by rw [hy1]
    have ry1 : (0 : Int) ≤ y1.toInt ∧ y1.toInt ≤ 16 := by rw [hy1]; exact hI.2.1 171 30 (0, 16) rfl
    refine pj_X_of (fun r h => pj_R_to (G, 5, [(0, .ref 171), (1, .int v1)], [.int ((Int8.ofInt 32).toInt32), .int v1], 0, 0) 5 3 (fun _ => rfl) h) ?_
    cases b2 : pj_c1 .ge v1 ((Int8.ofInt 32).toInt32) with
    | true =>
      rw [pj_cT]
      have ub2 := pj_u_geT b2
      refine pj_X_of (fun r h => pj_R_icT 34 rfl rfl b2 h) ?_
      have q3 : (pj_fi G 171 30).toInt = y1.toInt := by rw [show pj_fi G 171 30 = y1 from hy1.symm]
      exact pj_X_rt rfl rfl ⟨rfl, hI, hK, rfl⟩
    | false =>
      rw [pj_cF]
      have ub2 := pj_u_geF b2
      refine pj_X_of (fun r h => pj_R_icF rfl b2 h) ?_
      refine pj_X_of (fun r h => pj_R_to (G, 9, [(0, .ref 171), (1, .int v1)], [.ref 171], 0, 0) 9 2 (fun _ => rfl) h) ?_
      refine pj_X_of (fun r h => pj_T_gr hI rfl rfl rfl h) ?_
      refine pj_X_of (fun r h => pj_R_to (G, 15, [(0, .ref 171), (1, .int v1)], [.ref 171, .int ((Int8.ofInt 32).toInt32), .ref 186], 0, 0) 15 3 (fun _ => rfl) h) ?_
      refine pj_X_of (fun r h => pj_T_gi hI rfl rfl h) ?_
      show pj_X _ _ G 18 [(0, .ref 171), (1, .int v1)] [.int (pj_fi G 171 30), .int ((Int8.ofInt 32).toInt32), .ref 186] _
      rw [← hy1, pj_nm_e]
      refine pj_X_of (fun r h => pj_R_to (G, 19, [(0, .ref 171), (1, .int v1)], [.int (((Int8.ofInt 32).toInt32) * y1), .ref 186], 0, 0) 19 2 (fun _ => rfl) h) ?_
      obtain ⟨z4, hz4⟩ : ∃ z : Int32, z = ((Int8.ofInt 32).toInt32) * y1 := ⟨_, rfl⟩
      refine pj_X_eqi hz4.symm ?_
      rw [← hz4, pj_nm_e]
      have fz4_0 : z4.toInt = 32 * y1.toInt := by rw [hz4]; exact pj_mulL (by decide) (by omega) (by omega)
      refine pj_X_of (fun r h => pj_R_to (G, 21, [(0, .ref 171), (1, .int v1)], [.int (z4 + v1), .ref 186], 0, 0) 21 3 (fun _ => rfl) h) ?_
      obtain ⟨z5, hz5⟩ : ∃ z : Int32, z = z4 + v1 := ⟨_, rfl⟩
      refine pj_X_eqi hz5.symm ?_
      rw [← hz5, pj_nm_e]
      have fz5_0 : z5.toInt = z4.toInt + v1.toInt := by rw [hz5]; exact pj_addI (by have := pj_i32 z4; have := pj_i32 v1; omega) (by have := pj_i32 z4; have := pj_i32 v1; omega)
      refine pj_X_of (fun r h => pj_R_to (G, 22, [(0, .ref 171), (1, .int v1)], [.ref 171, .int z5, .ref 186], 0, 0) 22 2 (fun _ => rfl) h) ?_
      refine pj_X_of (fun r h => pj_T_gr hI rfl rfl rfl h) ?_
      refine pj_X_of (fun r h => pj_R_to (G, 26, [(0, .ref 171), (1, .int v1)], [.int v1, .ref 179, .int z5, .ref 186], 0, 0) 26 2 (fun _ => rfl) h) ?_
      refine pj_X_of (fun r h => pj_T_il hI rfl rfl (by omega) (by omega) h) ?_
      show pj_X _ _ G 27 [(0, .ref 171), (1, .int v1)] [.int (pj_ai G 179 v1.toInt.toNat), .int z5, .ref 186] _
      obtain ⟨z6, hz6⟩ : ∃ z : Int32, z = pj_ai G 179 v1.toInt.toNat := ⟨_, rfl⟩
      refine pj_X_eqi hz6.symm ?_
      rw [← hz6, pj_nm_e]
      have ez6 : (pj_ai G 179 v1.toInt.toNat).toInt = z6.toInt := by rw [hz6]
      have fz6_0 : (v1.toInt.toNat % 32 < 24 → (v1.toInt.toNat % 4 = 0 → -1 ≤ z6.toInt ∧ z6.toInt ≤ 9) ∧ (v1.toInt.toNat % 4 = 1 → 0 ≤ z6.toInt)) ∧ (24 ≤ v1.toInt.toNat % 32 ∧ v1.toInt.toNat % 32 < 30 → 0 ≤ z6.toInt ∧ z6.toInt ≤ 7) := by rw [hz6]; exact hI.2.2.2 179 32 rfl _ (by show _ < 32; omega)
      refine pj_X_of (fun r h => pj_T_is hI rfl rfl (by omega) (by omega) h) ?_
      show pj_X _ _ (pj_wa G 186 z5.toInt.toNat z6) 28 [(0, .ref 171), (1, .int v1)] [] _
      obtain ⟨G7, hG7⟩ : ∃ H, H = pj_wa G 186 z5.toInt.toNat z6 := ⟨_, rfl⟩
      have iG7 : pj_Inv G7 := by rw [hG7]; exact pj_Inv_wa hI rfl (fun q hq => by cases hq) (fun n hn => ⟨fun h1 => ⟨fun h2 => by omega, fun h2 => by omega⟩, fun h1 => by omega⟩)
      have kG7 : pj_kpt kc_214x G0 G7 := by rw [hG7]; exact pj_kpt_a hK rfl
      rw [← hG7]
      rw [pj_nm_e]
      refine pj_X_of (fun r h => pj_R_to (G7, 31, [(1, .int (v1 + Int32.ofInt 1)), (0, .ref 171)], [], 0, 0) 31 2 (fun _ => rfl) h) ?_
      obtain ⟨z8, hz8⟩ : ∃ z : Int32, z = v1 + Int32.ofInt 1 := ⟨_, rfl⟩
      rw [← hz8]
      rw [pj_nm_e]
      have fz8_0 : z8.toInt = v1.toInt + (Int32.ofInt 1).toInt := by rw [hz8]; exact pj_addI (by have := pj_i32 v1; have := pj_i32 (Int32.ofInt 1); omega) (by have := pj_i32 v1; have := pj_i32 (Int32.ofInt 1); omega)
      refine pj_X_of (fun r h => pj_R_to (G7, 2, [(1, .int z8), (0, .ref 171)], [], 0, 0) 2 2 (fun _ => rfl) h) ?_
      have q9 : (pj_fi G7 171 30).toInt = y1.toInt := by rw [show pj_fi G7 171 30 = y1 from by rw [hG7, pj_fi_wa]; exact hy1.symm]
      exact pj_X_sub [(0, .ref 171), (1, .int z8)] (show List.Nodup [0, 1] by decide) ⟨rfl, rfl, trivial⟩ (ih G7 iG7 kG7 z8 ⟨by omega, by omega⟩ (by omega) (by omega))
theorem ct_214x (G0 : pj_G) (hI : pj_Inv G0) (p0_ : (pj_fi G0 171 30).toInt ≤ 15) : pj_Y 1 214 [.ref 171] G0 (fun v' G' => v' = none ∧ pj_Inv G' ∧ pj_kpt kc_214x G0 G' ∧ (G' = F_215x G0)) := by
  have c0_ : ((Int8.ofInt 32).toInt32).toInt = 32 := by decide
  have c1_ : (Int32.ofInt 0).toInt = 0 := by decide
  have c2_ : (Int32.ofInt 1).toInt = 1 := by decide
  refine pj_Y_X (M := pj_m214) rfl rfl (Nat.le_of_ble_eq_true rfl) ?_
  have hK : pj_kpt kc_214x G0 G0 := pj_kpt_r _ _
  show pj_X _ _ G0 0 [(0, .ref 171)] [] _
  rw [F_215x_e]
  obtain ⟨y10, hy10⟩ : ∃ z : Int32, z = pj_fi G0 171 30 := ⟨_, rfl⟩
  have ey10 : (pj_fi G0 171 30).toInt = y10.toInt := by rw [hy10]
  have ry10 : (0 : Int) ≤ y10.toInt ∧ y10.toInt ≤ 16 := by rw [hy10]; exact hI.2.1 171 30 (0, 16) rfl
  refine pj_X_of (fun r h => pj_R_to (G0, 2, [(1, .int (Int32.ofInt 0)), (0, .ref 171)], [], 0, 0) 2 3 (fun _ => rfl) h) ?_
  have q11 : (pj_fi G0 171 30).toInt = y10.toInt := by rw [show pj_fi G0 171 30 = y10 from hy10.symm]
  exact pj_X_sub [(0, .ref 171), (1, .int (Int32.ofInt 0))] (show List.Nodup [0, 1] by decide) ⟨rfl, rfl, trivial⟩ ((lp_ct_214x G0 hI   p0_ 33) G0 hI hK (Int32.ofInt 0) ⟨by omega, by omega⟩ (by omega) (by omega))
theorem fr_215x (G0 : pj_G) (hI : pj_Inv G0) (p0_ : (pj_fi G0 171 30).toInt ≤ 15) : pj_Inv (F_215x G0) ∧ pj_kpt kc_214x G0 (F_215x G0) := by
  obtain ⟨v, G', -, -, i, j, e⟩ := ct_214x G0 hI p0_
  rw [← e]
  exact ⟨i, j⟩
def kc_215x : pj_KT := ([(171, 30)], [171, 186], [186])
noncomputable def L_216x (G0 : pj_G) (an : Int32) (fu : Nat) : Int32 → pj_G → Int32 × pj_G := Nat.rec (motive := fun _ => Int32 → pj_G → Int32 × pj_G) (fun _ G => (0, G)) (fun _ ih v2 G => cond (pj_c1 .ge v2 ((Int16.ofInt 480).toInt32)) (pj_nm (pj_fi G 171 30) (fun y1 => pj_nm (y1 - (Int32.ofInt 1)) (fun z3 => pj_nm (pj_wv G 171 30 (.int z3)) (fun G4 => (an, G4))))) (pj_nm (v2 + ((Int8.ofInt 32).toInt32)) (fun z6 => pj_nm (pj_ai G 186 z6.toInt.toNat) (fun z7 => pj_nm (pj_wa G 186 v2.toInt.toNat z7) (fun G8 => pj_nm (v2 + Int32.ofInt 1) (fun z9 => ih z9 G8)))))) fu
theorem L_216x_s0 (G0 : pj_G) (an : Int32) (fu : Nat) (v2 : Int32) (G : pj_G) : L_216x G0 an (fu + 1) v2 G = cond (pj_c1 .ge v2 ((Int16.ofInt 480).toInt32)) (pj_nm (pj_fi G 171 30) (fun y1 => pj_nm (y1 - (Int32.ofInt 1)) (fun z3 => pj_nm (pj_wv G 171 30 (.int z3)) (fun G4 => (an, G4))))) (pj_nm (v2 + ((Int8.ofInt 32).toInt32)) (fun z6 => pj_nm (pj_ai G 186 z6.toInt.toNat) (fun z7 => pj_nm (pj_wa G 186 v2.toInt.toNat z7) (fun G8 => pj_nm (v2 + Int32.ofInt 1) (fun z9 => L_216x G0 an fu z9 G8))))) := rfl
noncomputable def F_216x (G0 : pj_G) (an : Int32) : Int32 × pj_G := pj_nm (pj_fi G0 171 30) (fun y11 => pj_nm (y11 + (Int32.ofInt 1)) (fun z12 => pj_nm (pj_wv G0 171 30 (.int z12)) (fun G13 => cond (pj_c1 .le z12 ((Int8.ofInt 15).toInt32)) ((an, G13)) (L_216x G0 an 481 (Int32.ofInt 0) G13))))
theorem F_216x_e (G0 : pj_G) (an : Int32) : F_216x G0 an = pj_nm (pj_fi G0 171 30) (fun y11 => pj_nm (y11 + (Int32.ofInt 1)) (fun z12 => pj_nm (pj_wv G0 171 30 (.int z12)) (fun G13 => cond (pj_c1 .le z12 ((Int8.ofInt 15).toInt32)) ((an, G13)) (L_216x G0 an 481 (Int32.ofInt 0) G13)))) := rfl
theorem lp_ct_215x (G0 : pj_G) (hI0 : pj_Inv G0) (an : Int32) (p0_ : (pj_fi G0 171 30).toInt ≤ 15) : ∀ mn : Nat, (∀ (G : pj_G) (hI : pj_Inv G) (hK : pj_kpt kc_215x G0 G) (v2 : Int32), ((0 : Int) ≤ v2.toInt ∧ v2.toInt ≤ 480) → ((pj_fi G 171 30).toInt = 16) → 480 - v2.toInt < (mn : Int) → pj_X 0 pj_m215 G 21 [(0, .ref 171), (1, .int an), (2, .int v2)] [] (fun v' G' => ∃ y : Int32, v' = some (.int y) ∧ pj_Inv G' ∧ pj_kpt kc_215x G0 G' ∧ ((-2147483648 : Int) ≤ y.toInt ∧ y.toInt ≤ 2147483647) ∧ ((pj_fi G' 171 30).toInt ≤ 15) ∧ ((y, G') = L_216x G0 an mn v2 G))) := by
  have c0_ : ((Int16.ofInt 480).toInt32).toInt = 480 := by decide
  have c1_ : ((Int8.ofInt 15).toInt32).toInt = 15 := by decide
  have c2_ : ((Int8.ofInt 32).toInt32).toInt = 32 := by decide
  have c3_ : (Int32.ofInt 0).toInt = 0 := by decide
  have c4_ : (Int32.ofInt 1).toInt = 1 := by decide
  intro mn
  induction mn with
  | zero =>
    intro G hI hK v2 rv2 x0_ hm
    exfalso
    omega
  | succ mn ih =>
    intro G hI hK v2 rv2 x0_ hm
    rw [L_216x_s0]
    obtain ⟨y1, hy1⟩ : ∃ z : Int32, z = pj_fi G 171 30 := ⟨_, rfl⟩
    have ey1 : (pj_fi G 171 30).toInt = y1.toInt := by rw [hy1]
    have ry1 : (0 : Int) ≤ y1.toInt ∧ y1.toInt ≤ 16 := by rw [hy1]; exact hI.2.1 171 30 (0, 16) rfl
    refine pj_X_of (fun r h => pj_R_to (G, 25, [(0, .ref 171), (1, .int an), (2, .int v2)], [.int ((Int16.ofInt 480).toInt32), .int v2], 0, 0) 25 3 (fun _ => rfl) h) ?_
    cases b2 : pj_c1 .ge v2 ((Int16.ofInt 480).toInt32) with
    | true =>
      rw [pj_cT]
      have ub2 := pj_u_geT b2
      refine pj_X_of (fun r h => pj_R_icT 49 rfl rfl b2 h) ?_
      refine pj_X_of (fun r h => pj_R_to (G, 51, [(0, .ref 171), (1, .int an), (2, .int v2)], [.ref 171, .ref 171], 0, 0) 51 3 (fun _ => rfl) h) ?_
      refine pj_X_of (fun r h => pj_T_gi hI rfl rfl h) ?_
      show pj_X _ _ G 54 [(0, .ref 171), (1, .int an), (2, .int v2)] [.int (pj_fi G 171 30), .ref 171] _
      rw [← hy1, pj_nm_e]
      refine pj_X_of (fun r h => pj_R_to (G, 56, [(0, .ref 171), (1, .int an), (2, .int v2)], [.int (y1 - (Int32.ofInt 1)), .ref 171], 0, 0) 56 3 (fun _ => rfl) h) ?_
      obtain ⟨z3, hz3⟩ : ∃ z : Int32, z = y1 - (Int32.ofInt 1) := ⟨_, rfl⟩
      refine pj_X_eqi hz3.symm ?_
      rw [← hz3, pj_nm_e]
      have fz3_0 : z3.toInt = y1.toInt - (Int32.ofInt 1).toInt := by rw [hz3]; exact pj_subI (by have := pj_i32 y1; have := pj_i32 (Int32.ofInt 1); omega) (by have := pj_i32 y1; have := pj_i32 (Int32.ofInt 1); omega)
      refine pj_X_of (fun r h => pj_T_pf hI rfl rfl rfl h) ?_
      show pj_X _ _ (pj_wv G 171 30 (.int z3)) 59 [(0, .ref 171), (1, .int an), (2, .int v2)] [] _
      obtain ⟨G4, hG4⟩ : ∃ H, H = pj_wv G 171 30 (.int z3) := ⟨_, rfl⟩
      have iG4 : pj_Inv G4 := by rw [hG4]; exact pj_Inv_wi hI (ci := 12) rfl (fun q hq => by cases hq; exact ⟨by show (0 : Int) ≤ _; omega, by show _ ≤ (16 : Int); omega⟩)
      have kG4 : pj_kpt kc_215x G0 G4 := by rw [hG4]; exact pj_kpt_v hK rfl
      rw [← hG4]
      rw [pj_nm_e]
      refine pj_X_of (fun r h => pj_R_to (G4, 60, [(0, .ref 171), (1, .int an), (2, .int v2)], [.int an], 0, 0) 60 2 (fun _ => rfl) h) ?_
      have q5 : (pj_fi G4 171 30).toInt = z3.toInt := by rw [show pj_fi G4 171 30 = z3 from by rw [hG4]; exact pj_fi_wi hI.1 (ci := 12) rfl _]
      exact pj_X_rt rfl rfl ⟨_, rfl, iG4, kG4, pj_i32 _, by omega, rfl⟩
    | false =>
      rw [pj_cF]
      have ub2 := pj_u_geF b2
      refine pj_X_of (fun r h => pj_R_icF rfl b2 h) ?_
      refine pj_X_of (fun r h => pj_R_to (G, 29, [(0, .ref 171), (1, .int an), (2, .int v2)], [.ref 171], 0, 0) 29 2 (fun _ => rfl) h) ?_
      refine pj_X_of (fun r h => pj_T_gr hI rfl rfl rfl h) ?_
      refine pj_X_of (fun r h => pj_R_to (G, 34, [(0, .ref 171), (1, .int an), (2, .int v2)], [.ref 171, .int v2, .ref 186], 0, 0) 34 3 (fun _ => rfl) h) ?_
      refine pj_X_of (fun r h => pj_T_gr hI rfl rfl rfl h) ?_
      refine pj_X_of (fun r h => pj_R_to (G, 41, [(0, .ref 171), (1, .int an), (2, .int v2)], [.int (v2 + ((Int8.ofInt 32).toInt32)), .ref 186, .int v2, .ref 186], 0, 0) 41 4 (fun _ => rfl) h) ?_
      obtain ⟨z6, hz6⟩ : ∃ z : Int32, z = v2 + ((Int8.ofInt 32).toInt32) := ⟨_, rfl⟩
      refine pj_X_eqi hz6.symm ?_
      rw [← hz6, pj_nm_e]
      have fz6_0 : z6.toInt = v2.toInt + ((Int8.ofInt 32).toInt32).toInt := by rw [hz6]; exact pj_addI (by have := pj_i32 v2; have := pj_i32 ((Int8.ofInt 32).toInt32); omega) (by have := pj_i32 v2; have := pj_i32 ((Int8.ofInt 32).toInt32); omega)
      refine pj_X_of (fun r h => pj_T_il hI rfl rfl (by omega) (by omega) h) ?_
      show pj_X _ _ G 42 [(0, .ref 171), (1, .int an), (2, .int v2)] [.int (pj_ai G 186 z6.toInt.toNat), .int v2, .ref 186] _
      obtain ⟨z7, hz7⟩ : ∃ z : Int32, z = pj_ai G 186 z6.toInt.toNat := ⟨_, rfl⟩
      refine pj_X_eqi hz7.symm ?_
      rw [← hz7, pj_nm_e]
      have ez7 : (pj_ai G 186 z6.toInt.toNat).toInt = z7.toInt := by rw [hz7]
      have fz7_0 : (z6.toInt.toNat % 32 < 24 → (z6.toInt.toNat % 4 = 0 → -1 ≤ z7.toInt ∧ z7.toInt ≤ 9) ∧ (z6.toInt.toNat % 4 = 1 → 0 ≤ z7.toInt)) ∧ (24 ≤ z6.toInt.toNat % 32 ∧ z6.toInt.toNat % 32 < 30 → 0 ≤ z7.toInt ∧ z7.toInt ≤ 7) := by rw [hz7]; exact hI.2.2.2 186 512 rfl _ (by show _ < 512; omega)
      refine pj_X_of (fun r h => pj_T_is hI rfl rfl (by omega) (by omega) h) ?_
      show pj_X _ _ (pj_wa G 186 v2.toInt.toNat z7) 43 [(0, .ref 171), (1, .int an), (2, .int v2)] [] _
      obtain ⟨G8, hG8⟩ : ∃ H, H = pj_wa G 186 v2.toInt.toNat z7 := ⟨_, rfl⟩
      have iG8 : pj_Inv G8 := by rw [hG8]; exact pj_Inv_wa hI rfl (fun q hq => by cases hq) (fun n hn => ⟨fun h1 => ⟨fun h2 => by omega, fun h2 => by omega⟩, fun h1 => by omega⟩)
      have kG8 : pj_kpt kc_215x G0 G8 := by rw [hG8]; exact pj_kpt_a hK rfl
      rw [← hG8]
      rw [pj_nm_e]
      refine pj_X_of (fun r h => pj_R_to (G8, 46, [(2, .int (v2 + Int32.ofInt 1)), (0, .ref 171), (1, .int an)], [], 0, 0) 46 2 (fun _ => rfl) h) ?_
      obtain ⟨z9, hz9⟩ : ∃ z : Int32, z = v2 + Int32.ofInt 1 := ⟨_, rfl⟩
      rw [← hz9]
      rw [pj_nm_e]
      have fz9_0 : z9.toInt = v2.toInt + (Int32.ofInt 1).toInt := by rw [hz9]; exact pj_addI (by have := pj_i32 v2; have := pj_i32 (Int32.ofInt 1); omega) (by have := pj_i32 v2; have := pj_i32 (Int32.ofInt 1); omega)
      refine pj_X_of (fun r h => pj_R_to (G8, 21, [(2, .int z9), (0, .ref 171), (1, .int an)], [], 0, 0) 21 2 (fun _ => rfl) h) ?_
      have q10 : (pj_fi G8 171 30).toInt = y1.toInt := by rw [show pj_fi G8 171 30 = y1 from by rw [hG8, pj_fi_wa]; exact hy1.symm]
      exact pj_X_sub [(0, .ref 171), (1, .int an), (2, .int z9)] (show List.Nodup [0, 1, 2] by decide) ⟨rfl, rfl, rfl, trivial⟩ (ih G8 iG8 kG8 z9 ⟨by omega, by omega⟩ (by omega) (by omega))
theorem ct_215x (G0 : pj_G) (hI : pj_Inv G0) (an : Int32) (p0_ : (pj_fi G0 171 30).toInt ≤ 15) : pj_Y 1 215 [.ref 171, .int an] G0 (fun v' G' => ∃ y : Int32, v' = some (.int y) ∧ pj_Inv G' ∧ pj_kpt kc_215x G0 G' ∧ ((-2147483648 : Int) ≤ y.toInt ∧ y.toInt ≤ 2147483647) ∧ ((pj_fi G' 171 30).toInt ≤ 15) ∧ ((y, G') = F_216x G0 an)) := by
  have c0_ : ((Int16.ofInt 480).toInt32).toInt = 480 := by decide
  have c1_ : ((Int8.ofInt 15).toInt32).toInt = 15 := by decide
  have c2_ : ((Int8.ofInt 32).toInt32).toInt = 32 := by decide
  have c3_ : (Int32.ofInt 0).toInt = 0 := by decide
  have c4_ : (Int32.ofInt 1).toInt = 1 := by decide
  refine pj_Y_X (M := pj_m215) rfl rfl (Nat.le_of_ble_eq_true rfl) ?_
  have hK : pj_kpt kc_215x G0 G0 := pj_kpt_r _ _
  show pj_X _ _ G0 0 [(0, .ref 171), (1, .int an)] [] _
  rw [F_216x_e]
  obtain ⟨y11, hy11⟩ : ∃ z : Int32, z = pj_fi G0 171 30 := ⟨_, rfl⟩
  have ey11 : (pj_fi G0 171 30).toInt = y11.toInt := by rw [hy11]
  have ry11 : (0 : Int) ≤ y11.toInt ∧ y11.toInt ≤ 16 := by rw [hy11]; exact hI.2.1 171 30 (0, 16) rfl
  refine pj_X_of (fun r h => pj_R_to (G0, 2, [(0, .ref 171), (1, .int an)], [.ref 171, .ref 171], 0, 0) 2 3 (fun _ => rfl) h) ?_
  refine pj_X_of (fun r h => pj_T_gi hI rfl rfl h) ?_
  show pj_X _ _ G0 5 [(0, .ref 171), (1, .int an)] [.int (pj_fi G0 171 30), .ref 171] _
  rw [← hy11, pj_nm_e]
  refine pj_X_of (fun r h => pj_R_to (G0, 7, [(0, .ref 171), (1, .int an)], [.int (y11 + (Int32.ofInt 1)), .ref 171], 0, 0) 7 3 (fun _ => rfl) h) ?_
  obtain ⟨z12, hz12⟩ : ∃ z : Int32, z = y11 + (Int32.ofInt 1) := ⟨_, rfl⟩
  refine pj_X_eqi hz12.symm ?_
  rw [← hz12, pj_nm_e]
  have fz12_0 : z12.toInt = y11.toInt + (Int32.ofInt 1).toInt := by rw [hz12]; exact pj_addI (by have := pj_i32 y11; have := pj_i32 (Int32.ofInt 1); omega) (by have := pj_i32 y11; have := pj_i32 (Int32.ofInt 1); omega)
  refine pj_X_of (fun r h => pj_T_pf hI rfl rfl rfl h) ?_
  show pj_X _ _ (pj_wv G0 171 30 (.int z12)) 10 [(0, .ref 171), (1, .int an)] [] _
  obtain ⟨G13, hG13⟩ : ∃ H, H = pj_wv G0 171 30 (.int z12) := ⟨_, rfl⟩
  have iG13 : pj_Inv G13 := by rw [hG13]; exact pj_Inv_wi hI (ci := 12) rfl (fun q hq => by cases hq; exact ⟨by show (0 : Int) ≤ _; omega, by show _ ≤ (16 : Int); omega⟩)
  have kG13 : pj_kpt kc_215x G0 G13 := by rw [hG13]; exact pj_kpt_v hK rfl
  rw [← hG13]
  rw [pj_nm_e]
  refine pj_X_of (fun r h => pj_R_to (G13, 11, [(0, .ref 171), (1, .int an)], [.ref 171], 0, 0) 11 2 (fun _ => rfl) h) ?_
  refine pj_X_of (fun r h => pj_T_gi iG13 rfl rfl h) ?_
  show pj_X _ _ G13 14 [(0, .ref 171), (1, .int an)] [.int (pj_fi G13 171 30)] _
  refine pj_X_eqi (show pj_fi G13 171 30 = z12 from by rw [hG13]; exact pj_fi_wi hI.1 (ci := 12) rfl _) ?_
  refine pj_X_of (fun r h => pj_R_to (G13, 16, [(0, .ref 171), (1, .int an)], [.int ((Int8.ofInt 15).toInt32), .int z12], 0, 0) 16 2 (fun _ => rfl) h) ?_
  cases b14 : pj_c1 .le z12 ((Int8.ofInt 15).toInt32) with
  | true =>
    rw [pj_cT]
    have ub14 := pj_u_leT b14
    refine pj_X_of (fun r h => pj_R_icT 59 rfl rfl b14 h) ?_
    refine pj_X_of (fun r h => pj_R_to (G13, 60, [(0, .ref 171), (1, .int an)], [.int an], 0, 0) 60 2 (fun _ => rfl) h) ?_
    have q15 : (pj_fi G13 171 30).toInt = z12.toInt := by rw [show pj_fi G13 171 30 = z12 from by rw [hG13]; exact pj_fi_wi hI.1 (ci := 12) rfl _]
    exact pj_X_rt rfl rfl ⟨_, rfl, iG13, kG13, pj_i32 _, by omega, rfl⟩
  | false =>
    rw [pj_cF]
    have ub14 := pj_u_leF b14
    refine pj_X_of (fun r h => pj_R_icF rfl b14 h) ?_
    refine pj_X_of (fun r h => pj_R_to (G13, 21, [(2, .int (Int32.ofInt 0)), (0, .ref 171), (1, .int an)], [], 0, 0) 21 3 (fun _ => rfl) h) ?_
    have q16 : (pj_fi G13 171 30).toInt = z12.toInt := by rw [show pj_fi G13 171 30 = z12 from by rw [hG13]; exact pj_fi_wi hI.1 (ci := 12) rfl _]
    exact pj_X_sub [(0, .ref 171), (1, .int an), (2, .int (Int32.ofInt 0))] (show List.Nodup [0, 1, 2] by decide) ⟨rfl, rfl, rfl, trivial⟩ ((lp_ct_215x G0 hI an  p0_ 481) G13 iG13 kG13 (Int32.ofInt 0) ⟨by omega, by omega⟩ (by omega) (by omega))
theorem fr_216x (G0 : pj_G) (hI : pj_Inv G0) (an : Int32) (p0_ : (pj_fi G0 171 30).toInt ≤ 15) : pj_Inv (F_216x G0 an).2 ∧ pj_kpt kc_215x G0 (F_216x G0 an).2 ∧ ((pj_fi (F_216x G0 an).2 171 30).toInt ≤ 15) := by
  obtain ⟨v, G', -, y, -, i, j, r, x, e⟩ := ct_215x G0 hI an p0_
  rw [← e]
  exact ⟨i, j, x⟩
def kc_216x : pj_KT := ([(171, 30)], [171, 186], [186])
noncomputable def F_217x (G0 : pj_G) (an : Int32) : Int32 × pj_G := cond (pj_c1 .ge an 0) (pj_bd (F_216x G0 an) (fun y4 G5 => (y4, G5))) ((an, G0))
theorem F_217x_e (G0 : pj_G) (an : Int32) : F_217x G0 an = cond (pj_c1 .ge an 0) (pj_bd (F_216x G0 an) (fun y4 G5 => (y4, G5))) ((an, G0)) := rfl
theorem ct_216x (G0 : pj_G) (hI : pj_Inv G0) (an : Int32) (p0_ : (pj_fi G0 171 30).toInt ≤ 15) : pj_Y 2 216 [.ref 171, .int an] G0 (fun v' G' => ∃ y : Int32, v' = some (.int y) ∧ pj_Inv G' ∧ pj_kpt kc_216x G0 G' ∧ ((-2147483648 : Int) ≤ y.toInt ∧ y.toInt ≤ 2147483647) ∧ ((pj_fi G' 171 30).toInt ≤ 15) ∧ ((y, G') = F_217x G0 an)) := by
  refine pj_Y_X (M := pj_m216) rfl rfl (Nat.le_of_ble_eq_true rfl) ?_
  have hK : pj_kpt kc_216x G0 G0 := pj_kpt_r _ _
  show pj_X _ _ G0 0 [(0, .ref 171), (1, .int an)] [] _
  rw [F_217x_e]
  obtain ⟨y1, hy1⟩ : ∃ z : Int32, z = pj_fi G0 171 30 := ⟨_, rfl⟩
  have ey1 : (pj_fi G0 171 30).toInt = y1.toInt := by rw [hy1]
  have ry1 : (0 : Int) ≤ y1.toInt ∧ y1.toInt ≤ 16 := by rw [hy1]; exact hI.2.1 171 30 (0, 16) rfl
  refine pj_X_of (fun r h => pj_R_to (G0, 1, [(0, .ref 171), (1, .int an)], [.int an], 0, 0) 1 2 (fun _ => rfl) h) ?_
  cases b2 : pj_c1 .ge an 0 with
  | true =>
    rw [pj_cT]
    have ub2 := pj_u0_geT b2
    refine pj_X_of (fun r h => pj_R_ifT 8 rfl rfl b2 h) ?_
    refine pj_X_of (fun r h => pj_R_to (G0, 10, [(0, .ref 171), (1, .int an)], [.int an, .ref 171], 0, 0) 10 3 (fun _ => rfl) h) ?_
    have q3 : (pj_fi G0 171 30).toInt = y1.toInt := by rw [show pj_fi G0 171 30 = y1 from hy1.symm]
    refine pj_X_ca (vs := [.ref 171, .int an]) rfl (fun _ => rfl) ⟨Nat.le_of_ble_eq_true rfl, Nat.le_of_ble_eq_true rfl, pj_T_rcv hI rfl⟩ ⟨rfl, rfl⟩ (pj_Y_up (by decide) (ct_215x G0 hI an (by omega))) ?_
    rintro _ G5 ⟨y4, rfl, iG5, jG5, ry4, ey4, fy4⟩
    rw [← fy4, pj_bd_e]
    have kG5 : pj_kpt kc_216x G0 G5 := pj_kpt_t hK (pj_kpt_s jG5 rfl)
    obtain ⟨y6, hy6⟩ : ∃ z : Int32, z = pj_fi G5 171 30 := ⟨_, rfl⟩
    have ey6 : (pj_fi G5 171 30).toInt = y6.toInt := by rw [hy6]
    have ry6 : (0 : Int) ≤ y6.toInt ∧ y6.toInt ≤ 16 := by rw [hy6]; exact iG5.2.1 171 30 (0, 16) rfl
    show pj_X _ _ G5 13 [(0, .ref 171), (1, .int an)] [.int y4] _
    have q7 : (pj_fi G5 171 30).toInt = y6.toInt := by rw [show pj_fi G5 171 30 = y6 from hy6.symm]
    exact pj_X_rt rfl rfl ⟨_, rfl, iG5, kG5, pj_i32 _, by omega, rfl⟩
  | false =>
    rw [pj_cF]
    have ub2 := pj_u0_geF b2
    refine pj_X_of (fun r h => pj_R_ifF rfl b2 h) ?_
    refine pj_X_of (fun r h => pj_R_to (G0, 13, [(0, .ref 171), (1, .int an)], [.int an], 0, 0) 13 3 (fun _ => rfl) h) ?_
    have q8 : (pj_fi G0 171 30).toInt = y1.toInt := by rw [show pj_fi G0 171 30 = y1 from hy1.symm]
    exact pj_X_rt rfl rfl ⟨_, rfl, hI, hK, pj_i32 _, by omega, rfl⟩
theorem fr_217x (G0 : pj_G) (hI : pj_Inv G0) (an : Int32) (p0_ : (pj_fi G0 171 30).toInt ≤ 15) : pj_Inv (F_217x G0 an).2 ∧ pj_kpt kc_216x G0 (F_217x G0 an).2 ∧ ((pj_fi (F_217x G0 an).2 171 30).toInt ≤ 15) := by
  obtain ⟨v, G', -, y, -, i, j, r, x, e⟩ := ct_216x G0 hI an p0_
  rw [← e]
  exact ⟨i, j, x⟩
def kc_217 : pj_KT := ([(171, 0), (171, 30)], [171, 179], [179])
theorem lp_ct_217 (G0 : pj_G) (hI0 : pj_Inv G0) (p0_ : (pj_fi G0 171 30).toInt ≤ 15) : ∀ mn : Nat, (∀ (G : pj_G) (hI : pj_Inv G) (hK : pj_kpt kc_217 G0 G) (v1 : Int32), ((0 : Int) ≤ v1.toInt ∧ v1.toInt ≤ 32) → ((pj_fi G 171 30).toInt ≤ 15) → 32 - v1.toInt < (mn : Int) → pj_X 0 pj_m217 G 26 [(0, .ref 171), (1, .int v1)] [] (fun v G' => ∃ y : Int32, v = some (.int y) ∧ pj_Inv G' ∧ pj_kpt kc_217 G0 G' ∧ ((-2147483648 : Int) ≤ y.toInt ∧ y.toInt ≤ 2147483647) ∧ ((pj_fi G' 171 30).toInt ≤ 15))) := by
  have c0_ : ((Int8.ofInt 32).toInt32).toInt = 32 := by decide
  have c1_ : (Int32.ofInt (-1)).toInt = -1 := by decide
  have c2_ : (Int32.ofInt 0).toInt = 0 := by decide
  have c3_ : (Int32.ofInt 1).toInt = 1 := by decide
  intro mn
  induction mn with
  | zero =>
    intro G hI hK v1 rv1 x0_ hm
    exfalso
    omega
  | succ mn ih =>
    intro G hI hK v1 rv1 x0_ hm
    obtain ⟨y1, hy1⟩ : ∃ z : Int32, z = pj_fi G 171 30 := ⟨_, rfl⟩
    have ey1 : (pj_fi G 171 30).toInt = y1.toInt := by rw [hy1]
    have ry1 : (0 : Int) ≤ y1.toInt ∧ y1.toInt ≤ 16 := by rw [hy1]; exact hI.2.1 171 30 (0, 16) rfl
    refine pj_X_of (fun r h => pj_R_to (G, 29, [(0, .ref 171), (1, .int v1)], [.int ((Int8.ofInt 32).toInt32), .int v1], 0, 0) 29 3 (fun _ => rfl) h) ?_
    cases b2 : pj_c1 .ge v1 ((Int8.ofInt 32).toInt32) with
    | true =>
      have ub2 := pj_u_geT b2
      refine pj_X_of (fun r h => pj_R_icT 58 rfl rfl b2 h) ?_
      refine pj_X_of (fun r h => pj_R_to (G, 59, [(0, .ref 171), (1, .int v1)], [.ref 171], 0, 0) 59 2 (fun _ => rfl) h) ?_
      refine pj_X_of (fun r h => pj_T_gi hI rfl rfl h) ?_
      show pj_X _ _ G 62 [(0, .ref 171), (1, .int v1)] [.int (pj_fi G 171 30)] _
      refine pj_X_eqi (show pj_fi G 171 30 = y1 from hy1.symm) ?_
      have q3 : (pj_fi G 171 30).toInt = y1.toInt := by rw [show pj_fi G 171 30 = y1 from hy1.symm]
      exact pj_X_rt rfl rfl ⟨_, rfl, hI, hK, pj_i32 _, by omega⟩
    | false =>
      have ub2 := pj_u_geF b2
      refine pj_X_of (fun r h => pj_R_icF rfl b2 h) ?_
      refine pj_X_of (fun r h => pj_R_to (G, 33, [(0, .ref 171), (1, .int v1)], [.ref 171], 0, 0) 33 2 (fun _ => rfl) h) ?_
      refine pj_X_of (fun r h => pj_T_gr hI rfl rfl rfl h) ?_
      refine pj_X_of (fun r h => pj_R_to (G, 38, [(0, .ref 171), (1, .int v1)], [.ref 171, .int v1, .ref 179], 0, 0) 38 3 (fun _ => rfl) h) ?_
      refine pj_X_of (fun r h => pj_T_gr hI rfl rfl rfl h) ?_
      refine pj_X_of (fun r h => pj_R_to (G, 44, [(0, .ref 171), (1, .int v1)], [.ref 171, .int ((Int8.ofInt 32).toInt32), .ref 186, .int v1, .ref 179], 0, 0) 44 3 (fun _ => rfl) h) ?_
      refine pj_X_of (fun r h => pj_T_gi hI rfl rfl h) ?_
      show pj_X _ _ G 47 [(0, .ref 171), (1, .int v1)] [.int (pj_fi G 171 30), .int ((Int8.ofInt 32).toInt32), .ref 186, .int v1, .ref 179] _
      refine pj_X_eqi (show pj_fi G 171 30 = y1 from hy1.symm) ?_
      refine pj_X_of (fun r h => pj_R_to (G, 48, [(0, .ref 171), (1, .int v1)], [.int (((Int8.ofInt 32).toInt32) * y1), .ref 186, .int v1, .ref 179], 0, 0) 48 2 (fun _ => rfl) h) ?_
      obtain ⟨z4, hz4⟩ : ∃ z : Int32, z = ((Int8.ofInt 32).toInt32) * y1 := ⟨_, rfl⟩
      refine pj_X_eqi hz4.symm ?_
      have fz4_0 : z4.toInt = 32 * y1.toInt := by rw [hz4]; exact pj_mulL (by decide) (by omega) (by omega)
      refine pj_X_of (fun r h => pj_R_to (G, 50, [(0, .ref 171), (1, .int v1)], [.int (z4 + v1), .ref 186, .int v1, .ref 179], 0, 0) 50 3 (fun _ => rfl) h) ?_
      obtain ⟨z5, hz5⟩ : ∃ z : Int32, z = z4 + v1 := ⟨_, rfl⟩
      refine pj_X_eqi hz5.symm ?_
      have fz5_0 : z5.toInt = z4.toInt + v1.toInt := by rw [hz5]; exact pj_addI (by have := pj_i32 z4; have := pj_i32 v1; omega) (by have := pj_i32 z4; have := pj_i32 v1; omega)
      refine pj_X_of (fun r h => pj_T_il hI rfl rfl (by omega) (by omega) h) ?_
      show pj_X _ _ G 51 [(0, .ref 171), (1, .int v1)] [.int (pj_ai G 186 z5.toInt.toNat), .int v1, .ref 179] _
      obtain ⟨z6, hz6⟩ : ∃ z : Int32, z = pj_ai G 186 z5.toInt.toNat := ⟨_, rfl⟩
      refine pj_X_eqi hz6.symm ?_
      have ez6 : (pj_ai G 186 z5.toInt.toNat).toInt = z6.toInt := by rw [hz6]
      have fz6_0 : (z5.toInt.toNat % 32 < 24 → (z5.toInt.toNat % 4 = 0 → -1 ≤ z6.toInt ∧ z6.toInt ≤ 9) ∧ (z5.toInt.toNat % 4 = 1 → 0 ≤ z6.toInt)) ∧ (24 ≤ z5.toInt.toNat % 32 ∧ z5.toInt.toNat % 32 < 30 → 0 ≤ z6.toInt ∧ z6.toInt ≤ 7) := by rw [hz6]; exact hI.2.2.2 186 512 rfl _ (by show _ < 512; omega)
      refine pj_X_of (fun r h => pj_T_is hI rfl rfl (by omega) (by omega) h) ?_
      show pj_X _ _ (pj_wa G 179 v1.toInt.toNat z6) 52 [(0, .ref 171), (1, .int v1)] [] _
      obtain ⟨G7, hG7⟩ : ∃ H, H = pj_wa G 179 v1.toInt.toNat z6 := ⟨_, rfl⟩
      have iG7 : pj_Inv G7 := by rw [hG7]; exact pj_Inv_wa hI rfl (fun q hq => by cases hq) (fun n hn => ⟨fun h1 => ⟨fun h2 => by omega, fun h2 => by omega⟩, fun h1 => by omega⟩)
      have kG7 : pj_kpt kc_217 G0 G7 := by rw [hG7]; exact pj_kpt_a hK rfl
      rw [← hG7]
      refine pj_X_of (fun r h => pj_R_to (G7, 55, [(1, .int (v1 + Int32.ofInt 1)), (0, .ref 171)], [], 0, 0) 55 2 (fun _ => rfl) h) ?_
      obtain ⟨z8, hz8⟩ : ∃ z : Int32, z = v1 + Int32.ofInt 1 := ⟨_, rfl⟩
      rw [← hz8]
      have fz8_0 : z8.toInt = v1.toInt + (Int32.ofInt 1).toInt := by rw [hz8]; exact pj_addI (by have := pj_i32 v1; have := pj_i32 (Int32.ofInt 1); omega) (by have := pj_i32 v1; have := pj_i32 (Int32.ofInt 1); omega)
      refine pj_X_of (fun r h => pj_R_to (G7, 26, [(1, .int z8), (0, .ref 171)], [], 0, 0) 26 2 (fun _ => rfl) h) ?_
      have q9 : (pj_fi G7 171 30).toInt = y1.toInt := by rw [show pj_fi G7 171 30 = y1 from by rw [hG7, pj_fi_wa]; exact hy1.symm]
      exact pj_X_sub [(0, .ref 171), (1, .int z8)] (show List.Nodup [0, 1] by decide) ⟨rfl, rfl, trivial⟩ (ih G7 iG7 kG7 z8 ⟨by omega, by omega⟩ (by omega) (by omega))
theorem ct_217 (G0 : pj_G) (hI : pj_Inv G0) (p0_ : (pj_fi G0 171 30).toInt ≤ 15) : pj_Y 1 217 [.ref 171] G0 (fun v G' => ∃ y : Int32, v = some (.int y) ∧ pj_Inv G' ∧ pj_kpt kc_217 G0 G' ∧ ((-2147483648 : Int) ≤ y.toInt ∧ y.toInt ≤ 2147483647) ∧ ((pj_fi G' 171 30).toInt ≤ 15)) := by
  have c0_ : ((Int8.ofInt 32).toInt32).toInt = 32 := by decide
  have c1_ : (Int32.ofInt (-1)).toInt = -1 := by decide
  have c2_ : (Int32.ofInt 0).toInt = 0 := by decide
  have c3_ : (Int32.ofInt 1).toInt = 1 := by decide
  refine pj_Y_X (M := pj_m217) rfl rfl (Nat.le_of_ble_eq_true rfl) ?_
  have hK : pj_kpt kc_217 G0 G0 := pj_kpt_r _ _
  show pj_X _ _ G0 0 [(0, .ref 171)] [] _
  obtain ⟨y10, hy10⟩ : ∃ z : Int32, z = pj_fi G0 171 30 := ⟨_, rfl⟩
  have ey10 : (pj_fi G0 171 30).toInt = y10.toInt := by rw [hy10]
  have ry10 : (0 : Int) ≤ y10.toInt ∧ y10.toInt ≤ 16 := by rw [hy10]; exact hI.2.1 171 30 (0, 16) rfl
  refine pj_X_of (fun r h => pj_R_to (G0, 2, [(0, .ref 171)], [.int (Int32.ofInt 0), .ref 171], 0, 0) 2 3 (fun _ => rfl) h) ?_
  refine pj_X_of (fun r h => pj_T_pf hI rfl rfl rfl h) ?_
  show pj_X _ _ (pj_wv G0 171 0 (.int (Int32.ofInt 0))) 5 [(0, .ref 171)] [] _
  obtain ⟨G11, hG11⟩ : ∃ H, H = pj_wv G0 171 0 (.int (Int32.ofInt 0)) := ⟨_, rfl⟩
  have iG11 : pj_Inv G11 := by rw [hG11]; exact pj_Inv_wi hI (ci := 12) rfl (fun q hq => by cases hq)
  have kG11 : pj_kpt kc_217 G0 G11 := by rw [hG11]; exact pj_kpt_v hK rfl
  rw [← hG11]
  refine pj_X_of (fun r h => pj_R_to (G11, 6, [(0, .ref 171)], [.ref 171], 0, 0) 6 2 (fun _ => rfl) h) ?_
  refine pj_X_of (fun r h => pj_T_gi iG11 rfl rfl h) ?_
  show pj_X _ _ G11 9 [(0, .ref 171)] [.int (pj_fi G11 171 30)] _
  refine pj_X_eqi (show pj_fi G11 171 30 = y10 from by rw [hG11, pj_fi_wv_ne _ _ _ _ _ _ (by decide)]; exact hy10.symm) ?_
  cases b12 : pj_c1 .ne y10 0 with
  | true =>
    have ub12 := pj_u0_neT b12
    refine pj_X_of (fun r h => pj_R_ifT 14 rfl rfl b12 h) ?_
    refine pj_X_of (fun r h => pj_R_to (G11, 16, [(0, .ref 171)], [.ref 171, .ref 171], 0, 0) 16 3 (fun _ => rfl) h) ?_
    refine pj_X_of (fun r h => pj_T_gi iG11 rfl rfl h) ?_
    show pj_X _ _ G11 19 [(0, .ref 171)] [.int (pj_fi G11 171 30), .ref 171] _
    refine pj_X_eqi (show pj_fi G11 171 30 = y10 from by rw [hG11, pj_fi_wv_ne _ _ _ _ _ _ (by decide)]; exact hy10.symm) ?_
    refine pj_X_of (fun r h => pj_R_to (G11, 21, [(0, .ref 171)], [.int (y10 - (Int32.ofInt 1)), .ref 171], 0, 0) 21 3 (fun _ => rfl) h) ?_
    obtain ⟨z13, hz13⟩ : ∃ z : Int32, z = y10 - (Int32.ofInt 1) := ⟨_, rfl⟩
    refine pj_X_eqi hz13.symm ?_
    have fz13_0 : z13.toInt = y10.toInt - (Int32.ofInt 1).toInt := by rw [hz13]; exact pj_subI (by have := pj_i32 y10; have := pj_i32 (Int32.ofInt 1); omega) (by have := pj_i32 y10; have := pj_i32 (Int32.ofInt 1); omega)
    refine pj_X_of (fun r h => pj_T_pf iG11 rfl rfl rfl h) ?_
    show pj_X _ _ (pj_wv G11 171 30 (.int z13)) 24 [(0, .ref 171)] [] _
    obtain ⟨G14, hG14⟩ : ∃ H, H = pj_wv G11 171 30 (.int z13) := ⟨_, rfl⟩
    have iG14 : pj_Inv G14 := by rw [hG14]; exact pj_Inv_wi iG11 (ci := 12) rfl (fun q hq => by cases hq; exact ⟨by show (0 : Int) ≤ _; omega, by show _ ≤ (16 : Int); omega⟩)
    have kG14 : pj_kpt kc_217 G0 G14 := by rw [hG14]; exact pj_kpt_v kG11 rfl
    rw [← hG14]
    refine pj_X_of (fun r h => pj_R_to (G14, 26, [(1, .int (Int32.ofInt 0)), (0, .ref 171)], [], 0, 0) 26 3 (fun _ => rfl) h) ?_
    have q15 : (pj_fi G14 171 30).toInt = z13.toInt := by rw [show pj_fi G14 171 30 = z13 from by rw [hG14]; exact pj_fi_wi iG11.1 (ci := 12) rfl _]
    exact pj_X_sub [(0, .ref 171), (1, .int (Int32.ofInt 0))] (show List.Nodup [0, 1] by decide) ⟨rfl, rfl, trivial⟩ ((lp_ct_217 G0 hI   p0_ 33) G14 iG14 kG14 (Int32.ofInt 0) ⟨by omega, by omega⟩ (by omega) (by omega))
  | false =>
    have ub12 := pj_u0_neF b12
    refine pj_X_of (fun r h => pj_R_ifF rfl b12 h) ?_
    refine pj_X_of (fun r h => pj_R_to (G11, 13, [(0, .ref 171)], [.int (Int32.ofInt (-1))], 0, 0) 13 2 (fun _ => rfl) h) ?_
    have q16 : (pj_fi G11 171 30).toInt = y10.toInt := by rw [show pj_fi G11 171 30 = y10 from by rw [hG11, pj_fi_wv_ne _ _ _ _ _ _ (by decide)]; exact hy10.symm]
    exact pj_X_rt rfl rfl ⟨_, rfl, iG11, kG11, pj_i32 _, by omega⟩
noncomputable def F_219x (G0 : pj_G) (b : Int32) (c : Int32) : Int32 := pj_nm (F_178x G0 b) (fun y1 => cond (pj_c1 .eq y1 0) (Int32.ofInt (-1)) (cond (pj_c1 .eq c (Int32.ofInt (-1))) (pj_nm ((Int32.ofInt 4) * b) (fun z4 => pj_nm (z4 + (Int32.ofInt 1)) (fun z5 => pj_nm (pj_ai G0 179 z5.toInt.toNat) (fun z6 => cond (pj_c1 .gt z6 0) ((Int8.ofInt (-2)).toInt32) (pj_nm (z4 + (Int32.ofInt 0)) (fun z8 => pj_nm (pj_ai G0 179 z8.toInt.toNat) (fun z9 => cond (pj_c1 .ne z9 c) (Int32.ofInt 0) ((Int8.ofInt (-2)).toInt32)))))))) (pj_nm (F_177x G0 c) (fun y11 => cond (pj_c1 .ne y11 0) (pj_nm ((Int32.ofInt 4) * b) (fun z13 => pj_nm (z13 + (Int32.ofInt 1)) (fun z14 => pj_nm (pj_ai G0 179 z14.toInt.toNat) (fun z15 => cond (pj_c1 .gt z15 0) ((Int8.ofInt (-2)).toInt32) (pj_nm (z13 + (Int32.ofInt 0)) (fun z17 => pj_nm (pj_ai G0 179 z17.toInt.toNat) (fun z18 => cond (pj_c1 .ne z18 c) (pj_nm (pj_ai G0 177 b.toInt.toNat) (fun z20 => pj_nm (pj_ai G0 176 c.toInt.toNat) (fun z21 => cond (pj_c1 .ge z20 z21) (pj_nm (F_206x G0 c (Int32.ofInt 1)) (fun y23 => cond (pj_c1 .ge y23 0) ((Int8.ofInt (-4)).toInt32) (pj_nm (F_206x G0 c (Int32.ofInt 0)) (fun y25 => cond (pj_c1 .lt y25 0) (Int32.ofInt 0) ((Int8.ofInt (-4)).toInt32))))) ((Int8.ofInt (-3)).toInt32)))) ((Int8.ofInt (-2)).toInt32)))))))) (Int32.ofInt (-1))))))
theorem F_219x_e (G0 : pj_G) (b : Int32) (c : Int32) : F_219x G0 b c = pj_nm (F_178x G0 b) (fun y1 => cond (pj_c1 .eq y1 0) (Int32.ofInt (-1)) (cond (pj_c1 .eq c (Int32.ofInt (-1))) (pj_nm ((Int32.ofInt 4) * b) (fun z4 => pj_nm (z4 + (Int32.ofInt 1)) (fun z5 => pj_nm (pj_ai G0 179 z5.toInt.toNat) (fun z6 => cond (pj_c1 .gt z6 0) ((Int8.ofInt (-2)).toInt32) (pj_nm (z4 + (Int32.ofInt 0)) (fun z8 => pj_nm (pj_ai G0 179 z8.toInt.toNat) (fun z9 => cond (pj_c1 .ne z9 c) (Int32.ofInt 0) ((Int8.ofInt (-2)).toInt32)))))))) (pj_nm (F_177x G0 c) (fun y11 => cond (pj_c1 .ne y11 0) (pj_nm ((Int32.ofInt 4) * b) (fun z13 => pj_nm (z13 + (Int32.ofInt 1)) (fun z14 => pj_nm (pj_ai G0 179 z14.toInt.toNat) (fun z15 => cond (pj_c1 .gt z15 0) ((Int8.ofInt (-2)).toInt32) (pj_nm (z13 + (Int32.ofInt 0)) (fun z17 => pj_nm (pj_ai G0 179 z17.toInt.toNat) (fun z18 => cond (pj_c1 .ne z18 c) (pj_nm (pj_ai G0 177 b.toInt.toNat) (fun z20 => pj_nm (pj_ai G0 176 c.toInt.toNat) (fun z21 => cond (pj_c1 .ge z20 z21) (pj_nm (F_206x G0 c (Int32.ofInt 1)) (fun y23 => cond (pj_c1 .ge y23 0) ((Int8.ofInt (-4)).toInt32) (pj_nm (F_206x G0 c (Int32.ofInt 0)) (fun y25 => cond (pj_c1 .lt y25 0) (Int32.ofInt 0) ((Int8.ofInt (-4)).toInt32))))) ((Int8.ofInt (-3)).toInt32)))) ((Int8.ofInt (-2)).toInt32)))))))) (Int32.ofInt (-1)))))) := rfl
theorem ct_218x (G0 : pj_G) (hI : pj_Inv G0) (b : Int32) (c : Int32) : pj_Y 3 218 [.ref 171, .int b, .int c] G0 (fun v' G' => ∃ y : Int32, v' = some (.int y) ∧ G0 = G' ∧ ((-4 : Int) ≤ y.toInt ∧ y.toInt ≤ 0) ∧ (0 ≤ y.toInt → 0 ≤ b.toInt ∧ b.toInt ≤ 5 ∧ -1 ≤ c.toInt ∧ c.toInt ≤ 9) ∧ (y = F_219x G0 b c)) := by
  have c0_ : ((Int8.ofInt (-2)).toInt32).toInt = -2 := by decide
  have c1_ : ((Int8.ofInt (-3)).toInt32).toInt = -3 := by decide
  have c2_ : ((Int8.ofInt (-4)).toInt32).toInt = -4 := by decide
  have c3_ : (Int32.ofInt (-1)).toInt = -1 := by decide
  have c4_ : (Int32.ofInt 0).toInt = 0 := by decide
  have c5_ : (Int32.ofInt 1).toInt = 1 := by decide
  have c6_ : (Int32.ofInt 4).toInt = 4 := by decide
  refine pj_Y_X (M := pj_m218) rfl rfl (Nat.le_of_ble_eq_true rfl) ?_
  have hK : pj_kpt ([], [], []) G0 G0 := pj_kpt_r _ _
  show pj_X _ _ G0 0 [(0, .ref 171), (1, .int b), (2, .int c)] [] _
  rw [F_219x_e]
  refine pj_X_of (fun r h => pj_R_to (G0, 2, [(0, .ref 171), (1, .int b), (2, .int c)], [.int b, .ref 171], 0, 0) 2 3 (fun _ => rfl) h) ?_
  refine pj_X_ca (vs := [.ref 171, .int b]) rfl (fun _ => rfl) ⟨Nat.le_of_ble_eq_true rfl, Nat.le_of_ble_eq_true rfl, pj_T_rcv hI rfl⟩ ⟨rfl, rfl⟩ (pj_Y_up (by decide) (ct_177x G0 hI b)) ?_
  rintro _ _ ⟨y1, rfl, rfl, ry1, ey1, fy1⟩
  replace ey1 := ey1 _ rfl
  rw [← fy1, pj_nm_e]
  show pj_X _ _ G0 5 [(0, .ref 171), (1, .int b), (2, .int c)] [.int y1] _
  cases b2 : pj_c1 .eq y1 0 with
  | true =>
    rw [pj_cT]
    have ub2 := pj_u0_eqT b2
    refine pj_X_of (fun r h => pj_R_ifT 21 rfl rfl b2 h) ?_
    refine pj_X_of (fun r h => pj_R_to (G0, 22, [(0, .ref 171), (1, .int b), (2, .int c)], [.int (Int32.ofInt (-1))], 0, 0) 22 2 (fun _ => rfl) h) ?_
    exact pj_X_rt rfl rfl ⟨_, rfl, rfl, ⟨by omega, by omega⟩, by omega, rfl⟩
  | false =>
    rw [pj_cF]
    have ub2 := pj_u0_eqF b2
    refine pj_X_of (fun r h => pj_R_ifF rfl b2 h) ?_
    refine pj_X_of (fun r h => pj_R_to (G0, 10, [(0, .ref 171), (1, .int b), (2, .int c)], [.int (Int32.ofInt (-1)), .int c], 0, 0) 10 3 (fun _ => rfl) h) ?_
    cases b3 : pj_c1 .eq c (Int32.ofInt (-1)) with
    | true =>
      rw [pj_cT]
      have ub3 := pj_u_eqT b3
      refine pj_X_of (fun r h => pj_R_icT 23 rfl rfl b3 h) ?_
      refine pj_X_of (fun r h => pj_R_to (G0, 24, [(0, .ref 171), (1, .int b), (2, .int c)], [.ref 171], 0, 0) 24 2 (fun _ => rfl) h) ?_
      refine pj_X_of (fun r h => pj_T_gr hI rfl rfl rfl h) ?_
      refine pj_X_of (fun r h => pj_R_to (G0, 30, [(0, .ref 171), (1, .int b), (2, .int c)], [.int ((Int32.ofInt 4) * b), .ref 179], 0, 0) 30 4 (fun _ => rfl) h) ?_
      obtain ⟨z4, hz4⟩ : ∃ z : Int32, z = (Int32.ofInt 4) * b := ⟨_, rfl⟩
      refine pj_X_eqi hz4.symm ?_
      rw [← hz4, pj_nm_e]
      have fz4_0 : z4.toInt = 4 * b.toInt := by rw [hz4]; exact pj_mulL (by decide) (by omega) (by omega)
      refine pj_X_of (fun r h => pj_R_to (G0, 32, [(0, .ref 171), (1, .int b), (2, .int c)], [.int (z4 + (Int32.ofInt 1)), .ref 179], 0, 0) 32 3 (fun _ => rfl) h) ?_
      obtain ⟨z5, hz5⟩ : ∃ z : Int32, z = z4 + (Int32.ofInt 1) := ⟨_, rfl⟩
      refine pj_X_eqi hz5.symm ?_
      rw [← hz5, pj_nm_e]
      have fz5_0 : z5.toInt = z4.toInt + (Int32.ofInt 1).toInt := by rw [hz5]; exact pj_addI (by have := pj_i32 z4; have := pj_i32 (Int32.ofInt 1); omega) (by have := pj_i32 z4; have := pj_i32 (Int32.ofInt 1); omega)
      refine pj_X_of (fun r h => pj_T_il hI rfl rfl (by omega) (by omega) h) ?_
      show pj_X _ _ G0 33 [(0, .ref 171), (1, .int b), (2, .int c)] [.int (pj_ai G0 179 z5.toInt.toNat)] _
      obtain ⟨z6, hz6⟩ : ∃ z : Int32, z = pj_ai G0 179 z5.toInt.toNat := ⟨_, rfl⟩
      refine pj_X_eqi hz6.symm ?_
      rw [← hz6, pj_nm_e]
      have ez6 : (pj_ai G0 179 z5.toInt.toNat).toInt = z6.toInt := by rw [hz6]
      have fz6_0 : 0 ≤ z6.toInt := by rw [hz6]; exact ((hI.2.2.2 179 32 rfl _ (by show _ < 32; omega)).1 (by omega)).2 (by omega)
      cases b7 : pj_c1 .gt z6 0 with
      | true =>
        rw [pj_cT]
        have ub7 := pj_u0_gtT b7
        refine pj_X_of (fun r h => pj_R_ifT 50 rfl rfl b7 h) ?_
        refine pj_X_of (fun r h => pj_R_to (G0, 52, [(0, .ref 171), (1, .int b), (2, .int c)], [.int ((Int8.ofInt (-2)).toInt32)], 0, 0) 52 2 (fun _ => rfl) h) ?_
        exact pj_X_rt rfl rfl ⟨_, rfl, rfl, ⟨by omega, by omega⟩, by omega, rfl⟩
      | false =>
        rw [pj_cF]
        have ub7 := pj_u0_gtF b7
        refine pj_X_of (fun r h => pj_R_ifF rfl b7 h) ?_
        refine pj_X_of (fun r h => pj_R_to (G0, 37, [(0, .ref 171), (1, .int b), (2, .int c)], [.ref 171], 0, 0) 37 2 (fun _ => rfl) h) ?_
        refine pj_X_of (fun r h => pj_T_gr hI rfl rfl rfl h) ?_
        refine pj_X_of (fun r h => pj_R_to (G0, 43, [(0, .ref 171), (1, .int b), (2, .int c)], [.int ((Int32.ofInt 4) * b), .ref 179], 0, 0) 43 4 (fun _ => rfl) h) ?_
        refine pj_X_eqi hz4.symm ?_
        refine pj_X_of (fun r h => pj_R_to (G0, 45, [(0, .ref 171), (1, .int b), (2, .int c)], [.int (z4 + (Int32.ofInt 0)), .ref 179], 0, 0) 45 3 (fun _ => rfl) h) ?_
        obtain ⟨z8, hz8⟩ : ∃ z : Int32, z = z4 + (Int32.ofInt 0) := ⟨_, rfl⟩
        refine pj_X_eqi hz8.symm ?_
        rw [← hz8, pj_nm_e]
        have fz8_0 : z8.toInt = z4.toInt + (Int32.ofInt 0).toInt := by rw [hz8]; exact pj_addI (by have := pj_i32 z4; have := pj_i32 (Int32.ofInt 0); omega) (by have := pj_i32 z4; have := pj_i32 (Int32.ofInt 0); omega)
        refine pj_X_of (fun r h => pj_T_il hI rfl rfl (by omega) (by omega) h) ?_
        show pj_X _ _ G0 46 [(0, .ref 171), (1, .int b), (2, .int c)] [.int (pj_ai G0 179 z8.toInt.toNat)] _
        obtain ⟨z9, hz9⟩ : ∃ z : Int32, z = pj_ai G0 179 z8.toInt.toNat := ⟨_, rfl⟩
        refine pj_X_eqi hz9.symm ?_
        rw [← hz9, pj_nm_e]
        have ez9 : (pj_ai G0 179 z8.toInt.toNat).toInt = z9.toInt := by rw [hz9]
        have fz9_0 : -1 ≤ z9.toInt ∧ z9.toInt ≤ 9 := by rw [hz9]; exact ((hI.2.2.2 179 32 rfl _ (by show _ < 32; omega)).1 (by omega)).1 (by omega)
        refine pj_X_of (fun r h => pj_R_to (G0, 47, [(0, .ref 171), (1, .int b), (2, .int c)], [.int c, .int z9], 0, 0) 47 2 (fun _ => rfl) h) ?_
        cases b10 : pj_c1 .ne z9 c with
        | true =>
          rw [pj_cT]
          have ub10 := pj_u_neT b10
          refine pj_X_of (fun r h => pj_R_icT 53 rfl rfl b10 h) ?_
          refine pj_X_of (fun r h => pj_R_to (G0, 54, [(0, .ref 171), (1, .int b), (2, .int c)], [.int c], 0, 0) 54 2 (fun _ => rfl) h) ?_
          refine pj_X_of (fun r h => pj_R_ifF rfl (pj_b0_geF (by omega)) h) ?_
          refine pj_X_of (fun r h => pj_R_to (G0, 58, [(0, .ref 171), (1, .int b), (2, .int c)], [.int (Int32.ofInt 0)], 0, 0) 58 2 (fun _ => rfl) h) ?_
          exact pj_X_rt rfl rfl ⟨_, rfl, rfl, ⟨by omega, by omega⟩, by omega, rfl⟩
        | false =>
          rw [pj_cF]
          have ub10 := pj_u_neF b10
          refine pj_X_of (fun r h => pj_R_icF rfl b10 h) ?_
          refine pj_X_of (fun r h => pj_R_to (G0, 52, [(0, .ref 171), (1, .int b), (2, .int c)], [.int ((Int8.ofInt (-2)).toInt32)], 0, 0) 52 2 (fun _ => rfl) h) ?_
          exact pj_X_rt rfl rfl ⟨_, rfl, rfl, ⟨by omega, by omega⟩, by omega, rfl⟩
    | false =>
      rw [pj_cF]
      have ub3 := pj_u_eqF b3
      refine pj_X_of (fun r h => pj_R_icF rfl b3 h) ?_
      refine pj_X_of (fun r h => pj_R_to (G0, 15, [(0, .ref 171), (1, .int b), (2, .int c)], [.int c, .ref 171], 0, 0) 15 3 (fun _ => rfl) h) ?_
      refine pj_X_ca (vs := [.ref 171, .int c]) rfl (fun _ => rfl) ⟨Nat.le_of_ble_eq_true rfl, Nat.le_of_ble_eq_true rfl, pj_T_rcv hI rfl⟩ ⟨rfl, rfl⟩ (pj_Y_up (by decide) (ct_176x G0 hI c)) ?_
      rintro _ _ ⟨y11, rfl, rfl, ry11, ey11, fy11⟩
      replace ey11 := ey11 _ rfl
      rw [← fy11, pj_nm_e]
      show pj_X _ _ G0 18 [(0, .ref 171), (1, .int b), (2, .int c)] [.int y11] _
      cases b12 : pj_c1 .ne y11 0 with
      | true =>
        rw [pj_cT]
        have ub12 := pj_u0_neT b12
        refine pj_X_of (fun r h => pj_R_ifT 23 rfl rfl b12 h) ?_
        refine pj_X_of (fun r h => pj_R_to (G0, 24, [(0, .ref 171), (1, .int b), (2, .int c)], [.ref 171], 0, 0) 24 2 (fun _ => rfl) h) ?_
        refine pj_X_of (fun r h => pj_T_gr hI rfl rfl rfl h) ?_
        refine pj_X_of (fun r h => pj_R_to (G0, 30, [(0, .ref 171), (1, .int b), (2, .int c)], [.int ((Int32.ofInt 4) * b), .ref 179], 0, 0) 30 4 (fun _ => rfl) h) ?_
        obtain ⟨z13, hz13⟩ : ∃ z : Int32, z = (Int32.ofInt 4) * b := ⟨_, rfl⟩
        refine pj_X_eqi hz13.symm ?_
        rw [← hz13, pj_nm_e]
        have fz13_0 : z13.toInt = 4 * b.toInt := by rw [hz13]; exact pj_mulL (by decide) (by omega) (by omega)
        refine pj_X_of (fun r h => pj_R_to (G0, 32, [(0, .ref 171), (1, .int b), (2, .int c)], [.int (z13 + (Int32.ofInt 1)), .ref 179], 0, 0) 32 3 (fun _ => rfl) h) ?_
        obtain ⟨z14, hz14⟩ : ∃ z : Int32, z = z13 + (Int32.ofInt 1) := ⟨_, rfl⟩
        refine pj_X_eqi hz14.symm ?_
        rw [← hz14, pj_nm_e]
        have fz14_0 : z14.toInt = z13.toInt + (Int32.ofInt 1).toInt := by rw [hz14]; exact pj_addI (by have := pj_i32 z13; have := pj_i32 (Int32.ofInt 1); omega) (by have := pj_i32 z13; have := pj_i32 (Int32.ofInt 1); omega)
        refine pj_X_of (fun r h => pj_T_il hI rfl rfl (by omega) (by omega) h) ?_
        show pj_X _ _ G0 33 [(0, .ref 171), (1, .int b), (2, .int c)] [.int (pj_ai G0 179 z14.toInt.toNat)] _
        obtain ⟨z15, hz15⟩ : ∃ z : Int32, z = pj_ai G0 179 z14.toInt.toNat := ⟨_, rfl⟩
        refine pj_X_eqi hz15.symm ?_
        rw [← hz15, pj_nm_e]
        have ez15 : (pj_ai G0 179 z14.toInt.toNat).toInt = z15.toInt := by rw [hz15]
        have fz15_0 : 0 ≤ z15.toInt := by rw [hz15]; exact ((hI.2.2.2 179 32 rfl _ (by show _ < 32; omega)).1 (by omega)).2 (by omega)
        cases b16 : pj_c1 .gt z15 0 with
        | true =>
          rw [pj_cT]
          have ub16 := pj_u0_gtT b16
          refine pj_X_of (fun r h => pj_R_ifT 50 rfl rfl b16 h) ?_
          refine pj_X_of (fun r h => pj_R_to (G0, 52, [(0, .ref 171), (1, .int b), (2, .int c)], [.int ((Int8.ofInt (-2)).toInt32)], 0, 0) 52 2 (fun _ => rfl) h) ?_
          exact pj_X_rt rfl rfl ⟨_, rfl, rfl, ⟨by omega, by omega⟩, by omega, rfl⟩
        | false =>
          rw [pj_cF]
          have ub16 := pj_u0_gtF b16
          refine pj_X_of (fun r h => pj_R_ifF rfl b16 h) ?_
          refine pj_X_of (fun r h => pj_R_to (G0, 37, [(0, .ref 171), (1, .int b), (2, .int c)], [.ref 171], 0, 0) 37 2 (fun _ => rfl) h) ?_
          refine pj_X_of (fun r h => pj_T_gr hI rfl rfl rfl h) ?_
          refine pj_X_of (fun r h => pj_R_to (G0, 43, [(0, .ref 171), (1, .int b), (2, .int c)], [.int ((Int32.ofInt 4) * b), .ref 179], 0, 0) 43 4 (fun _ => rfl) h) ?_
          refine pj_X_eqi hz13.symm ?_
          refine pj_X_of (fun r h => pj_R_to (G0, 45, [(0, .ref 171), (1, .int b), (2, .int c)], [.int (z13 + (Int32.ofInt 0)), .ref 179], 0, 0) 45 3 (fun _ => rfl) h) ?_
          obtain ⟨z17, hz17⟩ : ∃ z : Int32, z = z13 + (Int32.ofInt 0) := ⟨_, rfl⟩
          refine pj_X_eqi hz17.symm ?_
          rw [← hz17, pj_nm_e]
          have fz17_0 : z17.toInt = z13.toInt + (Int32.ofInt 0).toInt := by rw [hz17]; exact pj_addI (by have := pj_i32 z13; have := pj_i32 (Int32.ofInt 0); omega) (by have := pj_i32 z13; have := pj_i32 (Int32.ofInt 0); omega)
          refine pj_X_of (fun r h => pj_T_il hI rfl rfl (by omega) (by omega) h) ?_
          show pj_X _ _ G0 46 [(0, .ref 171), (1, .int b), (2, .int c)] [.int (pj_ai G0 179 z17.toInt.toNat)] _
          obtain ⟨z18, hz18⟩ : ∃ z : Int32, z = pj_ai G0 179 z17.toInt.toNat := ⟨_, rfl⟩
          refine pj_X_eqi hz18.symm ?_
          rw [← hz18, pj_nm_e]
          have ez18 : (pj_ai G0 179 z17.toInt.toNat).toInt = z18.toInt := by rw [hz18]
          have fz18_0 : -1 ≤ z18.toInt ∧ z18.toInt ≤ 9 := by rw [hz18]; exact ((hI.2.2.2 179 32 rfl _ (by show _ < 32; omega)).1 (by omega)).1 (by omega)
          refine pj_X_of (fun r h => pj_R_to (G0, 47, [(0, .ref 171), (1, .int b), (2, .int c)], [.int c, .int z18], 0, 0) 47 2 (fun _ => rfl) h) ?_
          cases b19 : pj_c1 .ne z18 c with
          | true =>
            rw [pj_cT]
            have ub19 := pj_u_neT b19
            refine pj_X_of (fun r h => pj_R_icT 53 rfl rfl b19 h) ?_
            refine pj_X_of (fun r h => pj_R_to (G0, 54, [(0, .ref 171), (1, .int b), (2, .int c)], [.int c], 0, 0) 54 2 (fun _ => rfl) h) ?_
            refine pj_X_of (fun r h => pj_R_ifT 59 rfl rfl (pj_b0_geT (by omega)) h) ?_
            refine pj_X_of (fun r h => pj_R_to (G0, 60, [(0, .ref 171), (1, .int b), (2, .int c)], [.ref 171], 0, 0) 60 2 (fun _ => rfl) h) ?_
            refine pj_X_of (fun r h => pj_T_gr hI rfl rfl rfl h) ?_
            refine pj_X_of (fun r h => pj_R_to (G0, 64, [(0, .ref 171), (1, .int b), (2, .int c)], [.int b, .ref 177], 0, 0) 64 2 (fun _ => rfl) h) ?_
            refine pj_X_of (fun r h => pj_T_il hI rfl rfl (by omega) (by omega) h) ?_
            show pj_X _ _ G0 65 [(0, .ref 171), (1, .int b), (2, .int c)] [.int (pj_ai G0 177 b.toInt.toNat)] _
            obtain ⟨z20, hz20⟩ : ∃ z : Int32, z = pj_ai G0 177 b.toInt.toNat := ⟨_, rfl⟩
            refine pj_X_eqi hz20.symm ?_
            rw [← hz20, pj_nm_e]
            have ez20 : (pj_ai G0 177 b.toInt.toNat).toInt = z20.toInt := by rw [hz20]
            refine pj_X_of (fun r h => pj_R_to (G0, 66, [(0, .ref 171), (1, .int b), (2, .int c)], [.ref 171, .int z20], 0, 0) 66 2 (fun _ => rfl) h) ?_
            refine pj_X_of (fun r h => pj_T_gr hI rfl rfl rfl h) ?_
            refine pj_X_of (fun r h => pj_R_to (G0, 70, [(0, .ref 171), (1, .int b), (2, .int c)], [.int c, .ref 176, .int z20], 0, 0) 70 2 (fun _ => rfl) h) ?_
            refine pj_X_of (fun r h => pj_T_il hI rfl rfl (by omega) (by omega) h) ?_
            show pj_X _ _ G0 71 [(0, .ref 171), (1, .int b), (2, .int c)] [.int (pj_ai G0 176 c.toInt.toNat), .int z20] _
            obtain ⟨z21, hz21⟩ : ∃ z : Int32, z = pj_ai G0 176 c.toInt.toNat := ⟨_, rfl⟩
            refine pj_X_eqi hz21.symm ?_
            rw [← hz21, pj_nm_e]
            have ez21 : (pj_ai G0 176 c.toInt.toNat).toInt = z21.toInt := by rw [hz21]
            cases b22 : pj_c1 .ge z20 z21 with
            | true =>
              rw [pj_cT]
              have ub22 := pj_u_geT b22
              refine pj_X_of (fun r h => pj_R_icT 79 rfl rfl b22 h) ?_
              refine pj_X_of (fun r h => pj_R_to (G0, 82, [(0, .ref 171), (1, .int b), (2, .int c)], [.int (Int32.ofInt 1), .int c, .ref 171], 0, 0) 82 4 (fun _ => rfl) h) ?_
              refine pj_X_ca (vs := [.ref 171, .int c, .int (Int32.ofInt 1)]) rfl (fun _ => rfl) ⟨Nat.le_of_ble_eq_true rfl, Nat.le_of_ble_eq_true rfl, pj_T_rcv hI rfl⟩ ⟨rfl, rfl⟩ (pj_Y_up (by decide) (ct_205x G0 hI c (Int32.ofInt 1) ⟨by omega, by omega⟩)) ?_
              rintro _ _ ⟨y23, rfl, rfl, ry23, ey23, fy23⟩
              replace ey23 := ey23 _ rfl
              rw [← fy23, pj_nm_e]
              show pj_X _ _ G0 85 [(0, .ref 171), (1, .int b), (2, .int c)] [.int y23] _
              cases b24 : pj_c1 .ge y23 0 with
              | true =>
                rw [pj_cT]
                have ub24 := pj_u0_geT b24
                refine pj_X_of (fun r h => pj_R_ifT 97 rfl rfl b24 h) ?_
                refine pj_X_of (fun r h => pj_R_to (G0, 103, [(0, .ref 171), (1, .int b), (2, .int c)], [.int ((Int8.ofInt (-4)).toInt32)], 0, 0) 103 3 (fun _ => rfl) h) ?_
                exact pj_X_rt rfl rfl ⟨_, rfl, rfl, ⟨by omega, by omega⟩, by omega, rfl⟩
              | false =>
                rw [pj_cF]
                have ub24 := pj_u0_geF b24
                refine pj_X_of (fun r h => pj_R_ifF rfl b24 h) ?_
                refine pj_X_of (fun r h => pj_R_to (G0, 91, [(0, .ref 171), (1, .int b), (2, .int c)], [.int (Int32.ofInt 0), .int c, .ref 171], 0, 0) 91 4 (fun _ => rfl) h) ?_
                refine pj_X_ca (vs := [.ref 171, .int c, .int (Int32.ofInt 0)]) rfl (fun _ => rfl) ⟨Nat.le_of_ble_eq_true rfl, Nat.le_of_ble_eq_true rfl, pj_T_rcv hI rfl⟩ ⟨rfl, rfl⟩ (pj_Y_up (by decide) (ct_205x G0 hI c (Int32.ofInt 0) ⟨by omega, by omega⟩)) ?_
                rintro _ _ ⟨y25, rfl, rfl, ry25, ey25, fy25⟩
                replace ey25 := ey25 _ rfl
                rw [← fy25, pj_nm_e]
                show pj_X _ _ G0 94 [(0, .ref 171), (1, .int b), (2, .int c)] [.int y25] _
                cases b26 : pj_c1 .lt y25 0 with
                | true =>
                  rw [pj_cT]
                  have ub26 := pj_u0_ltT b26
                  refine pj_X_of (fun r h => pj_R_ifT 102 rfl rfl b26 h) ?_
                  refine pj_X_of (fun r h => pj_R_to (G0, 103, [(0, .ref 171), (1, .int b), (2, .int c)], [.int (Int32.ofInt 0)], 0, 0) 103 2 (fun _ => rfl) h) ?_
                  exact pj_X_rt rfl rfl ⟨_, rfl, rfl, ⟨by omega, by omega⟩, by omega, rfl⟩
                | false =>
                  rw [pj_cF]
                  have ub26 := pj_u0_ltF b26
                  refine pj_X_of (fun r h => pj_R_ifF rfl b26 h) ?_
                  refine pj_X_of (fun r h => pj_R_to (G0, 103, [(0, .ref 171), (1, .int b), (2, .int c)], [.int ((Int8.ofInt (-4)).toInt32)], 0, 0) 103 3 (fun _ => rfl) h) ?_
                  exact pj_X_rt rfl rfl ⟨_, rfl, rfl, ⟨by omega, by omega⟩, by omega, rfl⟩
            | false =>
              rw [pj_cF]
              have ub22 := pj_u_geF b22
              refine pj_X_of (fun r h => pj_R_icF rfl b22 h) ?_
              refine pj_X_of (fun r h => pj_R_to (G0, 103, [(0, .ref 171), (1, .int b), (2, .int c)], [.int ((Int8.ofInt (-3)).toInt32)], 0, 0) 103 3 (fun _ => rfl) h) ?_
              exact pj_X_rt rfl rfl ⟨_, rfl, rfl, ⟨by omega, by omega⟩, by omega, rfl⟩
          | false =>
            rw [pj_cF]
            have ub19 := pj_u_neF b19
            refine pj_X_of (fun r h => pj_R_icF rfl b19 h) ?_
            refine pj_X_of (fun r h => pj_R_to (G0, 52, [(0, .ref 171), (1, .int b), (2, .int c)], [.int ((Int8.ofInt (-2)).toInt32)], 0, 0) 52 2 (fun _ => rfl) h) ?_
            exact pj_X_rt rfl rfl ⟨_, rfl, rfl, ⟨by omega, by omega⟩, by omega, rfl⟩
      | false =>
        rw [pj_cF]
        have ub12 := pj_u0_neF b12
        refine pj_X_of (fun r h => pj_R_ifF rfl b12 h) ?_
        refine pj_X_of (fun r h => pj_R_to (G0, 22, [(0, .ref 171), (1, .int b), (2, .int c)], [.int (Int32.ofInt (-1))], 0, 0) 22 2 (fun _ => rfl) h) ?_
        exact pj_X_rt rfl rfl ⟨_, rfl, rfl, ⟨by omega, by omega⟩, by omega, rfl⟩
theorem fr_219x (G0 : pj_G) (hI : pj_Inv G0) (b : Int32) (c : Int32) : ((-4 : Int) ≤ (F_219x G0 b c).toInt ∧ (F_219x G0 b c).toInt ≤ 0) ∧ (0 ≤ (F_219x G0 b c).toInt → 0 ≤ b.toInt ∧ b.toInt ≤ 5 ∧ -1 ≤ c.toInt ∧ c.toInt ≤ 9) := by
  obtain ⟨v, G', -, y, -, rfl, r, x, e⟩ := ct_218x G0 hI b c
  rw [← e]
  exact ⟨r, x⟩
def kc_219x : pj_KT := ([(171, 0)], [171, 184, 185], [184, 185])
noncomputable def F_220x (G0 : pj_G) (b : Int32) (c : Int32) : Int32 × pj_G := pj_nm (pj_wv G0 171 0 (.int (Int32.ofInt 0))) (fun G1 => pj_nm (F_219x G1 b c) (fun y2 => cond (pj_c1 .ge y2 0) (pj_bd (F_205x G1 b c) (fun y4 G5 => (y4, G5))) ((y2, G1))))
theorem F_220x_e (G0 : pj_G) (b : Int32) (c : Int32) : F_220x G0 b c = pj_nm (pj_wv G0 171 0 (.int (Int32.ofInt 0))) (fun G1 => pj_nm (F_219x G1 b c) (fun y2 => cond (pj_c1 .ge y2 0) (pj_bd (F_205x G1 b c) (fun y4 G5 => (y4, G5))) ((y2, G1)))) := rfl
theorem ct_219x (G0 : pj_G) (hI : pj_Inv G0) (b : Int32) (c : Int32) (p0_ : pj_RI G0) : pj_Y 6 219 [.ref 171, .int b, .int c] G0 (fun v' G' => ∃ y : Int32, v' = some (.int y) ∧ pj_Inv G' ∧ pj_kpt kc_219x G0 G' ∧ ((-4 : Int) ≤ y.toInt ∧ y.toInt ≤ 99) ∧ ((y, G') = F_220x G0 b c)) := by
  have c0_ : (Int32.ofInt 0).toInt = 0 := by decide
  refine pj_Y_X (M := pj_m219) rfl rfl (Nat.le_of_ble_eq_true rfl) ?_
  have hK : pj_kpt kc_219x G0 G0 := pj_kpt_r _ _
  show pj_X _ _ G0 0 [(0, .ref 171), (1, .int b), (2, .int c)] [] _
  rw [F_220x_e]
  refine pj_X_of (fun r h => pj_R_to (G0, 2, [(0, .ref 171), (1, .int b), (2, .int c)], [.int (Int32.ofInt 0), .ref 171], 0, 0) 2 3 (fun _ => rfl) h) ?_
  refine pj_X_of (fun r h => pj_T_pf hI rfl rfl rfl h) ?_
  show pj_X _ _ (pj_wv G0 171 0 (.int (Int32.ofInt 0))) 5 [(0, .ref 171), (1, .int b), (2, .int c)] [] _
  obtain ⟨G1, hG1⟩ : ∃ H, H = pj_wv G0 171 0 (.int (Int32.ofInt 0)) := ⟨_, rfl⟩
  have iG1 : pj_Inv G1 := by rw [hG1]; exact pj_Inv_wi hI (ci := 12) rfl (fun q hq => by cases hq)
  have kG1 : pj_kpt kc_219x G0 G1 := by rw [hG1]; exact pj_kpt_v hK rfl
  rw [← hG1]
  rw [pj_nm_e]
  refine pj_X_of (fun r h => pj_R_to (G1, 8, [(0, .ref 171), (1, .int b), (2, .int c)], [.int c, .int b, .ref 171], 0, 0) 8 4 (fun _ => rfl) h) ?_
  refine pj_X_ca (vs := [.ref 171, .int b, .int c]) rfl (fun _ => rfl) ⟨Nat.le_of_ble_eq_true rfl, Nat.le_of_ble_eq_true rfl, pj_T_rcv iG1 rfl⟩ ⟨rfl, rfl⟩ (pj_Y_up (by decide) (ct_218x G1 iG1 b c)) ?_
  rintro _ _ ⟨y2, rfl, rfl, ry2, ey2, fy2⟩
  rw [← fy2, pj_nm_e]
  show pj_X _ _ G1 11 [(0, .ref 171), (1, .int b), (2, .int c)] [.int y2] _
  refine pj_X_of (fun r h => pj_R_to (G1, 13, [(3, .int y2), (0, .ref 171), (1, .int b), (2, .int c)], [.int y2], 0, 0) 13 3 (fun _ => rfl) h) ?_
  cases b3 : pj_c1 .ge y2 0 with
  | true =>
    rw [pj_cT]
    have ub3 := pj_u0_geT b3
    refine pj_X_of (fun r h => pj_R_ifT 20 rfl rfl b3 h) ?_
    refine pj_X_of (fun r h => pj_R_to (G1, 23, [(3, .int y2), (0, .ref 171), (1, .int b), (2, .int c)], [.int c, .int b, .ref 171], 0, 0) 23 4 (fun _ => rfl) h) ?_
    refine pj_X_ca (vs := [.ref 171, .int b, .int c]) rfl (fun _ => rfl) ⟨Nat.le_of_ble_eq_true rfl, Nat.le_of_ble_eq_true rfl, pj_T_rcv iG1 rfl⟩ ⟨rfl, rfl⟩ (pj_Y_up (by decide) (ct_204x G1 iG1 b c ⟨by omega, by omega⟩ ⟨by omega, by omega⟩ (pj_RI_k p0_ kG1 rfl))) ?_
    rintro _ G5 ⟨y4, rfl, iG5, jG5, ry4, fy4⟩
    rw [← fy4, pj_bd_e]
    have kG5 : pj_kpt kc_219x G0 G5 := pj_kpt_t kG1 (pj_kpt_s jG5 rfl)
    show pj_X _ _ G5 26 [(3, .int y2), (0, .ref 171), (1, .int b), (2, .int c)] [.int y4] _
    exact pj_X_rt rfl rfl ⟨_, rfl, iG5, kG5, ⟨by omega, by omega⟩, rfl⟩
  | false =>
    rw [pj_cF]
    have ub3 := pj_u0_geF b3
    refine pj_X_of (fun r h => pj_R_ifF rfl b3 h) ?_
    refine pj_X_of (fun r h => pj_R_to (G1, 26, [(3, .int y2), (0, .ref 171), (1, .int b), (2, .int c)], [.int y2], 0, 0) 26 3 (fun _ => rfl) h) ?_
    exact pj_X_rt rfl rfl ⟨_, rfl, iG1, kG1, ⟨by omega, by omega⟩, rfl⟩
theorem fr_220x (G0 : pj_G) (hI : pj_Inv G0) (b : Int32) (c : Int32) (p0_ : pj_RI G0) : pj_Inv (F_220x G0 b c).2 ∧ pj_kpt kc_219x G0 (F_220x G0 b c).2 ∧ ((-4 : Int) ≤ (F_220x G0 b c).1.toInt ∧ (F_220x G0 b c).1.toInt ≤ 99) := by
  obtain ⟨v, G', -, y, -, i, j, r, e⟩ := ct_219x G0 hI b c p0_
  rw [← e]
  exact ⟨i, j, r⟩
def kc_220x : pj_KT := ([], [179, 184, 185], [179, 184, 185])
noncomputable def F_221x (G0 : pj_G) (b : Int32) (c : Int32) : Int32 × pj_G := pj_nm (F_219x G0 b c) (fun y1 => cond (pj_c1 .ge y1 0) (pj_bd (F_205x G0 b c) (fun y3 G4 => pj_nm ((Int32.ofInt 4) * b) (fun z5 => pj_nm (z5 + (Int32.ofInt 0)) (fun z6 => pj_nm (pj_wa G4 179 z6.toInt.toNat c) (fun G7 => pj_nm (z5 + (Int32.ofInt 1)) (fun z8 => pj_nm (pj_wa G7 179 z8.toInt.toNat y3) (fun G9 => (y3, G9)))))))) ((y1, G0)))
theorem F_221x_e (G0 : pj_G) (b : Int32) (c : Int32) : F_221x G0 b c = pj_nm (F_219x G0 b c) (fun y1 => cond (pj_c1 .ge y1 0) (pj_bd (F_205x G0 b c) (fun y3 G4 => pj_nm ((Int32.ofInt 4) * b) (fun z5 => pj_nm (z5 + (Int32.ofInt 0)) (fun z6 => pj_nm (pj_wa G4 179 z6.toInt.toNat c) (fun G7 => pj_nm (z5 + (Int32.ofInt 1)) (fun z8 => pj_nm (pj_wa G7 179 z8.toInt.toNat y3) (fun G9 => (y3, G9)))))))) ((y1, G0))) := rfl
theorem ct_220x (G0 : pj_G) (hI : pj_Inv G0) (b : Int32) (c : Int32) (p0_ : pj_RI G0) : pj_Y 6 220 [.ref 171, .int b, .int c] G0 (fun v' G' => ∃ y : Int32, v' = some (.int y) ∧ pj_Inv G' ∧ pj_kpt kc_220x G0 G' ∧ ((-4 : Int) ≤ y.toInt ∧ y.toInt ≤ 99) ∧ ((y, G') = F_221x G0 b c)) := by
  have c0_ : (Int32.ofInt 0).toInt = 0 := by decide
  have c1_ : (Int32.ofInt 1).toInt = 1 := by decide
  have c2_ : (Int32.ofInt 4).toInt = 4 := by decide
  refine pj_Y_X (M := pj_m220) rfl rfl (Nat.le_of_ble_eq_true rfl) ?_
  have hK : pj_kpt kc_220x G0 G0 := pj_kpt_r _ _
  show pj_X _ _ G0 0 [(0, .ref 171), (1, .int b), (2, .int c)] [] _
  rw [F_221x_e]
  refine pj_X_of (fun r h => pj_R_to (G0, 3, [(0, .ref 171), (1, .int b), (2, .int c)], [.int c, .int b, .ref 171], 0, 0) 3 4 (fun _ => rfl) h) ?_
  refine pj_X_ca (vs := [.ref 171, .int b, .int c]) rfl (fun _ => rfl) ⟨Nat.le_of_ble_eq_true rfl, Nat.le_of_ble_eq_true rfl, pj_T_rcv hI rfl⟩ ⟨rfl, rfl⟩ (pj_Y_up (by decide) (ct_218x G0 hI b c)) ?_
  rintro _ _ ⟨y1, rfl, rfl, ry1, ey1, fy1⟩
  rw [← fy1, pj_nm_e]
  show pj_X _ _ G0 6 [(0, .ref 171), (1, .int b), (2, .int c)] [.int y1] _
  refine pj_X_of (fun r h => pj_R_to (G0, 8, [(3, .int y1), (0, .ref 171), (1, .int b), (2, .int c)], [.int y1], 0, 0) 8 3 (fun _ => rfl) h) ?_
  cases b2 : pj_c1 .ge y1 0 with
  | true =>
    rw [pj_cT]
    have ub2 := pj_u0_geT b2
    refine pj_X_of (fun r h => pj_R_ifT 13 rfl rfl b2 h) ?_
    refine pj_X_of (fun r h => pj_R_to (G0, 16, [(3, .int y1), (0, .ref 171), (1, .int b), (2, .int c)], [.int c, .int b, .ref 171], 0, 0) 16 4 (fun _ => rfl) h) ?_
    refine pj_X_ca (vs := [.ref 171, .int b, .int c]) rfl (fun _ => rfl) ⟨Nat.le_of_ble_eq_true rfl, Nat.le_of_ble_eq_true rfl, pj_T_rcv hI rfl⟩ ⟨rfl, rfl⟩ (pj_Y_up (by decide) (ct_204x G0 hI b c ⟨by omega, by omega⟩ ⟨by omega, by omega⟩ (pj_RI_k p0_ hK rfl))) ?_
    rintro _ G4 ⟨y3, rfl, iG4, jG4, ry3, fy3⟩
    rw [← fy3, pj_bd_e]
    have kG4 : pj_kpt kc_220x G0 G4 := pj_kpt_t hK (pj_kpt_s jG4 rfl)
    show pj_X _ _ G4 19 [(3, .int y1), (0, .ref 171), (1, .int b), (2, .int c)] [.int y3] _
    refine pj_X_of (fun r h => pj_R_to (G4, 22, [(4, .int y3), (3, .int y1), (0, .ref 171), (1, .int b), (2, .int c)], [.ref 171], 0, 0) 22 3 (fun _ => rfl) h) ?_
    refine pj_X_of (fun r h => pj_T_gr iG4 rfl rfl rfl h) ?_
    refine pj_X_of (fun r h => pj_R_to (G4, 28, [(4, .int y3), (3, .int y1), (0, .ref 171), (1, .int b), (2, .int c)], [.int ((Int32.ofInt 4) * b), .ref 179], 0, 0) 28 4 (fun _ => rfl) h) ?_
    obtain ⟨z5, hz5⟩ : ∃ z : Int32, z = (Int32.ofInt 4) * b := ⟨_, rfl⟩
    refine pj_X_eqi hz5.symm ?_
    rw [← hz5, pj_nm_e]
    have fz5_0 : z5.toInt = 4 * b.toInt := by rw [hz5]; exact pj_mulL (by decide) (by omega) (by omega)
    refine pj_X_of (fun r h => pj_R_to (G4, 30, [(4, .int y3), (3, .int y1), (0, .ref 171), (1, .int b), (2, .int c)], [.int (z5 + (Int32.ofInt 0)), .ref 179], 0, 0) 30 3 (fun _ => rfl) h) ?_
    obtain ⟨z6, hz6⟩ : ∃ z : Int32, z = z5 + (Int32.ofInt 0) := ⟨_, rfl⟩
    refine pj_X_eqi hz6.symm ?_
    rw [← hz6, pj_nm_e]
    have fz6_0 : z6.toInt = z5.toInt + (Int32.ofInt 0).toInt := by rw [hz6]; exact pj_addI (by have := pj_i32 z5; have := pj_i32 (Int32.ofInt 0); omega) (by have := pj_i32 z5; have := pj_i32 (Int32.ofInt 0); omega)
    refine pj_X_of (fun r h => pj_R_to (G4, 31, [(4, .int y3), (3, .int y1), (0, .ref 171), (1, .int b), (2, .int c)], [.int c, .int z6, .ref 179], 0, 0) 31 2 (fun _ => rfl) h) ?_
    refine pj_X_of (fun r h => pj_T_is iG4 rfl rfl (by omega) (by omega) h) ?_
    show pj_X _ _ (pj_wa G4 179 z6.toInt.toNat c) 32 [(4, .int y3), (3, .int y1), (0, .ref 171), (1, .int b), (2, .int c)] [] _
    obtain ⟨G7, hG7⟩ : ∃ H, H = pj_wa G4 179 z6.toInt.toNat c := ⟨_, rfl⟩
    have iG7 : pj_Inv G7 := by rw [hG7]; exact pj_Inv_wa iG4 rfl (fun q hq => by cases hq) (fun n hn => ⟨fun h1 => ⟨fun h2 => by omega, fun h2 => by omega⟩, fun h1 => by omega⟩)
    have kG7 : pj_kpt kc_220x G0 G7 := by rw [hG7]; exact pj_kpt_a kG4 rfl
    rw [← hG7]
    rw [pj_nm_e]
    refine pj_X_of (fun r h => pj_R_to (G7, 33, [(4, .int y3), (3, .int y1), (0, .ref 171), (1, .int b), (2, .int c)], [.ref 171], 0, 0) 33 2 (fun _ => rfl) h) ?_
    refine pj_X_of (fun r h => pj_T_gr iG7 rfl rfl rfl h) ?_
    refine pj_X_of (fun r h => pj_R_to (G7, 39, [(4, .int y3), (3, .int y1), (0, .ref 171), (1, .int b), (2, .int c)], [.int ((Int32.ofInt 4) * b), .ref 179], 0, 0) 39 4 (fun _ => rfl) h) ?_
    refine pj_X_eqi hz5.symm ?_
    refine pj_X_of (fun r h => pj_R_to (G7, 41, [(4, .int y3), (3, .int y1), (0, .ref 171), (1, .int b), (2, .int c)], [.int (z5 + (Int32.ofInt 1)), .ref 179], 0, 0) 41 3 (fun _ => rfl) h) ?_
    obtain ⟨z8, hz8⟩ : ∃ z : Int32, z = z5 + (Int32.ofInt 1) := ⟨_, rfl⟩
    refine pj_X_eqi hz8.symm ?_
    rw [← hz8, pj_nm_e]
    have fz8_0 : z8.toInt = z5.toInt + (Int32.ofInt 1).toInt := by rw [hz8]; exact pj_addI (by have := pj_i32 z5; have := pj_i32 (Int32.ofInt 1); omega) (by have := pj_i32 z5; have := pj_i32 (Int32.ofInt 1); omega)
    refine pj_X_of (fun r h => pj_R_to (G7, 43, [(4, .int y3), (3, .int y1), (0, .ref 171), (1, .int b), (2, .int c)], [.int y3, .int z8, .ref 179], 0, 0) 43 2 (fun _ => rfl) h) ?_
    refine pj_X_of (fun r h => pj_T_is iG7 rfl rfl (by omega) (by omega) h) ?_
    show pj_X _ _ (pj_wa G7 179 z8.toInt.toNat y3) 44 [(4, .int y3), (3, .int y1), (0, .ref 171), (1, .int b), (2, .int c)] [] _
    obtain ⟨G9, hG9⟩ : ∃ H, H = pj_wa G7 179 z8.toInt.toNat y3 := ⟨_, rfl⟩
    have iG9 : pj_Inv G9 := by rw [hG9]; exact pj_Inv_wa iG7 rfl (fun q hq => by cases hq) (fun n hn => ⟨fun h1 => ⟨fun h2 => by omega, fun h2 => by omega⟩, fun h1 => by omega⟩)
    have kG9 : pj_kpt kc_220x G0 G9 := by rw [hG9]; exact pj_kpt_a kG7 rfl
    rw [← hG9]
    rw [pj_nm_e]
    refine pj_X_of (fun r h => pj_R_to (G9, 46, [(4, .int y3), (3, .int y1), (0, .ref 171), (1, .int b), (2, .int c)], [.int y3], 0, 0) 46 2 (fun _ => rfl) h) ?_
    exact pj_X_rt rfl rfl ⟨_, rfl, iG9, kG9, ⟨by omega, by omega⟩, rfl⟩
  | false =>
    rw [pj_cF]
    have ub2 := pj_u0_geF b2
    refine pj_X_of (fun r h => pj_R_ifF rfl b2 h) ?_
    refine pj_X_of (fun r h => pj_R_to (G0, 12, [(3, .int y1), (0, .ref 171), (1, .int b), (2, .int c)], [.int y1], 0, 0) 12 2 (fun _ => rfl) h) ?_
    exact pj_X_rt rfl rfl ⟨_, rfl, hI, hK, ⟨by omega, by omega⟩, rfl⟩
theorem fr_221x (G0 : pj_G) (hI : pj_Inv G0) (b : Int32) (c : Int32) (p0_ : pj_RI G0) : pj_Inv (F_221x G0 b c).2 ∧ pj_kpt kc_220x G0 (F_221x G0 b c).2 ∧ ((-4 : Int) ≤ (F_221x G0 b c).1.toInt ∧ (F_221x G0 b c).1.toInt ≤ 99) := by
  obtain ⟨v, G', -, y, -, i, j, r, e⟩ := ct_220x G0 hI b c p0_
  rw [← e]
  exact ⟨i, j, r⟩
def kc_221x : pj_KT := ([(171, 32)], [171, 179], [179])
noncomputable def F_222x (G0 : pj_G) (b : Int32) (hr : Int32) : Int32 × pj_G := pj_nm (pj_wv G0 171 32 (.int (Int32.ofInt 0))) (fun G1 => pj_nm (F_178x G1 b) (fun y2 => cond (pj_c1 .ne y2 0) (cond (pj_c1 .eq hr (Int32.ofInt (-1))) (pj_nm (pj_wv G1 171 32 (.int (Int32.ofInt 1))) (fun G5 => pj_nm ((Int32.ofInt 4) * b) (fun z6 => pj_nm (z6 + (Int32.ofInt 2)) (fun z7 => pj_nm (pj_ai G5 179 z7.toInt.toNat) (fun z8 => pj_nm (pj_wa G5 179 z7.toInt.toNat hr) (fun G9 => (z8, G9))))))) (pj_nm (pj_ai G1 179 ((Int8.ofInt 30).toInt32).toInt.toNat) (fun z10 => pj_nm (z10 + (Int32.ofInt 1)) (fun z11 => pj_nm (F_171x G1 hr.toInt64 z11.toInt64 (Int64.ofInt 999999)) (fun y15 => cond (pj_c1 .ne y15 0) (pj_nm (pj_wv G1 171 32 (.int (Int32.ofInt 1))) (fun G17 => pj_nm ((Int32.ofInt 4) * b) (fun z18 => pj_nm (z18 + (Int32.ofInt 2)) (fun z19 => pj_nm (pj_ai G17 179 z19.toInt.toNat) (fun z20 => pj_nm (pj_wa G17 179 z19.toInt.toNat hr) (fun G21 => (z20, G21))))))) (((Int8.ofInt (-2)).toInt32, G1))))))) (((Int8.ofInt (-3)).toInt32, G1))))
theorem F_222x_e (G0 : pj_G) (b : Int32) (hr : Int32) : F_222x G0 b hr = pj_nm (pj_wv G0 171 32 (.int (Int32.ofInt 0))) (fun G1 => pj_nm (F_178x G1 b) (fun y2 => cond (pj_c1 .ne y2 0) (cond (pj_c1 .eq hr (Int32.ofInt (-1))) (pj_nm (pj_wv G1 171 32 (.int (Int32.ofInt 1))) (fun G5 => pj_nm ((Int32.ofInt 4) * b) (fun z6 => pj_nm (z6 + (Int32.ofInt 2)) (fun z7 => pj_nm (pj_ai G5 179 z7.toInt.toNat) (fun z8 => pj_nm (pj_wa G5 179 z7.toInt.toNat hr) (fun G9 => (z8, G9))))))) (pj_nm (pj_ai G1 179 ((Int8.ofInt 30).toInt32).toInt.toNat) (fun z10 => pj_nm (z10 + (Int32.ofInt 1)) (fun z11 => pj_nm (F_171x G1 hr.toInt64 z11.toInt64 (Int64.ofInt 999999)) (fun y15 => cond (pj_c1 .ne y15 0) (pj_nm (pj_wv G1 171 32 (.int (Int32.ofInt 1))) (fun G17 => pj_nm ((Int32.ofInt 4) * b) (fun z18 => pj_nm (z18 + (Int32.ofInt 2)) (fun z19 => pj_nm (pj_ai G17 179 z19.toInt.toNat) (fun z20 => pj_nm (pj_wa G17 179 z19.toInt.toNat hr) (fun G21 => (z20, G21))))))) (((Int8.ofInt (-2)).toInt32, G1))))))) (((Int8.ofInt (-3)).toInt32, G1)))) := rfl
theorem ct_221x (G0 : pj_G) (hI : pj_Inv G0) (b : Int32) (hr : Int32) : pj_Y 3 221 [.ref 171, .int b, .int hr] G0 (fun v' G' => ∃ y : Int32, v' = some (.int y) ∧ pj_Inv G' ∧ pj_kpt kc_221x G0 G' ∧ ((-2147483648 : Int) ≤ y.toInt ∧ y.toInt ≤ 2147483647) ∧ ((y, G') = F_222x G0 b hr)) := by
  have c0_ : ((Int8.ofInt (-2)).toInt32).toInt = -2 := by decide
  have c1_ : ((Int8.ofInt (-3)).toInt32).toInt = -3 := by decide
  have c2_ : ((Int8.ofInt 30).toInt32).toInt = 30 := by decide
  have c3_ : (Int32.ofInt (-1)).toInt = -1 := by decide
  have c4_ : (Int32.ofInt 0).toInt = 0 := by decide
  have c5_ : (Int32.ofInt 1).toInt = 1 := by decide
  have c6_ : (Int32.ofInt 2).toInt = 2 := by decide
  have c7_ : (Int32.ofInt 4).toInt = 4 := by decide
  refine pj_Y_X (M := pj_m221) rfl rfl (Nat.le_of_ble_eq_true rfl) ?_
  have hK : pj_kpt kc_221x G0 G0 := pj_kpt_r _ _
  show pj_X _ _ G0 0 [(0, .ref 171), (1, .int b), (2, .int hr)] [] _
  rw [F_222x_e]
  refine pj_X_of (fun r h => pj_R_to (G0, 2, [(0, .ref 171), (1, .int b), (2, .int hr)], [.int (Int32.ofInt 0), .ref 171], 0, 0) 2 3 (fun _ => rfl) h) ?_
  refine pj_X_of (fun r h => pj_T_pf hI rfl rfl rfl h) ?_
  show pj_X _ _ (pj_wv G0 171 32 (.int (Int32.ofInt 0))) 5 [(0, .ref 171), (1, .int b), (2, .int hr)] [] _
  obtain ⟨G1, hG1⟩ : ∃ H, H = pj_wv G0 171 32 (.int (Int32.ofInt 0)) := ⟨_, rfl⟩
  have iG1 : pj_Inv G1 := by rw [hG1]; exact pj_Inv_wi hI (ci := 12) rfl (fun q hq => by cases hq; exact ⟨by show (0 : Int) ≤ _; omega, by show _ ≤ (1 : Int); omega⟩)
  have kG1 : pj_kpt kc_221x G0 G1 := by rw [hG1]; exact pj_kpt_v hK rfl
  rw [← hG1]
  rw [pj_nm_e]
  refine pj_X_of (fun r h => pj_R_to (G1, 7, [(0, .ref 171), (1, .int b), (2, .int hr)], [.int b, .ref 171], 0, 0) 7 3 (fun _ => rfl) h) ?_
  refine pj_X_ca (vs := [.ref 171, .int b]) rfl (fun _ => rfl) ⟨Nat.le_of_ble_eq_true rfl, Nat.le_of_ble_eq_true rfl, pj_T_rcv iG1 rfl⟩ ⟨rfl, rfl⟩ (pj_Y_up (by decide) (ct_177x G1 iG1 b)) ?_
  rintro _ _ ⟨y2, rfl, rfl, ry2, ey2, fy2⟩
  replace ey2 := ey2 _ rfl
  rw [← fy2, pj_nm_e]
  show pj_X _ _ G1 10 [(0, .ref 171), (1, .int b), (2, .int hr)] [.int y2] _
  cases b3 : pj_c1 .ne y2 0 with
  | true =>
    rw [pj_cT]
    have ub3 := pj_u0_neT b3
    refine pj_X_of (fun r h => pj_R_ifT 16 rfl rfl b3 h) ?_
    refine pj_X_of (fun r h => pj_R_to (G1, 18, [(0, .ref 171), (1, .int b), (2, .int hr)], [.int (Int32.ofInt (-1)), .int hr], 0, 0) 18 3 (fun _ => rfl) h) ?_
    cases b4 : pj_c1 .eq hr (Int32.ofInt (-1)) with
    | true =>
      rw [pj_cT]
      have ub4 := pj_u_eqT b4
      refine pj_X_of (fun r h => pj_R_icT 45 rfl rfl b4 h) ?_
      refine pj_X_of (fun r h => pj_R_to (G1, 47, [(0, .ref 171), (1, .int b), (2, .int hr)], [.int (Int32.ofInt 1), .ref 171], 0, 0) 47 3 (fun _ => rfl) h) ?_
      refine pj_X_of (fun r h => pj_T_pf iG1 rfl rfl rfl h) ?_
      show pj_X _ _ (pj_wv G1 171 32 (.int (Int32.ofInt 1))) 50 [(0, .ref 171), (1, .int b), (2, .int hr)] [] _
      obtain ⟨G5, hG5⟩ : ∃ H, H = pj_wv G1 171 32 (.int (Int32.ofInt 1)) := ⟨_, rfl⟩
      have iG5 : pj_Inv G5 := by rw [hG5]; exact pj_Inv_wi iG1 (ci := 12) rfl (fun q hq => by cases hq; exact ⟨by show (0 : Int) ≤ _; omega, by show _ ≤ (1 : Int); omega⟩)
      have kG5 : pj_kpt kc_221x G0 G5 := by rw [hG5]; exact pj_kpt_v kG1 rfl
      rw [← hG5]
      rw [pj_nm_e]
      refine pj_X_of (fun r h => pj_R_to (G5, 51, [(0, .ref 171), (1, .int b), (2, .int hr)], [.ref 171], 0, 0) 51 2 (fun _ => rfl) h) ?_
      refine pj_X_of (fun r h => pj_T_gr iG5 rfl rfl rfl h) ?_
      refine pj_X_of (fun r h => pj_R_to (G5, 57, [(0, .ref 171), (1, .int b), (2, .int hr)], [.int ((Int32.ofInt 4) * b), .ref 179], 0, 0) 57 4 (fun _ => rfl) h) ?_
      obtain ⟨z6, hz6⟩ : ∃ z : Int32, z = (Int32.ofInt 4) * b := ⟨_, rfl⟩
      refine pj_X_eqi hz6.symm ?_
      rw [← hz6, pj_nm_e]
      have fz6_0 : z6.toInt = 4 * b.toInt := by rw [hz6]; exact pj_mulL (by decide) (by omega) (by omega)
      refine pj_X_of (fun r h => pj_R_to (G5, 59, [(0, .ref 171), (1, .int b), (2, .int hr)], [.int (z6 + (Int32.ofInt 2)), .ref 179], 0, 0) 59 3 (fun _ => rfl) h) ?_
      obtain ⟨z7, hz7⟩ : ∃ z : Int32, z = z6 + (Int32.ofInt 2) := ⟨_, rfl⟩
      refine pj_X_eqi hz7.symm ?_
      rw [← hz7, pj_nm_e]
      have fz7_0 : z7.toInt = z6.toInt + (Int32.ofInt 2).toInt := by rw [hz7]; exact pj_addI (by have := pj_i32 z6; have := pj_i32 (Int32.ofInt 2); omega) (by have := pj_i32 z6; have := pj_i32 (Int32.ofInt 2); omega)
      refine pj_X_of (fun r h => pj_T_il iG5 rfl rfl (by omega) (by omega) h) ?_
      show pj_X _ _ G5 60 [(0, .ref 171), (1, .int b), (2, .int hr)] [.int (pj_ai G5 179 z7.toInt.toNat)] _
      obtain ⟨z8, hz8⟩ : ∃ z : Int32, z = pj_ai G5 179 z7.toInt.toNat := ⟨_, rfl⟩
      refine pj_X_eqi hz8.symm ?_
      rw [← hz8, pj_nm_e]
      have ez8 : (pj_ai G5 179 z7.toInt.toNat).toInt = z8.toInt := by rw [hz8]
      refine pj_X_of (fun r h => pj_R_to (G5, 62, [(3, .int z8), (0, .ref 171), (1, .int b), (2, .int hr)], [.ref 171], 0, 0) 62 3 (fun _ => rfl) h) ?_
      refine pj_X_of (fun r h => pj_T_gr iG5 rfl rfl rfl h) ?_
      refine pj_X_of (fun r h => pj_R_to (G5, 68, [(3, .int z8), (0, .ref 171), (1, .int b), (2, .int hr)], [.int ((Int32.ofInt 4) * b), .ref 179], 0, 0) 68 4 (fun _ => rfl) h) ?_
      refine pj_X_eqi hz6.symm ?_
      refine pj_X_of (fun r h => pj_R_to (G5, 70, [(3, .int z8), (0, .ref 171), (1, .int b), (2, .int hr)], [.int (z6 + (Int32.ofInt 2)), .ref 179], 0, 0) 70 3 (fun _ => rfl) h) ?_
      refine pj_X_eqi hz7.symm ?_
      refine pj_X_of (fun r h => pj_R_to (G5, 71, [(3, .int z8), (0, .ref 171), (1, .int b), (2, .int hr)], [.int hr, .int z7, .ref 179], 0, 0) 71 2 (fun _ => rfl) h) ?_
      refine pj_X_of (fun r h => pj_T_is iG5 rfl rfl (by omega) (by omega) h) ?_
      show pj_X _ _ (pj_wa G5 179 z7.toInt.toNat hr) 72 [(3, .int z8), (0, .ref 171), (1, .int b), (2, .int hr)] [] _
      obtain ⟨G9, hG9⟩ : ∃ H, H = pj_wa G5 179 z7.toInt.toNat hr := ⟨_, rfl⟩
      have iG9 : pj_Inv G9 := by rw [hG9]; exact pj_Inv_wa iG5 rfl (fun q hq => by cases hq) (fun n hn => ⟨fun h1 => ⟨fun h2 => by omega, fun h2 => by omega⟩, fun h1 => by omega⟩)
      have kG9 : pj_kpt kc_221x G0 G9 := by rw [hG9]; exact pj_kpt_a kG5 rfl
      rw [← hG9]
      rw [pj_nm_e]
      refine pj_X_of (fun r h => pj_R_to (G9, 73, [(3, .int z8), (0, .ref 171), (1, .int b), (2, .int hr)], [.int z8], 0, 0) 73 2 (fun _ => rfl) h) ?_
      exact pj_X_rt rfl rfl ⟨_, rfl, iG9, kG9, pj_i32 _, rfl⟩
    | false =>
      rw [pj_cF]
      have ub4 := pj_u_eqF b4
      refine pj_X_of (fun r h => pj_R_icF rfl b4 h) ?_
      refine pj_X_of (fun r h => pj_R_to (G1, 24, [(0, .ref 171), (1, .int b), (2, .int hr)], [.ref 171, .long hr.toInt64], 0, 0) 24 4 (fun _ => rfl) h) ?_
      refine pj_X_of (fun r h => pj_T_gr iG1 rfl rfl rfl h) ?_
      refine pj_X_of (fun r h => pj_R_to (G1, 29, [(0, .ref 171), (1, .int b), (2, .int hr)], [.int ((Int8.ofInt 30).toInt32), .ref 179, .long hr.toInt64], 0, 0) 29 2 (fun _ => rfl) h) ?_
      refine pj_X_of (fun r h => pj_T_il iG1 rfl rfl (by omega) (by omega) h) ?_
      show pj_X _ _ G1 30 [(0, .ref 171), (1, .int b), (2, .int hr)] [.int (pj_ai G1 179 ((Int8.ofInt 30).toInt32).toInt.toNat), .long hr.toInt64] _
      obtain ⟨z10, hz10⟩ : ∃ z : Int32, z = pj_ai G1 179 ((Int8.ofInt 30).toInt32).toInt.toNat := ⟨_, rfl⟩
      refine pj_X_eqi hz10.symm ?_
      rw [← hz10, pj_nm_e]
      have ez10 : (pj_ai G1 179 ((Int8.ofInt 30).toInt32).toInt.toNat).toInt = z10.toInt := by rw [hz10]
      refine pj_X_of (fun r h => pj_R_to (G1, 32, [(0, .ref 171), (1, .int b), (2, .int hr)], [.int (z10 + (Int32.ofInt 1)), .long hr.toInt64], 0, 0) 32 3 (fun _ => rfl) h) ?_
      obtain ⟨z11, hz11⟩ : ∃ z : Int32, z = z10 + (Int32.ofInt 1) := ⟨_, rfl⟩
      refine pj_X_eqi hz11.symm ?_
      rw [← hz11, pj_nm_e]
      refine pj_X_of (fun r h => pj_R_to (G1, 36, [(0, .ref 171), (1, .int b), (2, .int hr)], [.long (Int64.ofInt 999999), .long z11.toInt64, .long hr.toInt64], 0, 0) 36 3 (fun _ => rfl) h) ?_
      have lc12 : (hr.toInt64).toInt = hr.toInt := Int32.toInt_toInt64 _
      have lc13 : (z11.toInt64).toInt = z11.toInt := Int32.toInt_toInt64 _
      have lc14 : (Int64.ofInt 999999).toInt = 999999 := by decide
      refine pj_X_ca (vs := [.long hr.toInt64, .long z11.toInt64, .long (Int64.ofInt 999999)]) rfl (fun _ => rfl) ⟨Nat.le_of_ble_eq_true rfl, Nat.le_of_ble_eq_true rfl, rfl⟩ ⟨rfl, rfl⟩ (pj_Y_up (by decide) (ct_170x G1 iG1 hr.toInt64 z11.toInt64 (Int64.ofInt 999999))) ?_
      rintro _ _ ⟨y15, rfl, rfl, ry15, ey15, fy15⟩
      rw [← fy15, pj_nm_e]
      show pj_X _ _ G1 39 [(0, .ref 171), (1, .int b), (2, .int hr)] [.int y15] _
      cases b16 : pj_c1 .ne y15 0 with
      | true =>
        rw [pj_cT]
        have ub16 := pj_u0_neT b16
        refine pj_X_of (fun r h => pj_R_ifT 45 rfl rfl b16 h) ?_
        refine pj_X_of (fun r h => pj_R_to (G1, 47, [(0, .ref 171), (1, .int b), (2, .int hr)], [.int (Int32.ofInt 1), .ref 171], 0, 0) 47 3 (fun _ => rfl) h) ?_
        refine pj_X_of (fun r h => pj_T_pf iG1 rfl rfl rfl h) ?_
        show pj_X _ _ (pj_wv G1 171 32 (.int (Int32.ofInt 1))) 50 [(0, .ref 171), (1, .int b), (2, .int hr)] [] _
        obtain ⟨G17, hG17⟩ : ∃ H, H = pj_wv G1 171 32 (.int (Int32.ofInt 1)) := ⟨_, rfl⟩
        have iG17 : pj_Inv G17 := by rw [hG17]; exact pj_Inv_wi iG1 (ci := 12) rfl (fun q hq => by cases hq; exact ⟨by show (0 : Int) ≤ _; omega, by show _ ≤ (1 : Int); omega⟩)
        have kG17 : pj_kpt kc_221x G0 G17 := by rw [hG17]; exact pj_kpt_v kG1 rfl
        rw [← hG17]
        rw [pj_nm_e]
        refine pj_X_of (fun r h => pj_R_to (G17, 51, [(0, .ref 171), (1, .int b), (2, .int hr)], [.ref 171], 0, 0) 51 2 (fun _ => rfl) h) ?_
        refine pj_X_of (fun r h => pj_T_gr iG17 rfl rfl rfl h) ?_
        refine pj_X_of (fun r h => pj_R_to (G17, 57, [(0, .ref 171), (1, .int b), (2, .int hr)], [.int ((Int32.ofInt 4) * b), .ref 179], 0, 0) 57 4 (fun _ => rfl) h) ?_
        obtain ⟨z18, hz18⟩ : ∃ z : Int32, z = (Int32.ofInt 4) * b := ⟨_, rfl⟩
        refine pj_X_eqi hz18.symm ?_
        rw [← hz18, pj_nm_e]
        have fz18_0 : z18.toInt = 4 * b.toInt := by rw [hz18]; exact pj_mulL (by decide) (by omega) (by omega)
        refine pj_X_of (fun r h => pj_R_to (G17, 59, [(0, .ref 171), (1, .int b), (2, .int hr)], [.int (z18 + (Int32.ofInt 2)), .ref 179], 0, 0) 59 3 (fun _ => rfl) h) ?_
        obtain ⟨z19, hz19⟩ : ∃ z : Int32, z = z18 + (Int32.ofInt 2) := ⟨_, rfl⟩
        refine pj_X_eqi hz19.symm ?_
        rw [← hz19, pj_nm_e]
        have fz19_0 : z19.toInt = z18.toInt + (Int32.ofInt 2).toInt := by rw [hz19]; exact pj_addI (by have := pj_i32 z18; have := pj_i32 (Int32.ofInt 2); omega) (by have := pj_i32 z18; have := pj_i32 (Int32.ofInt 2); omega)
        refine pj_X_of (fun r h => pj_T_il iG17 rfl rfl (by omega) (by omega) h) ?_
        show pj_X _ _ G17 60 [(0, .ref 171), (1, .int b), (2, .int hr)] [.int (pj_ai G17 179 z19.toInt.toNat)] _
        obtain ⟨z20, hz20⟩ : ∃ z : Int32, z = pj_ai G17 179 z19.toInt.toNat := ⟨_, rfl⟩
        refine pj_X_eqi hz20.symm ?_
        rw [← hz20, pj_nm_e]
        have ez20 : (pj_ai G17 179 z19.toInt.toNat).toInt = z20.toInt := by rw [hz20]
        refine pj_X_of (fun r h => pj_R_to (G17, 62, [(3, .int z20), (0, .ref 171), (1, .int b), (2, .int hr)], [.ref 171], 0, 0) 62 3 (fun _ => rfl) h) ?_
        refine pj_X_of (fun r h => pj_T_gr iG17 rfl rfl rfl h) ?_
        refine pj_X_of (fun r h => pj_R_to (G17, 68, [(3, .int z20), (0, .ref 171), (1, .int b), (2, .int hr)], [.int ((Int32.ofInt 4) * b), .ref 179], 0, 0) 68 4 (fun _ => rfl) h) ?_
        refine pj_X_eqi hz18.symm ?_
        refine pj_X_of (fun r h => pj_R_to (G17, 70, [(3, .int z20), (0, .ref 171), (1, .int b), (2, .int hr)], [.int (z18 + (Int32.ofInt 2)), .ref 179], 0, 0) 70 3 (fun _ => rfl) h) ?_
        refine pj_X_eqi hz19.symm ?_
        refine pj_X_of (fun r h => pj_R_to (G17, 71, [(3, .int z20), (0, .ref 171), (1, .int b), (2, .int hr)], [.int hr, .int z19, .ref 179], 0, 0) 71 2 (fun _ => rfl) h) ?_
        refine pj_X_of (fun r h => pj_T_is iG17 rfl rfl (by omega) (by omega) h) ?_
        show pj_X _ _ (pj_wa G17 179 z19.toInt.toNat hr) 72 [(3, .int z20), (0, .ref 171), (1, .int b), (2, .int hr)] [] _
        obtain ⟨G21, hG21⟩ : ∃ H, H = pj_wa G17 179 z19.toInt.toNat hr := ⟨_, rfl⟩
        have iG21 : pj_Inv G21 := by rw [hG21]; exact pj_Inv_wa iG17 rfl (fun q hq => by cases hq) (fun n hn => ⟨fun h1 => ⟨fun h2 => by omega, fun h2 => by omega⟩, fun h1 => by omega⟩)
        have kG21 : pj_kpt kc_221x G0 G21 := by rw [hG21]; exact pj_kpt_a kG17 rfl
        rw [← hG21]
        rw [pj_nm_e]
        refine pj_X_of (fun r h => pj_R_to (G21, 73, [(3, .int z20), (0, .ref 171), (1, .int b), (2, .int hr)], [.int z20], 0, 0) 73 2 (fun _ => rfl) h) ?_
        exact pj_X_rt rfl rfl ⟨_, rfl, iG21, kG21, pj_i32 _, rfl⟩
      | false =>
        rw [pj_cF]
        have ub16 := pj_u0_neF b16
        refine pj_X_of (fun r h => pj_R_ifF rfl b16 h) ?_
        refine pj_X_of (fun r h => pj_R_to (G1, 44, [(0, .ref 171), (1, .int b), (2, .int hr)], [.int ((Int8.ofInt (-2)).toInt32)], 0, 0) 44 2 (fun _ => rfl) h) ?_
        exact pj_X_rt rfl rfl ⟨_, rfl, iG1, kG1, pj_i32 _, rfl⟩
  | false =>
    rw [pj_cF]
    have ub3 := pj_u0_neF b3
    refine pj_X_of (fun r h => pj_R_ifF rfl b3 h) ?_
    refine pj_X_of (fun r h => pj_R_to (G1, 15, [(0, .ref 171), (1, .int b), (2, .int hr)], [.int ((Int8.ofInt (-3)).toInt32)], 0, 0) 15 2 (fun _ => rfl) h) ?_
    exact pj_X_rt rfl rfl ⟨_, rfl, iG1, kG1, pj_i32 _, rfl⟩
theorem fr_222x (G0 : pj_G) (hI : pj_Inv G0) (b : Int32) (hr : Int32) : pj_Inv (F_222x G0 b hr).2 ∧ pj_kpt kc_221x G0 (F_222x G0 b hr).2 := by
  obtain ⟨v, G', -, y, -, i, j, r, e⟩ := ct_221x G0 hI b hr
  rw [← e]
  exact ⟨i, j⟩
def kc_222x : pj_KT := ([], [179], [179])
noncomputable def F_223x (G0 : pj_G) (p : Int32) (c : Int32) : Int32 × pj_G := pj_nm (F_179x G0 p) (fun y3 => cond (pj_c1 .eq y3 0) ((Int32.ofInt (-1), G0)) (pj_nm (F_177x G0 c) (fun y7 => cond (pj_c1 .ne y7 0) (pj_nm (((Int8.ofInt 24).toInt32) + p) (fun z9 => pj_nm (pj_ai G0 179 z9.toInt.toNat) (fun z10 => pj_nm (pj_ai G0 173 c.toInt.toNat) (fun z11 => cond (pj_c1 .eq z10 z11) (pj_nm (pj_ai G0 178 p.toInt.toNat) (fun z13 => pj_nm (F_207x G0 (Int32.ofInt 0) z13) (fun y15 => pj_nm (F_172bx G0 y15 c) (fun y17 => cond (pj_c1 .ne y17 0) (pj_nm (F_206x G0 c (Int32.ofInt 1)) (fun y20 => pj_nm ((Int32.ofInt 4) * y20) (fun z21 => pj_nm (z21 + (Int32.ofInt 3)) (fun z22 => pj_nm (pj_ai G0 179 z22.toInt.toNat) (fun z23 => cond (pj_c1 .ne z23 z13) (pj_nm (F_173x G0 (Int32.ofInt 0)) (fun y26 => pj_nm (z23 - y26) (fun z27 => pj_nm (pj_wa G0 179 z22.toInt.toNat z27) (fun G28 => pj_nm (pj_ai G28 173 c.toInt.toNat) (fun z29 => pj_nm (pj_ai G28 174 c.toInt.toNat) (fun z30 => pj_nm (z29 + z30) (fun z31 => pj_nm (z31 - z10) (fun z32 => pj_nm (pj_wa G28 179 z9.toInt.toNat z32) (fun G33 => pj_nm (pj_ai G33 179 z9.toInt.toNat) (fun z34 => (z34, G33))))))))))) (pj_nm (F_173x G0 (Int32.ofInt 1)) (fun y38 => pj_nm (z23 - y38) (fun z39 => pj_nm (pj_wa G0 179 z22.toInt.toNat z39) (fun G40 => pj_nm (pj_ai G40 173 c.toInt.toNat) (fun z41 => pj_nm (pj_ai G40 174 c.toInt.toNat) (fun z42 => pj_nm (z41 + z42) (fun z43 => pj_nm (z43 - z10) (fun z44 => pj_nm (pj_wa G40 179 z9.toInt.toNat z44) (fun G45 => pj_nm (pj_ai G45 179 z9.toInt.toNat) (fun z46 => (z46, G45)))))))))))))))) (((Int8.ofInt (-3)).toInt32, G0)))))) (pj_nm (pj_ai G0 174 c.toInt.toNat) (fun z50 => cond (pj_c1 .eq z10 z50) (pj_nm (pj_ai G0 178 p.toInt.toNat) (fun z52 => pj_nm (F_207x G0 (Int32.ofInt 0) z52) (fun y54 => pj_nm (F_172bx G0 y54 c) (fun y56 => cond (pj_c1 .ne y56 0) (pj_nm (F_206x G0 c (Int32.ofInt 1)) (fun y59 => pj_nm ((Int32.ofInt 4) * y59) (fun z60 => pj_nm (z60 + (Int32.ofInt 3)) (fun z61 => pj_nm (pj_ai G0 179 z61.toInt.toNat) (fun z62 => cond (pj_c1 .ne z62 z52) (pj_nm (F_173x G0 (Int32.ofInt 0)) (fun y65 => pj_nm (z62 - y65) (fun z66 => pj_nm (pj_wa G0 179 z61.toInt.toNat z66) (fun G67 => pj_nm (pj_ai G67 173 c.toInt.toNat) (fun z68 => pj_nm (pj_ai G67 174 c.toInt.toNat) (fun z69 => pj_nm (z68 + z69) (fun z70 => pj_nm (z70 - z10) (fun z71 => pj_nm (pj_wa G67 179 z9.toInt.toNat z71) (fun G72 => pj_nm (pj_ai G72 179 z9.toInt.toNat) (fun z73 => (z73, G72))))))))))) (pj_nm (F_173x G0 (Int32.ofInt 1)) (fun y77 => pj_nm (z62 - y77) (fun z78 => pj_nm (pj_wa G0 179 z61.toInt.toNat z78) (fun G79 => pj_nm (pj_ai G79 173 c.toInt.toNat) (fun z80 => pj_nm (pj_ai G79 174 c.toInt.toNat) (fun z81 => pj_nm (z80 + z81) (fun z82 => pj_nm (z82 - z10) (fun z83 => pj_nm (pj_wa G79 179 z9.toInt.toNat z83) (fun G84 => pj_nm (pj_ai G84 179 z9.toInt.toNat) (fun z85 => (z85, G84)))))))))))))))) (((Int8.ofInt (-3)).toInt32, G0)))))) (((Int8.ofInt (-2)).toInt32, G0)))))))) ((Int32.ofInt (-1), G0)))))
theorem F_223x_e (G0 : pj_G) (p : Int32) (c : Int32) : F_223x G0 p c = pj_nm (F_179x G0 p) (fun y3 => cond (pj_c1 .eq y3 0) ((Int32.ofInt (-1), G0)) (pj_nm (F_177x G0 c) (fun y7 => cond (pj_c1 .ne y7 0) (pj_nm (((Int8.ofInt 24).toInt32) + p) (fun z9 => pj_nm (pj_ai G0 179 z9.toInt.toNat) (fun z10 => pj_nm (pj_ai G0 173 c.toInt.toNat) (fun z11 => cond (pj_c1 .eq z10 z11) (pj_nm (pj_ai G0 178 p.toInt.toNat) (fun z13 => pj_nm (F_207x G0 (Int32.ofInt 0) z13) (fun y15 => pj_nm (F_172bx G0 y15 c) (fun y17 => cond (pj_c1 .ne y17 0) (pj_nm (F_206x G0 c (Int32.ofInt 1)) (fun y20 => pj_nm ((Int32.ofInt 4) * y20) (fun z21 => pj_nm (z21 + (Int32.ofInt 3)) (fun z22 => pj_nm (pj_ai G0 179 z22.toInt.toNat) (fun z23 => cond (pj_c1 .ne z23 z13) (pj_nm (F_173x G0 (Int32.ofInt 0)) (fun y26 => pj_nm (z23 - y26) (fun z27 => pj_nm (pj_wa G0 179 z22.toInt.toNat z27) (fun G28 => pj_nm (pj_ai G28 173 c.toInt.toNat) (fun z29 => pj_nm (pj_ai G28 174 c.toInt.toNat) (fun z30 => pj_nm (z29 + z30) (fun z31 => pj_nm (z31 - z10) (fun z32 => pj_nm (pj_wa G28 179 z9.toInt.toNat z32) (fun G33 => pj_nm (pj_ai G33 179 z9.toInt.toNat) (fun z34 => (z34, G33))))))))))) (pj_nm (F_173x G0 (Int32.ofInt 1)) (fun y38 => pj_nm (z23 - y38) (fun z39 => pj_nm (pj_wa G0 179 z22.toInt.toNat z39) (fun G40 => pj_nm (pj_ai G40 173 c.toInt.toNat) (fun z41 => pj_nm (pj_ai G40 174 c.toInt.toNat) (fun z42 => pj_nm (z41 + z42) (fun z43 => pj_nm (z43 - z10) (fun z44 => pj_nm (pj_wa G40 179 z9.toInt.toNat z44) (fun G45 => pj_nm (pj_ai G45 179 z9.toInt.toNat) (fun z46 => (z46, G45)))))))))))))))) (((Int8.ofInt (-3)).toInt32, G0)))))) (pj_nm (pj_ai G0 174 c.toInt.toNat) (fun z50 => cond (pj_c1 .eq z10 z50) (pj_nm (pj_ai G0 178 p.toInt.toNat) (fun z52 => pj_nm (F_207x G0 (Int32.ofInt 0) z52) (fun y54 => pj_nm (F_172bx G0 y54 c) (fun y56 => cond (pj_c1 .ne y56 0) (pj_nm (F_206x G0 c (Int32.ofInt 1)) (fun y59 => pj_nm ((Int32.ofInt 4) * y59) (fun z60 => pj_nm (z60 + (Int32.ofInt 3)) (fun z61 => pj_nm (pj_ai G0 179 z61.toInt.toNat) (fun z62 => cond (pj_c1 .ne z62 z52) (pj_nm (F_173x G0 (Int32.ofInt 0)) (fun y65 => pj_nm (z62 - y65) (fun z66 => pj_nm (pj_wa G0 179 z61.toInt.toNat z66) (fun G67 => pj_nm (pj_ai G67 173 c.toInt.toNat) (fun z68 => pj_nm (pj_ai G67 174 c.toInt.toNat) (fun z69 => pj_nm (z68 + z69) (fun z70 => pj_nm (z70 - z10) (fun z71 => pj_nm (pj_wa G67 179 z9.toInt.toNat z71) (fun G72 => pj_nm (pj_ai G72 179 z9.toInt.toNat) (fun z73 => (z73, G72))))))))))) (pj_nm (F_173x G0 (Int32.ofInt 1)) (fun y77 => pj_nm (z62 - y77) (fun z78 => pj_nm (pj_wa G0 179 z61.toInt.toNat z78) (fun G79 => pj_nm (pj_ai G79 173 c.toInt.toNat) (fun z80 => pj_nm (pj_ai G79 174 c.toInt.toNat) (fun z81 => pj_nm (z80 + z81) (fun z82 => pj_nm (z82 - z10) (fun z83 => pj_nm (pj_wa G79 179 z9.toInt.toNat z83) (fun G84 => pj_nm (pj_ai G84 179 z9.toInt.toNat) (fun z85 => (z85, G84)))))))))))))))) (((Int8.ofInt (-3)).toInt32, G0)))))) (((Int8.ofInt (-2)).toInt32, G0)))))))) ((Int32.ofInt (-1), G0))))) := rfl
theorem ct_222x (G0 : pj_G) (hI : pj_Inv G0) (p : Int32) (c : Int32) : pj_Y 3 222 [.ref 171, .int p, .int c] G0 (fun v' G' => ∃ y : Int32, v' = some (.int y) ∧ pj_Inv G' ∧ pj_kpt kc_222x G0 G' ∧ ((-2147483648 : Int) ≤ y.toInt ∧ y.toInt ≤ 2147483647) ∧ ((y, G') = F_223x G0 p c)) := by
  have c0_ : ((Int8.ofInt (-2)).toInt32).toInt = -2 := by decide
  have c1_ : ((Int8.ofInt (-3)).toInt32).toInt = -3 := by decide
  have c2_ : ((Int8.ofInt 24).toInt32).toInt = 24 := by decide
  have c3_ : (Int32.ofInt (-1)).toInt = -1 := by decide
  have c4_ : (Int32.ofInt 0).toInt = 0 := by decide
  have c5_ : (Int32.ofInt 1).toInt = 1 := by decide
  have c6_ : (Int32.ofInt 3).toInt = 3 := by decide
  have c7_ : (Int32.ofInt 4).toInt = 4 := by decide
  refine pj_Y_X (M := pj_m222) rfl rfl (Nat.le_of_ble_eq_true rfl) ?_
  have hK : pj_kpt kc_222x G0 G0 := pj_kpt_r _ _
  show pj_X _ _ G0 0 [(0, .ref 171), (1, .int p), (2, .int c)] [] _
  rw [F_223x_e]
  obtain ⟨y1, hy1⟩ : ∃ z : Int32, z = pj_fi G0 171 5 := ⟨_, rfl⟩
  have ey1 : (pj_fi G0 171 5).toInt = y1.toInt := by rw [hy1]
  have ry1 : (0 : Int) ≤ y1.toInt ∧ y1.toInt ≤ 6 := by rw [hy1]; exact hI.2.1 171 5 (0, 6) rfl
  refine pj_X_of (fun r h => pj_R_to (G0, 2, [(0, .ref 171), (1, .int p), (2, .int c)], [.int p, .ref 171], 0, 0) 2 3 (fun _ => rfl) h) ?_
  have q2 : (pj_fi G0 171 5).toInt = y1.toInt := by rw [show pj_fi G0 171 5 = y1 from hy1.symm]
  refine pj_X_ca (vs := [.ref 171, .int p]) rfl (fun _ => rfl) ⟨Nat.le_of_ble_eq_true rfl, Nat.le_of_ble_eq_true rfl, pj_T_rcv hI rfl⟩ ⟨rfl, rfl⟩ (pj_Y_up (by decide) (ct_178x G0 hI p)) ?_
  rintro _ _ ⟨y3, rfl, rfl, ry3, ey3, fy3⟩
  replace ey3 := ey3 _ rfl
  rw [← fy3, pj_nm_e]
  show pj_X _ _ G0 5 [(0, .ref 171), (1, .int p), (2, .int c)] [.int y3] _
  cases b4 : pj_c1 .eq y3 0 with
  | true =>
    rw [pj_cT]
    have ub4 := pj_u0_eqT b4
    refine pj_X_of (fun r h => pj_R_ifT 16 rfl rfl b4 h) ?_
    refine pj_X_of (fun r h => pj_R_to (G0, 17, [(0, .ref 171), (1, .int p), (2, .int c)], [.int (Int32.ofInt (-1))], 0, 0) 17 2 (fun _ => rfl) h) ?_
    have q5 : (pj_fi G0 171 5).toInt = y1.toInt := by rw [show pj_fi G0 171 5 = y1 from hy1.symm]
    exact pj_X_rt rfl rfl ⟨_, rfl, hI, hK, pj_i32 _, rfl⟩
  | false =>
    rw [pj_cF]
    have ub4 := pj_u0_eqF b4
    refine pj_X_of (fun r h => pj_R_ifF rfl b4 h) ?_
    refine pj_X_of (fun r h => pj_R_to (G0, 10, [(0, .ref 171), (1, .int p), (2, .int c)], [.int c, .ref 171], 0, 0) 10 3 (fun _ => rfl) h) ?_
    have q6 : (pj_fi G0 171 5).toInt = y1.toInt := by rw [show pj_fi G0 171 5 = y1 from hy1.symm]
    refine pj_X_ca (vs := [.ref 171, .int c]) rfl (fun _ => rfl) ⟨Nat.le_of_ble_eq_true rfl, Nat.le_of_ble_eq_true rfl, pj_T_rcv hI rfl⟩ ⟨rfl, rfl⟩ (pj_Y_up (by decide) (ct_176x G0 hI c)) ?_
    rintro _ _ ⟨y7, rfl, rfl, ry7, ey7, fy7⟩
    replace ey7 := ey7 _ rfl
    rw [← fy7, pj_nm_e]
    show pj_X _ _ G0 13 [(0, .ref 171), (1, .int p), (2, .int c)] [.int y7] _
    cases b8 : pj_c1 .ne y7 0 with
    | true =>
      rw [pj_cT]
      have ub8 := pj_u0_neT b8
      refine pj_X_of (fun r h => pj_R_ifT 18 rfl rfl b8 h) ?_
      refine pj_X_of (fun r h => pj_R_to (G0, 19, [(0, .ref 171), (1, .int p), (2, .int c)], [.ref 171], 0, 0) 19 2 (fun _ => rfl) h) ?_
      refine pj_X_of (fun r h => pj_T_gr hI rfl rfl rfl h) ?_
      refine pj_X_of (fun r h => pj_R_to (G0, 26, [(0, .ref 171), (1, .int p), (2, .int c)], [.int (((Int8.ofInt 24).toInt32) + p), .ref 179], 0, 0) 26 4 (fun _ => rfl) h) ?_
      obtain ⟨z9, hz9⟩ : ∃ z : Int32, z = ((Int8.ofInt 24).toInt32) + p := ⟨_, rfl⟩
      refine pj_X_eqi hz9.symm ?_
      rw [← hz9, pj_nm_e]
      have fz9_0 : z9.toInt = ((Int8.ofInt 24).toInt32).toInt + p.toInt := by rw [hz9]; exact pj_addI (by have := pj_i32 ((Int8.ofInt 24).toInt32); have := pj_i32 p; omega) (by have := pj_i32 ((Int8.ofInt 24).toInt32); have := pj_i32 p; omega)
      refine pj_X_of (fun r h => pj_T_il hI rfl rfl (by omega) (by omega) h) ?_
      show pj_X _ _ G0 27 [(0, .ref 171), (1, .int p), (2, .int c)] [.int (pj_ai G0 179 z9.toInt.toNat)] _
      obtain ⟨z10, hz10⟩ : ∃ z : Int32, z = pj_ai G0 179 z9.toInt.toNat := ⟨_, rfl⟩
      refine pj_X_eqi hz10.symm ?_
      rw [← hz10, pj_nm_e]
      have ez10 : (pj_ai G0 179 z9.toInt.toNat).toInt = z10.toInt := by rw [hz10]
      have fz10_0 : 0 ≤ z10.toInt ∧ z10.toInt ≤ 7 := by rw [hz10]; exact (hI.2.2.2 179 32 rfl _ (by show _ < 32; omega)).2 ⟨by omega, by omega⟩
      refine pj_X_of (fun r h => pj_R_to (G0, 30, [(3, .int z10), (0, .ref 171), (1, .int p), (2, .int c)], [.ref 171, .int z10], 0, 0) 30 4 (fun _ => rfl) h) ?_
      refine pj_X_of (fun r h => pj_T_gr hI rfl rfl rfl h) ?_
      refine pj_X_of (fun r h => pj_R_to (G0, 34, [(3, .int z10), (0, .ref 171), (1, .int p), (2, .int c)], [.int c, .ref 173, .int z10], 0, 0) 34 2 (fun _ => rfl) h) ?_
      refine pj_X_of (fun r h => pj_T_il hI rfl rfl (by omega) (by omega) h) ?_
      show pj_X _ _ G0 35 [(3, .int z10), (0, .ref 171), (1, .int p), (2, .int c)] [.int (pj_ai G0 173 c.toInt.toNat), .int z10] _
      obtain ⟨z11, hz11⟩ : ∃ z : Int32, z = pj_ai G0 173 c.toInt.toNat := ⟨_, rfl⟩
      refine pj_X_eqi hz11.symm ?_
      rw [← hz11, pj_nm_e]
      have ez11 : (pj_ai G0 173 c.toInt.toNat).toInt = z11.toInt := by rw [hz11]
      have fz11_0 : (0 : Int) ≤ z11.toInt ∧ z11.toInt ≤ 7 ∧ (z11.toInt ≤ 0 ∨ 0 ≤ z11.toInt) := by rw [hz11]; exact hI.2.2.1 173 (10, 0, 7, 0, 0) rfl _ (by show _ < 10; omega)
      cases b12 : pj_c1 .eq z10 z11 with
      | true =>
        rw [pj_cT]
        have ub12 := pj_u_eqT b12
        refine pj_X_of (fun r h => pj_R_icT 51 rfl rfl b12 h) ?_
        refine pj_X_of (fun r h => pj_R_to (G0, 54, [(3, .int z10), (0, .ref 171), (1, .int p), (2, .int c)], [.ref 171, .int (Int32.ofInt 0), .ref 171], 0, 0) 54 4 (fun _ => rfl) h) ?_
        refine pj_X_of (fun r h => pj_T_gr hI rfl rfl rfl h) ?_
        refine pj_X_of (fun r h => pj_R_to (G0, 58, [(3, .int z10), (0, .ref 171), (1, .int p), (2, .int c)], [.int p, .ref 178, .int (Int32.ofInt 0), .ref 171], 0, 0) 58 2 (fun _ => rfl) h) ?_
        refine pj_X_of (fun r h => pj_T_il hI rfl rfl (by omega) (by omega) h) ?_
        show pj_X _ _ G0 59 [(3, .int z10), (0, .ref 171), (1, .int p), (2, .int c)] [.int (pj_ai G0 178 p.toInt.toNat), .int (Int32.ofInt 0), .ref 171] _
        obtain ⟨z13, hz13⟩ : ∃ z : Int32, z = pj_ai G0 178 p.toInt.toNat := ⟨_, rfl⟩
        refine pj_X_eqi hz13.symm ?_
        rw [← hz13, pj_nm_e]
        have ez13 : (pj_ai G0 178 p.toInt.toNat).toInt = z13.toInt := by rw [hz13]
        have q14 : (pj_fi G0 171 5).toInt = y1.toInt := by rw [show pj_fi G0 171 5 = y1 from hy1.symm]
        refine pj_X_ca (vs := [.ref 171, .int (Int32.ofInt 0), .int z13]) rfl (fun _ => rfl) ⟨Nat.le_of_ble_eq_true rfl, Nat.le_of_ble_eq_true rfl, pj_T_rcv hI rfl⟩ ⟨rfl, rfl⟩ (pj_Y_up (by decide) (ct_206x G0 hI (Int32.ofInt 0) z13)) ?_
        rintro _ _ ⟨y15, rfl, rfl, ry15, ey15, fy15⟩
        replace ey15 := ey15 _ rfl
        rw [← fy15, pj_nm_e]
        show pj_X _ _ G0 62 [(3, .int z10), (0, .ref 171), (1, .int p), (2, .int c)] [.int y15] _
        refine pj_X_of (fun r h => pj_R_to (G0, 63, [(3, .int z10), (0, .ref 171), (1, .int p), (2, .int c)], [.int c, .int y15], 0, 0) 63 2 (fun _ => rfl) h) ?_
        have q16 : (pj_fi G0 171 5).toInt = y1.toInt := by rw [show pj_fi G0 171 5 = y1 from hy1.symm]
        refine pj_X_ca (vs := [.int y15, .int c]) rfl (fun _ => rfl) ⟨Nat.le_of_ble_eq_true rfl, Nat.le_of_ble_eq_true rfl, rfl⟩ ⟨rfl, rfl⟩ (pj_Y_up (by decide) (ct_171bx G0 hI y15 c)) ?_
        rintro _ _ ⟨y17, rfl, rfl, ry17, ey17, fy17⟩
        rw [← fy17, pj_nm_e]
        show pj_X _ _ G0 66 [(3, .int z10), (0, .ref 171), (1, .int p), (2, .int c)] [.int y17] _
        cases b18 : pj_c1 .ne y17 0 with
        | true =>
          rw [pj_cT]
          have ub18 := pj_u0_neT b18
          refine pj_X_of (fun r h => pj_R_ifT 72 rfl rfl b18 h) ?_
          refine pj_X_of (fun r h => pj_R_to (G0, 75, [(3, .int z10), (0, .ref 171), (1, .int p), (2, .int c)], [.int (Int32.ofInt 1), .int c, .ref 171], 0, 0) 75 4 (fun _ => rfl) h) ?_
          have q19 : (pj_fi G0 171 5).toInt = y1.toInt := by rw [show pj_fi G0 171 5 = y1 from hy1.symm]
          refine pj_X_ca (vs := [.ref 171, .int c, .int (Int32.ofInt 1)]) rfl (fun _ => rfl) ⟨Nat.le_of_ble_eq_true rfl, Nat.le_of_ble_eq_true rfl, pj_T_rcv hI rfl⟩ ⟨rfl, rfl⟩ (pj_Y_up (by decide) (ct_205x G0 hI c (Int32.ofInt 1) ⟨by omega, by omega⟩)) ?_
          rintro _ _ ⟨y20, rfl, rfl, ry20, ey20, fy20⟩
          replace ey20 := ey20 _ rfl
          rw [← fy20, pj_nm_e]
          show pj_X _ _ G0 78 [(3, .int z10), (0, .ref 171), (1, .int p), (2, .int c)] [.int y20] _
          have hob : 0 ≤ y20.toInt := pj_ob hI ey15 (by rw [show (pj_fi G0 171 5).toInt = (pj_fi G0 171 5).toInt from rfl]; omega) (by omega) (ey17 (by omega)) (by omega) (by omega) ey20 (by omega)
          refine pj_X_of (fun r h => pj_R_to (G0, 81, [(4, .int y20), (3, .int z10), (0, .ref 171), (1, .int p), (2, .int c)], [.ref 171], 0, 0) 81 3 (fun _ => rfl) h) ?_
          refine pj_X_of (fun r h => pj_T_gr hI rfl rfl rfl h) ?_
          refine pj_X_of (fun r h => pj_R_to (G0, 88, [(4, .int y20), (3, .int z10), (0, .ref 171), (1, .int p), (2, .int c)], [.int ((Int32.ofInt 4) * y20), .ref 179], 0, 0) 88 4 (fun _ => rfl) h) ?_
          obtain ⟨z21, hz21⟩ : ∃ z : Int32, z = (Int32.ofInt 4) * y20 := ⟨_, rfl⟩
          refine pj_X_eqi hz21.symm ?_
          rw [← hz21, pj_nm_e]
          have fz21_0 : z21.toInt = 4 * y20.toInt := by rw [hz21]; exact pj_mulL (by decide) (by omega) (by omega)
          refine pj_X_of (fun r h => pj_R_to (G0, 90, [(4, .int y20), (3, .int z10), (0, .ref 171), (1, .int p), (2, .int c)], [.int (z21 + (Int32.ofInt 3)), .ref 179], 0, 0) 90 3 (fun _ => rfl) h) ?_
          obtain ⟨z22, hz22⟩ : ∃ z : Int32, z = z21 + (Int32.ofInt 3) := ⟨_, rfl⟩
          refine pj_X_eqi hz22.symm ?_
          rw [← hz22, pj_nm_e]
          have fz22_0 : z22.toInt = z21.toInt + (Int32.ofInt 3).toInt := by rw [hz22]; exact pj_addI (by have := pj_i32 z21; have := pj_i32 (Int32.ofInt 3); omega) (by have := pj_i32 z21; have := pj_i32 (Int32.ofInt 3); omega)
          refine pj_X_of (fun r h => pj_R_to (G0, 91, [(4, .int y20), (3, .int z10), (0, .ref 171), (1, .int p), (2, .int c)], [.int z22, .ref 179, .int z22, .ref 179], 0, 0) 91 2 (fun _ => rfl) h) ?_
          refine pj_X_of (fun r h => pj_T_il hI rfl rfl (by omega) (by omega) h) ?_
          show pj_X _ _ G0 92 [(4, .int y20), (3, .int z10), (0, .ref 171), (1, .int p), (2, .int c)] [.int (pj_ai G0 179 z22.toInt.toNat), .int z22, .ref 179] _
          obtain ⟨z23, hz23⟩ : ∃ z : Int32, z = pj_ai G0 179 z22.toInt.toNat := ⟨_, rfl⟩
          refine pj_X_eqi hz23.symm ?_
          rw [← hz23, pj_nm_e]
          have ez23 : (pj_ai G0 179 z22.toInt.toNat).toInt = z23.toInt := by rw [hz23]
          refine pj_X_of (fun r h => pj_R_to (G0, 93, [(4, .int y20), (3, .int z10), (0, .ref 171), (1, .int p), (2, .int c)], [.ref 171, .int z23, .int z22, .ref 179], 0, 0) 93 2 (fun _ => rfl) h) ?_
          refine pj_X_of (fun r h => pj_T_gr hI rfl rfl rfl h) ?_
          refine pj_X_of (fun r h => pj_R_to (G0, 100, [(4, .int y20), (3, .int z10), (0, .ref 171), (1, .int p), (2, .int c)], [.int ((Int32.ofInt 4) * y20), .ref 179, .int z23, .int z22, .ref 179], 0, 0) 100 4 (fun _ => rfl) h) ?_
          refine pj_X_eqi hz21.symm ?_
          refine pj_X_of (fun r h => pj_R_to (G0, 102, [(4, .int y20), (3, .int z10), (0, .ref 171), (1, .int p), (2, .int c)], [.int (z21 + (Int32.ofInt 3)), .ref 179, .int z23, .int z22, .ref 179], 0, 0) 102 3 (fun _ => rfl) h) ?_
          refine pj_X_eqi hz22.symm ?_
          refine pj_X_of (fun r h => pj_T_il hI rfl rfl (by omega) (by omega) h) ?_
          show pj_X _ _ G0 103 [(4, .int y20), (3, .int z10), (0, .ref 171), (1, .int p), (2, .int c)] [.int (pj_ai G0 179 z22.toInt.toNat), .int z23, .int z22, .ref 179] _
          refine pj_X_eqi hz23.symm ?_
          refine pj_X_of (fun r h => pj_R_to (G0, 104, [(4, .int y20), (3, .int z10), (0, .ref 171), (1, .int p), (2, .int c)], [.ref 171, .int z23, .int z23, .int z22, .ref 179], 0, 0) 104 2 (fun _ => rfl) h) ?_
          refine pj_X_of (fun r h => pj_T_gr hI rfl rfl rfl h) ?_
          refine pj_X_of (fun r h => pj_R_to (G0, 108, [(4, .int y20), (3, .int z10), (0, .ref 171), (1, .int p), (2, .int c)], [.int p, .ref 178, .int z23, .int z23, .int z22, .ref 179], 0, 0) 108 2 (fun _ => rfl) h) ?_
          refine pj_X_of (fun r h => pj_T_il hI rfl rfl (by omega) (by omega) h) ?_
          show pj_X _ _ G0 109 [(4, .int y20), (3, .int z10), (0, .ref 171), (1, .int p), (2, .int c)] [.int (pj_ai G0 178 p.toInt.toNat), .int z23, .int z23, .int z22, .ref 179] _
          refine pj_X_eqi hz13.symm ?_
          cases b24 : pj_c1 .ne z23 z13 with
          | true =>
            rw [pj_cT]
            have ub24 := pj_u_neT b24
            refine pj_X_of (fun r h => pj_R_icT 116 rfl rfl b24 h) ?_
            refine pj_X_of (fun r h => pj_R_to (G0, 117, [(4, .int y20), (3, .int z10), (0, .ref 171), (1, .int p), (2, .int c)], [.int (Int32.ofInt 0), .int z23, .int z22, .ref 179], 0, 0) 117 2 (fun _ => rfl) h) ?_
            have q25 : (pj_fi G0 171 5).toInt = y1.toInt := by rw [show pj_fi G0 171 5 = y1 from hy1.symm]
            refine pj_X_ca (vs := [.int (Int32.ofInt 0)]) rfl (fun _ => rfl) ⟨Nat.le_of_ble_eq_true rfl, Nat.le_of_ble_eq_true rfl, rfl⟩ ⟨rfl, rfl⟩ (pj_Y_up (by decide) (ct_172x G0 hI (Int32.ofInt 0) ⟨by omega, by omega⟩)) ?_
            rintro _ _ ⟨y26, rfl, rfl, ry26, ey26, fy26⟩
            rw [← fy26, pj_nm_e]
            show pj_X _ _ G0 120 [(4, .int y20), (3, .int z10), (0, .ref 171), (1, .int p), (2, .int c)] [.int y26, .int z23, .int z22, .ref 179] _
            refine pj_X_of (fun r h => pj_R_to (G0, 121, [(4, .int y20), (3, .int z10), (0, .ref 171), (1, .int p), (2, .int c)], [.int (z23 - y26), .int z22, .ref 179], 0, 0) 121 2 (fun _ => rfl) h) ?_
            obtain ⟨z27, hz27⟩ : ∃ z : Int32, z = z23 - y26 := ⟨_, rfl⟩
            refine pj_X_eqi hz27.symm ?_
            rw [← hz27, pj_nm_e]
            refine pj_X_of (fun r h => pj_T_is hI rfl rfl (by omega) (by omega) h) ?_
            show pj_X _ _ (pj_wa G0 179 z22.toInt.toNat z27) 122 [(4, .int y20), (3, .int z10), (0, .ref 171), (1, .int p), (2, .int c)] [] _
            obtain ⟨G28, hG28⟩ : ∃ H, H = pj_wa G0 179 z22.toInt.toNat z27 := ⟨_, rfl⟩
            have iG28 : pj_Inv G28 := by rw [hG28]; exact pj_Inv_wa hI rfl (fun q hq => by cases hq) (fun n hn => ⟨fun h1 => ⟨fun h2 => by omega, fun h2 => by omega⟩, fun h1 => by omega⟩)
            have kG28 : pj_kpt kc_222x G0 G28 := by rw [hG28]; exact pj_kpt_a hK rfl
            rw [← hG28]
            rw [pj_nm_e]
            refine pj_X_of (fun r h => pj_R_to (G28, 123, [(4, .int y20), (3, .int z10), (0, .ref 171), (1, .int p), (2, .int c)], [.ref 171], 0, 0) 123 2 (fun _ => rfl) h) ?_
            refine pj_X_of (fun r h => pj_T_gr iG28 rfl rfl rfl h) ?_
            refine pj_X_of (fun r h => pj_R_to (G28, 130, [(4, .int y20), (3, .int z10), (0, .ref 171), (1, .int p), (2, .int c)], [.int (((Int8.ofInt 24).toInt32) + p), .ref 179], 0, 0) 130 4 (fun _ => rfl) h) ?_
            refine pj_X_eqi hz9.symm ?_
            refine pj_X_of (fun r h => pj_R_to (G28, 131, [(4, .int y20), (3, .int z10), (0, .ref 171), (1, .int p), (2, .int c)], [.ref 171, .int z9, .ref 179], 0, 0) 131 2 (fun _ => rfl) h) ?_
            refine pj_X_of (fun r h => pj_T_gr iG28 rfl rfl rfl h) ?_
            refine pj_X_of (fun r h => pj_R_to (G28, 135, [(4, .int y20), (3, .int z10), (0, .ref 171), (1, .int p), (2, .int c)], [.int c, .ref 173, .int z9, .ref 179], 0, 0) 135 2 (fun _ => rfl) h) ?_
            refine pj_X_of (fun r h => pj_T_il iG28 rfl rfl (by omega) (by omega) h) ?_
            show pj_X _ _ G28 136 [(4, .int y20), (3, .int z10), (0, .ref 171), (1, .int p), (2, .int c)] [.int (pj_ai G28 173 c.toInt.toNat), .int z9, .ref 179] _
            obtain ⟨z29, hz29⟩ : ∃ z : Int32, z = pj_ai G28 173 c.toInt.toNat := ⟨_, rfl⟩
            refine pj_X_eqi hz29.symm ?_
            rw [← hz29, pj_nm_e]
            have ez29 : (pj_ai G28 173 c.toInt.toNat).toInt = z29.toInt := by rw [hz29]
            have fz29_0 : (0 : Int) ≤ z29.toInt ∧ z29.toInt ≤ 7 ∧ (z29.toInt ≤ 0 ∨ 0 ≤ z29.toInt) := by rw [hz29]; exact iG28.2.2.1 173 (10, 0, 7, 0, 0) rfl _ (by show _ < 10; omega)
            have xz29_z11 : z29.toInt = z11.toInt := by rw [hz29, hG28, pj_ai_wa_ne _ _ _ _ _ _ (by decide), show c.toInt.toNat = c.toInt.toNat by omega, hz11]
            refine pj_X_of (fun r h => pj_R_to (G28, 137, [(4, .int y20), (3, .int z10), (0, .ref 171), (1, .int p), (2, .int c)], [.ref 171, .int z29, .int z9, .ref 179], 0, 0) 137 2 (fun _ => rfl) h) ?_
            refine pj_X_of (fun r h => pj_T_gr iG28 rfl rfl rfl h) ?_
            refine pj_X_of (fun r h => pj_R_to (G28, 141, [(4, .int y20), (3, .int z10), (0, .ref 171), (1, .int p), (2, .int c)], [.int c, .ref 174, .int z29, .int z9, .ref 179], 0, 0) 141 2 (fun _ => rfl) h) ?_
            refine pj_X_of (fun r h => pj_T_il iG28 rfl rfl (by omega) (by omega) h) ?_
            show pj_X _ _ G28 142 [(4, .int y20), (3, .int z10), (0, .ref 171), (1, .int p), (2, .int c)] [.int (pj_ai G28 174 c.toInt.toNat), .int z29, .int z9, .ref 179] _
            obtain ⟨z30, hz30⟩ : ∃ z : Int32, z = pj_ai G28 174 c.toInt.toNat := ⟨_, rfl⟩
            refine pj_X_eqi hz30.symm ?_
            rw [← hz30, pj_nm_e]
            have ez30 : (pj_ai G28 174 c.toInt.toNat).toInt = z30.toInt := by rw [hz30]
            have fz30_0 : (0 : Int) ≤ z30.toInt ∧ z30.toInt ≤ 7 ∧ (z30.toInt ≤ 0 ∨ 0 ≤ z30.toInt) := by rw [hz30]; exact iG28.2.2.1 174 (10, 0, 7, 0, 0) rfl _ (by show _ < 10; omega)
            refine pj_X_of (fun r h => pj_R_to (G28, 143, [(4, .int y20), (3, .int z10), (0, .ref 171), (1, .int p), (2, .int c)], [.int (z29 + z30), .int z9, .ref 179], 0, 0) 143 2 (fun _ => rfl) h) ?_
            obtain ⟨z31, hz31⟩ : ∃ z : Int32, z = z29 + z30 := ⟨_, rfl⟩
            refine pj_X_eqi hz31.symm ?_
            rw [← hz31, pj_nm_e]
            have fz31_0 : z31.toInt = z29.toInt + z30.toInt := by rw [hz31]; exact pj_addI (by have := pj_i32 z29; have := pj_i32 z30; omega) (by have := pj_i32 z29; have := pj_i32 z30; omega)
            refine pj_X_of (fun r h => pj_R_to (G28, 145, [(4, .int y20), (3, .int z10), (0, .ref 171), (1, .int p), (2, .int c)], [.int (z31 - z10), .int z9, .ref 179], 0, 0) 145 3 (fun _ => rfl) h) ?_
            obtain ⟨z32, hz32⟩ : ∃ z : Int32, z = z31 - z10 := ⟨_, rfl⟩
            refine pj_X_eqi hz32.symm ?_
            rw [← hz32, pj_nm_e]
            have fz32_0 : z32.toInt = z31.toInt - z10.toInt := by rw [hz32]; exact pj_subI (by have := pj_i32 z31; have := pj_i32 z10; omega) (by have := pj_i32 z31; have := pj_i32 z10; omega)
            refine pj_X_of (fun r h => pj_T_is iG28 rfl rfl (by omega) (by omega) h) ?_
            show pj_X _ _ (pj_wa G28 179 z9.toInt.toNat z32) 146 [(4, .int y20), (3, .int z10), (0, .ref 171), (1, .int p), (2, .int c)] [] _
            obtain ⟨G33, hG33⟩ : ∃ H, H = pj_wa G28 179 z9.toInt.toNat z32 := ⟨_, rfl⟩
            have iG33 : pj_Inv G33 := by rw [hG33]; exact pj_Inv_wa iG28 rfl (fun q hq => by cases hq) (fun n hn => ⟨fun h1 => ⟨fun h2 => by omega, fun h2 => by omega⟩, fun h1 => by omega⟩)
            have kG33 : pj_kpt kc_222x G0 G33 := by rw [hG33]; exact pj_kpt_a kG28 rfl
            rw [← hG33]
            rw [pj_nm_e]
            refine pj_X_of (fun r h => pj_R_to (G33, 147, [(4, .int y20), (3, .int z10), (0, .ref 171), (1, .int p), (2, .int c)], [.ref 171], 0, 0) 147 2 (fun _ => rfl) h) ?_
            refine pj_X_of (fun r h => pj_T_gr iG33 rfl rfl rfl h) ?_
            refine pj_X_of (fun r h => pj_R_to (G33, 154, [(4, .int y20), (3, .int z10), (0, .ref 171), (1, .int p), (2, .int c)], [.int (((Int8.ofInt 24).toInt32) + p), .ref 179], 0, 0) 154 4 (fun _ => rfl) h) ?_
            refine pj_X_eqi hz9.symm ?_
            refine pj_X_of (fun r h => pj_T_il iG33 rfl rfl (by omega) (by omega) h) ?_
            show pj_X _ _ G33 155 [(4, .int y20), (3, .int z10), (0, .ref 171), (1, .int p), (2, .int c)] [.int (pj_ai G33 179 z9.toInt.toNat)] _
            obtain ⟨z34, hz34⟩ : ∃ z : Int32, z = pj_ai G33 179 z9.toInt.toNat := ⟨_, rfl⟩
            refine pj_X_eqi hz34.symm ?_
            rw [← hz34, pj_nm_e]
            have ez34 : (pj_ai G33 179 z9.toInt.toNat).toInt = z34.toInt := by rw [hz34]
            have fz34_0 : 0 ≤ z34.toInt ∧ z34.toInt ≤ 7 := by rw [hz34]; exact (iG33.2.2.2 179 32 rfl _ (by show _ < 32; omega)).2 ⟨by omega, by omega⟩
            have x35 : z34.toInt = z32.toInt := by rw [hz34, show z9.toInt.toNat = z9.toInt.toNat by omega, hG33, pj_ai_wa_eq iG28.1 rfl]
            have q36 : (pj_fi G33 171 5).toInt = y1.toInt := by rw [show pj_fi G33 171 5 = y1 from by rw [hG33, pj_fi_wa]; exact (by rw [hG28, pj_fi_wa]; exact hy1.symm)]
            exact pj_X_rt rfl rfl ⟨_, rfl, iG33, kG33, pj_i32 _, rfl⟩
          | false =>
            rw [pj_cF]
            have ub24 := pj_u_neF b24
            refine pj_X_of (fun r h => pj_R_icF rfl b24 h) ?_
            refine pj_X_of (fun r h => pj_R_to (G0, 117, [(4, .int y20), (3, .int z10), (0, .ref 171), (1, .int p), (2, .int c)], [.int (Int32.ofInt 1), .int z23, .int z22, .ref 179], 0, 0) 117 3 (fun _ => rfl) h) ?_
            have q37 : (pj_fi G0 171 5).toInt = y1.toInt := by rw [show pj_fi G0 171 5 = y1 from hy1.symm]
            refine pj_X_ca (vs := [.int (Int32.ofInt 1)]) rfl (fun _ => rfl) ⟨Nat.le_of_ble_eq_true rfl, Nat.le_of_ble_eq_true rfl, rfl⟩ ⟨rfl, rfl⟩ (pj_Y_up (by decide) (ct_172x G0 hI (Int32.ofInt 1) ⟨by omega, by omega⟩)) ?_
            rintro _ _ ⟨y38, rfl, rfl, ry38, ey38, fy38⟩
            rw [← fy38, pj_nm_e]
            show pj_X _ _ G0 120 [(4, .int y20), (3, .int z10), (0, .ref 171), (1, .int p), (2, .int c)] [.int y38, .int z23, .int z22, .ref 179] _
            refine pj_X_of (fun r h => pj_R_to (G0, 121, [(4, .int y20), (3, .int z10), (0, .ref 171), (1, .int p), (2, .int c)], [.int (z23 - y38), .int z22, .ref 179], 0, 0) 121 2 (fun _ => rfl) h) ?_
            obtain ⟨z39, hz39⟩ : ∃ z : Int32, z = z23 - y38 := ⟨_, rfl⟩
            refine pj_X_eqi hz39.symm ?_
            rw [← hz39, pj_nm_e]
            refine pj_X_of (fun r h => pj_T_is hI rfl rfl (by omega) (by omega) h) ?_
            show pj_X _ _ (pj_wa G0 179 z22.toInt.toNat z39) 122 [(4, .int y20), (3, .int z10), (0, .ref 171), (1, .int p), (2, .int c)] [] _
            obtain ⟨G40, hG40⟩ : ∃ H, H = pj_wa G0 179 z22.toInt.toNat z39 := ⟨_, rfl⟩
            have iG40 : pj_Inv G40 := by rw [hG40]; exact pj_Inv_wa hI rfl (fun q hq => by cases hq) (fun n hn => ⟨fun h1 => ⟨fun h2 => by omega, fun h2 => by omega⟩, fun h1 => by omega⟩)
            have kG40 : pj_kpt kc_222x G0 G40 := by rw [hG40]; exact pj_kpt_a hK rfl
            rw [← hG40]
            rw [pj_nm_e]
            refine pj_X_of (fun r h => pj_R_to (G40, 123, [(4, .int y20), (3, .int z10), (0, .ref 171), (1, .int p), (2, .int c)], [.ref 171], 0, 0) 123 2 (fun _ => rfl) h) ?_
            refine pj_X_of (fun r h => pj_T_gr iG40 rfl rfl rfl h) ?_
            refine pj_X_of (fun r h => pj_R_to (G40, 130, [(4, .int y20), (3, .int z10), (0, .ref 171), (1, .int p), (2, .int c)], [.int (((Int8.ofInt 24).toInt32) + p), .ref 179], 0, 0) 130 4 (fun _ => rfl) h) ?_
            refine pj_X_eqi hz9.symm ?_
            refine pj_X_of (fun r h => pj_R_to (G40, 131, [(4, .int y20), (3, .int z10), (0, .ref 171), (1, .int p), (2, .int c)], [.ref 171, .int z9, .ref 179], 0, 0) 131 2 (fun _ => rfl) h) ?_
            refine pj_X_of (fun r h => pj_T_gr iG40 rfl rfl rfl h) ?_
            refine pj_X_of (fun r h => pj_R_to (G40, 135, [(4, .int y20), (3, .int z10), (0, .ref 171), (1, .int p), (2, .int c)], [.int c, .ref 173, .int z9, .ref 179], 0, 0) 135 2 (fun _ => rfl) h) ?_
            refine pj_X_of (fun r h => pj_T_il iG40 rfl rfl (by omega) (by omega) h) ?_
            show pj_X _ _ G40 136 [(4, .int y20), (3, .int z10), (0, .ref 171), (1, .int p), (2, .int c)] [.int (pj_ai G40 173 c.toInt.toNat), .int z9, .ref 179] _
            obtain ⟨z41, hz41⟩ : ∃ z : Int32, z = pj_ai G40 173 c.toInt.toNat := ⟨_, rfl⟩
            refine pj_X_eqi hz41.symm ?_
            rw [← hz41, pj_nm_e]
            have ez41 : (pj_ai G40 173 c.toInt.toNat).toInt = z41.toInt := by rw [hz41]
            have fz41_0 : (0 : Int) ≤ z41.toInt ∧ z41.toInt ≤ 7 ∧ (z41.toInt ≤ 0 ∨ 0 ≤ z41.toInt) := by rw [hz41]; exact iG40.2.2.1 173 (10, 0, 7, 0, 0) rfl _ (by show _ < 10; omega)
            have xz41_z11 : z41.toInt = z11.toInt := by rw [hz41, hG40, pj_ai_wa_ne _ _ _ _ _ _ (by decide), show c.toInt.toNat = c.toInt.toNat by omega, hz11]
            refine pj_X_of (fun r h => pj_R_to (G40, 137, [(4, .int y20), (3, .int z10), (0, .ref 171), (1, .int p), (2, .int c)], [.ref 171, .int z41, .int z9, .ref 179], 0, 0) 137 2 (fun _ => rfl) h) ?_
            refine pj_X_of (fun r h => pj_T_gr iG40 rfl rfl rfl h) ?_
            refine pj_X_of (fun r h => pj_R_to (G40, 141, [(4, .int y20), (3, .int z10), (0, .ref 171), (1, .int p), (2, .int c)], [.int c, .ref 174, .int z41, .int z9, .ref 179], 0, 0) 141 2 (fun _ => rfl) h) ?_
            refine pj_X_of (fun r h => pj_T_il iG40 rfl rfl (by omega) (by omega) h) ?_
            show pj_X _ _ G40 142 [(4, .int y20), (3, .int z10), (0, .ref 171), (1, .int p), (2, .int c)] [.int (pj_ai G40 174 c.toInt.toNat), .int z41, .int z9, .ref 179] _
            obtain ⟨z42, hz42⟩ : ∃ z : Int32, z = pj_ai G40 174 c.toInt.toNat := ⟨_, rfl⟩
            refine pj_X_eqi hz42.symm ?_
            rw [← hz42, pj_nm_e]
            have ez42 : (pj_ai G40 174 c.toInt.toNat).toInt = z42.toInt := by rw [hz42]
            have fz42_0 : (0 : Int) ≤ z42.toInt ∧ z42.toInt ≤ 7 ∧ (z42.toInt ≤ 0 ∨ 0 ≤ z42.toInt) := by rw [hz42]; exact iG40.2.2.1 174 (10, 0, 7, 0, 0) rfl _ (by show _ < 10; omega)
            refine pj_X_of (fun r h => pj_R_to (G40, 143, [(4, .int y20), (3, .int z10), (0, .ref 171), (1, .int p), (2, .int c)], [.int (z41 + z42), .int z9, .ref 179], 0, 0) 143 2 (fun _ => rfl) h) ?_
            obtain ⟨z43, hz43⟩ : ∃ z : Int32, z = z41 + z42 := ⟨_, rfl⟩
            refine pj_X_eqi hz43.symm ?_
            rw [← hz43, pj_nm_e]
            have fz43_0 : z43.toInt = z41.toInt + z42.toInt := by rw [hz43]; exact pj_addI (by have := pj_i32 z41; have := pj_i32 z42; omega) (by have := pj_i32 z41; have := pj_i32 z42; omega)
            refine pj_X_of (fun r h => pj_R_to (G40, 145, [(4, .int y20), (3, .int z10), (0, .ref 171), (1, .int p), (2, .int c)], [.int (z43 - z10), .int z9, .ref 179], 0, 0) 145 3 (fun _ => rfl) h) ?_
            obtain ⟨z44, hz44⟩ : ∃ z : Int32, z = z43 - z10 := ⟨_, rfl⟩
            refine pj_X_eqi hz44.symm ?_
            rw [← hz44, pj_nm_e]
            have fz44_0 : z44.toInt = z43.toInt - z10.toInt := by rw [hz44]; exact pj_subI (by have := pj_i32 z43; have := pj_i32 z10; omega) (by have := pj_i32 z43; have := pj_i32 z10; omega)
            refine pj_X_of (fun r h => pj_T_is iG40 rfl rfl (by omega) (by omega) h) ?_
            show pj_X _ _ (pj_wa G40 179 z9.toInt.toNat z44) 146 [(4, .int y20), (3, .int z10), (0, .ref 171), (1, .int p), (2, .int c)] [] _
            obtain ⟨G45, hG45⟩ : ∃ H, H = pj_wa G40 179 z9.toInt.toNat z44 := ⟨_, rfl⟩
            have iG45 : pj_Inv G45 := by rw [hG45]; exact pj_Inv_wa iG40 rfl (fun q hq => by cases hq) (fun n hn => ⟨fun h1 => ⟨fun h2 => by omega, fun h2 => by omega⟩, fun h1 => by omega⟩)
            have kG45 : pj_kpt kc_222x G0 G45 := by rw [hG45]; exact pj_kpt_a kG40 rfl
            rw [← hG45]
            rw [pj_nm_e]
            refine pj_X_of (fun r h => pj_R_to (G45, 147, [(4, .int y20), (3, .int z10), (0, .ref 171), (1, .int p), (2, .int c)], [.ref 171], 0, 0) 147 2 (fun _ => rfl) h) ?_
            refine pj_X_of (fun r h => pj_T_gr iG45 rfl rfl rfl h) ?_
            refine pj_X_of (fun r h => pj_R_to (G45, 154, [(4, .int y20), (3, .int z10), (0, .ref 171), (1, .int p), (2, .int c)], [.int (((Int8.ofInt 24).toInt32) + p), .ref 179], 0, 0) 154 4 (fun _ => rfl) h) ?_
            refine pj_X_eqi hz9.symm ?_
            refine pj_X_of (fun r h => pj_T_il iG45 rfl rfl (by omega) (by omega) h) ?_
            show pj_X _ _ G45 155 [(4, .int y20), (3, .int z10), (0, .ref 171), (1, .int p), (2, .int c)] [.int (pj_ai G45 179 z9.toInt.toNat)] _
            obtain ⟨z46, hz46⟩ : ∃ z : Int32, z = pj_ai G45 179 z9.toInt.toNat := ⟨_, rfl⟩
            refine pj_X_eqi hz46.symm ?_
            rw [← hz46, pj_nm_e]
            have ez46 : (pj_ai G45 179 z9.toInt.toNat).toInt = z46.toInt := by rw [hz46]
            have fz46_0 : 0 ≤ z46.toInt ∧ z46.toInt ≤ 7 := by rw [hz46]; exact (iG45.2.2.2 179 32 rfl _ (by show _ < 32; omega)).2 ⟨by omega, by omega⟩
            have x47 : z46.toInt = z44.toInt := by rw [hz46, show z9.toInt.toNat = z9.toInt.toNat by omega, hG45, pj_ai_wa_eq iG40.1 rfl]
            have q48 : (pj_fi G45 171 5).toInt = y1.toInt := by rw [show pj_fi G45 171 5 = y1 from by rw [hG45, pj_fi_wa]; exact (by rw [hG40, pj_fi_wa]; exact hy1.symm)]
            exact pj_X_rt rfl rfl ⟨_, rfl, iG45, kG45, pj_i32 _, rfl⟩
        | false =>
          rw [pj_cF]
          have ub18 := pj_u0_neF b18
          refine pj_X_of (fun r h => pj_R_ifF rfl b18 h) ?_
          refine pj_X_of (fun r h => pj_R_to (G0, 71, [(3, .int z10), (0, .ref 171), (1, .int p), (2, .int c)], [.int ((Int8.ofInt (-3)).toInt32)], 0, 0) 71 2 (fun _ => rfl) h) ?_
          have q49 : (pj_fi G0 171 5).toInt = y1.toInt := by rw [show pj_fi G0 171 5 = y1 from hy1.symm]
          exact pj_X_rt rfl rfl ⟨_, rfl, hI, hK, pj_i32 _, rfl⟩
      | false =>
        rw [pj_cF]
        have ub12 := pj_u_eqF b12
        refine pj_X_of (fun r h => pj_R_icF rfl b12 h) ?_
        refine pj_X_of (fun r h => pj_R_to (G0, 40, [(3, .int z10), (0, .ref 171), (1, .int p), (2, .int c)], [.ref 171, .int z10], 0, 0) 40 3 (fun _ => rfl) h) ?_
        refine pj_X_of (fun r h => pj_T_gr hI rfl rfl rfl h) ?_
        refine pj_X_of (fun r h => pj_R_to (G0, 44, [(3, .int z10), (0, .ref 171), (1, .int p), (2, .int c)], [.int c, .ref 174, .int z10], 0, 0) 44 2 (fun _ => rfl) h) ?_
        refine pj_X_of (fun r h => pj_T_il hI rfl rfl (by omega) (by omega) h) ?_
        show pj_X _ _ G0 45 [(3, .int z10), (0, .ref 171), (1, .int p), (2, .int c)] [.int (pj_ai G0 174 c.toInt.toNat), .int z10] _
        obtain ⟨z50, hz50⟩ : ∃ z : Int32, z = pj_ai G0 174 c.toInt.toNat := ⟨_, rfl⟩
        refine pj_X_eqi hz50.symm ?_
        rw [← hz50, pj_nm_e]
        have ez50 : (pj_ai G0 174 c.toInt.toNat).toInt = z50.toInt := by rw [hz50]
        have fz50_0 : (0 : Int) ≤ z50.toInt ∧ z50.toInt ≤ 7 ∧ (z50.toInt ≤ 0 ∨ 0 ≤ z50.toInt) := by rw [hz50]; exact hI.2.2.1 174 (10, 0, 7, 0, 0) rfl _ (by show _ < 10; omega)
        cases b51 : pj_c1 .eq z10 z50 with
        | true =>
          rw [pj_cT]
          have ub51 := pj_u_eqT b51
          refine pj_X_of (fun r h => pj_R_icT 51 rfl rfl b51 h) ?_
          refine pj_X_of (fun r h => pj_R_to (G0, 54, [(3, .int z10), (0, .ref 171), (1, .int p), (2, .int c)], [.ref 171, .int (Int32.ofInt 0), .ref 171], 0, 0) 54 4 (fun _ => rfl) h) ?_
          refine pj_X_of (fun r h => pj_T_gr hI rfl rfl rfl h) ?_
          refine pj_X_of (fun r h => pj_R_to (G0, 58, [(3, .int z10), (0, .ref 171), (1, .int p), (2, .int c)], [.int p, .ref 178, .int (Int32.ofInt 0), .ref 171], 0, 0) 58 2 (fun _ => rfl) h) ?_
          refine pj_X_of (fun r h => pj_T_il hI rfl rfl (by omega) (by omega) h) ?_
          show pj_X _ _ G0 59 [(3, .int z10), (0, .ref 171), (1, .int p), (2, .int c)] [.int (pj_ai G0 178 p.toInt.toNat), .int (Int32.ofInt 0), .ref 171] _
          obtain ⟨z52, hz52⟩ : ∃ z : Int32, z = pj_ai G0 178 p.toInt.toNat := ⟨_, rfl⟩
          refine pj_X_eqi hz52.symm ?_
          rw [← hz52, pj_nm_e]
          have ez52 : (pj_ai G0 178 p.toInt.toNat).toInt = z52.toInt := by rw [hz52]
          have q53 : (pj_fi G0 171 5).toInt = y1.toInt := by rw [show pj_fi G0 171 5 = y1 from hy1.symm]
          refine pj_X_ca (vs := [.ref 171, .int (Int32.ofInt 0), .int z52]) rfl (fun _ => rfl) ⟨Nat.le_of_ble_eq_true rfl, Nat.le_of_ble_eq_true rfl, pj_T_rcv hI rfl⟩ ⟨rfl, rfl⟩ (pj_Y_up (by decide) (ct_206x G0 hI (Int32.ofInt 0) z52)) ?_
          rintro _ _ ⟨y54, rfl, rfl, ry54, ey54, fy54⟩
          replace ey54 := ey54 _ rfl
          rw [← fy54, pj_nm_e]
          show pj_X _ _ G0 62 [(3, .int z10), (0, .ref 171), (1, .int p), (2, .int c)] [.int y54] _
          refine pj_X_of (fun r h => pj_R_to (G0, 63, [(3, .int z10), (0, .ref 171), (1, .int p), (2, .int c)], [.int c, .int y54], 0, 0) 63 2 (fun _ => rfl) h) ?_
          have q55 : (pj_fi G0 171 5).toInt = y1.toInt := by rw [show pj_fi G0 171 5 = y1 from hy1.symm]
          refine pj_X_ca (vs := [.int y54, .int c]) rfl (fun _ => rfl) ⟨Nat.le_of_ble_eq_true rfl, Nat.le_of_ble_eq_true rfl, rfl⟩ ⟨rfl, rfl⟩ (pj_Y_up (by decide) (ct_171bx G0 hI y54 c)) ?_
          rintro _ _ ⟨y56, rfl, rfl, ry56, ey56, fy56⟩
          rw [← fy56, pj_nm_e]
          show pj_X _ _ G0 66 [(3, .int z10), (0, .ref 171), (1, .int p), (2, .int c)] [.int y56] _
          cases b57 : pj_c1 .ne y56 0 with
          | true =>
            rw [pj_cT]
            have ub57 := pj_u0_neT b57
            refine pj_X_of (fun r h => pj_R_ifT 72 rfl rfl b57 h) ?_
            refine pj_X_of (fun r h => pj_R_to (G0, 75, [(3, .int z10), (0, .ref 171), (1, .int p), (2, .int c)], [.int (Int32.ofInt 1), .int c, .ref 171], 0, 0) 75 4 (fun _ => rfl) h) ?_
            have q58 : (pj_fi G0 171 5).toInt = y1.toInt := by rw [show pj_fi G0 171 5 = y1 from hy1.symm]
            refine pj_X_ca (vs := [.ref 171, .int c, .int (Int32.ofInt 1)]) rfl (fun _ => rfl) ⟨Nat.le_of_ble_eq_true rfl, Nat.le_of_ble_eq_true rfl, pj_T_rcv hI rfl⟩ ⟨rfl, rfl⟩ (pj_Y_up (by decide) (ct_205x G0 hI c (Int32.ofInt 1) ⟨by omega, by omega⟩)) ?_
            rintro _ _ ⟨y59, rfl, rfl, ry59, ey59, fy59⟩
            replace ey59 := ey59 _ rfl
            rw [← fy59, pj_nm_e]
            show pj_X _ _ G0 78 [(3, .int z10), (0, .ref 171), (1, .int p), (2, .int c)] [.int y59] _
            have hob : 0 ≤ y59.toInt := pj_ob hI ey54 (by rw [show (pj_fi G0 171 5).toInt = (pj_fi G0 171 5).toInt from rfl]; omega) (by omega) (ey56 (by omega)) (by omega) (by omega) ey59 (by omega)
            refine pj_X_of (fun r h => pj_R_to (G0, 81, [(4, .int y59), (3, .int z10), (0, .ref 171), (1, .int p), (2, .int c)], [.ref 171], 0, 0) 81 3 (fun _ => rfl) h) ?_
            refine pj_X_of (fun r h => pj_T_gr hI rfl rfl rfl h) ?_
            refine pj_X_of (fun r h => pj_R_to (G0, 88, [(4, .int y59), (3, .int z10), (0, .ref 171), (1, .int p), (2, .int c)], [.int ((Int32.ofInt 4) * y59), .ref 179], 0, 0) 88 4 (fun _ => rfl) h) ?_
            obtain ⟨z60, hz60⟩ : ∃ z : Int32, z = (Int32.ofInt 4) * y59 := ⟨_, rfl⟩
            refine pj_X_eqi hz60.symm ?_
            rw [← hz60, pj_nm_e]
            have fz60_0 : z60.toInt = 4 * y59.toInt := by rw [hz60]; exact pj_mulL (by decide) (by omega) (by omega)
            refine pj_X_of (fun r h => pj_R_to (G0, 90, [(4, .int y59), (3, .int z10), (0, .ref 171), (1, .int p), (2, .int c)], [.int (z60 + (Int32.ofInt 3)), .ref 179], 0, 0) 90 3 (fun _ => rfl) h) ?_
            obtain ⟨z61, hz61⟩ : ∃ z : Int32, z = z60 + (Int32.ofInt 3) := ⟨_, rfl⟩
            refine pj_X_eqi hz61.symm ?_
            rw [← hz61, pj_nm_e]
            have fz61_0 : z61.toInt = z60.toInt + (Int32.ofInt 3).toInt := by rw [hz61]; exact pj_addI (by have := pj_i32 z60; have := pj_i32 (Int32.ofInt 3); omega) (by have := pj_i32 z60; have := pj_i32 (Int32.ofInt 3); omega)
            refine pj_X_of (fun r h => pj_R_to (G0, 91, [(4, .int y59), (3, .int z10), (0, .ref 171), (1, .int p), (2, .int c)], [.int z61, .ref 179, .int z61, .ref 179], 0, 0) 91 2 (fun _ => rfl) h) ?_
            refine pj_X_of (fun r h => pj_T_il hI rfl rfl (by omega) (by omega) h) ?_
            show pj_X _ _ G0 92 [(4, .int y59), (3, .int z10), (0, .ref 171), (1, .int p), (2, .int c)] [.int (pj_ai G0 179 z61.toInt.toNat), .int z61, .ref 179] _
            obtain ⟨z62, hz62⟩ : ∃ z : Int32, z = pj_ai G0 179 z61.toInt.toNat := ⟨_, rfl⟩
            refine pj_X_eqi hz62.symm ?_
            rw [← hz62, pj_nm_e]
            have ez62 : (pj_ai G0 179 z61.toInt.toNat).toInt = z62.toInt := by rw [hz62]
            refine pj_X_of (fun r h => pj_R_to (G0, 93, [(4, .int y59), (3, .int z10), (0, .ref 171), (1, .int p), (2, .int c)], [.ref 171, .int z62, .int z61, .ref 179], 0, 0) 93 2 (fun _ => rfl) h) ?_
            refine pj_X_of (fun r h => pj_T_gr hI rfl rfl rfl h) ?_
            refine pj_X_of (fun r h => pj_R_to (G0, 100, [(4, .int y59), (3, .int z10), (0, .ref 171), (1, .int p), (2, .int c)], [.int ((Int32.ofInt 4) * y59), .ref 179, .int z62, .int z61, .ref 179], 0, 0) 100 4 (fun _ => rfl) h) ?_
            refine pj_X_eqi hz60.symm ?_
            refine pj_X_of (fun r h => pj_R_to (G0, 102, [(4, .int y59), (3, .int z10), (0, .ref 171), (1, .int p), (2, .int c)], [.int (z60 + (Int32.ofInt 3)), .ref 179, .int z62, .int z61, .ref 179], 0, 0) 102 3 (fun _ => rfl) h) ?_
            refine pj_X_eqi hz61.symm ?_
            refine pj_X_of (fun r h => pj_T_il hI rfl rfl (by omega) (by omega) h) ?_
            show pj_X _ _ G0 103 [(4, .int y59), (3, .int z10), (0, .ref 171), (1, .int p), (2, .int c)] [.int (pj_ai G0 179 z61.toInt.toNat), .int z62, .int z61, .ref 179] _
            refine pj_X_eqi hz62.symm ?_
            refine pj_X_of (fun r h => pj_R_to (G0, 104, [(4, .int y59), (3, .int z10), (0, .ref 171), (1, .int p), (2, .int c)], [.ref 171, .int z62, .int z62, .int z61, .ref 179], 0, 0) 104 2 (fun _ => rfl) h) ?_
            refine pj_X_of (fun r h => pj_T_gr hI rfl rfl rfl h) ?_
            refine pj_X_of (fun r h => pj_R_to (G0, 108, [(4, .int y59), (3, .int z10), (0, .ref 171), (1, .int p), (2, .int c)], [.int p, .ref 178, .int z62, .int z62, .int z61, .ref 179], 0, 0) 108 2 (fun _ => rfl) h) ?_
            refine pj_X_of (fun r h => pj_T_il hI rfl rfl (by omega) (by omega) h) ?_
            show pj_X _ _ G0 109 [(4, .int y59), (3, .int z10), (0, .ref 171), (1, .int p), (2, .int c)] [.int (pj_ai G0 178 p.toInt.toNat), .int z62, .int z62, .int z61, .ref 179] _
            refine pj_X_eqi hz52.symm ?_
            cases b63 : pj_c1 .ne z62 z52 with
            | true =>
              rw [pj_cT]
              have ub63 := pj_u_neT b63
              refine pj_X_of (fun r h => pj_R_icT 116 rfl rfl b63 h) ?_
              refine pj_X_of (fun r h => pj_R_to (G0, 117, [(4, .int y59), (3, .int z10), (0, .ref 171), (1, .int p), (2, .int c)], [.int (Int32.ofInt 0), .int z62, .int z61, .ref 179], 0, 0) 117 2 (fun _ => rfl) h) ?_
              have q64 : (pj_fi G0 171 5).toInt = y1.toInt := by rw [show pj_fi G0 171 5 = y1 from hy1.symm]
              refine pj_X_ca (vs := [.int (Int32.ofInt 0)]) rfl (fun _ => rfl) ⟨Nat.le_of_ble_eq_true rfl, Nat.le_of_ble_eq_true rfl, rfl⟩ ⟨rfl, rfl⟩ (pj_Y_up (by decide) (ct_172x G0 hI (Int32.ofInt 0) ⟨by omega, by omega⟩)) ?_
              rintro _ _ ⟨y65, rfl, rfl, ry65, ey65, fy65⟩
              rw [← fy65, pj_nm_e]
              show pj_X _ _ G0 120 [(4, .int y59), (3, .int z10), (0, .ref 171), (1, .int p), (2, .int c)] [.int y65, .int z62, .int z61, .ref 179] _
              refine pj_X_of (fun r h => pj_R_to (G0, 121, [(4, .int y59), (3, .int z10), (0, .ref 171), (1, .int p), (2, .int c)], [.int (z62 - y65), .int z61, .ref 179], 0, 0) 121 2 (fun _ => rfl) h) ?_
              obtain ⟨z66, hz66⟩ : ∃ z : Int32, z = z62 - y65 := ⟨_, rfl⟩
              refine pj_X_eqi hz66.symm ?_
              rw [← hz66, pj_nm_e]
              refine pj_X_of (fun r h => pj_T_is hI rfl rfl (by omega) (by omega) h) ?_
              show pj_X _ _ (pj_wa G0 179 z61.toInt.toNat z66) 122 [(4, .int y59), (3, .int z10), (0, .ref 171), (1, .int p), (2, .int c)] [] _
              obtain ⟨G67, hG67⟩ : ∃ H, H = pj_wa G0 179 z61.toInt.toNat z66 := ⟨_, rfl⟩
              have iG67 : pj_Inv G67 := by rw [hG67]; exact pj_Inv_wa hI rfl (fun q hq => by cases hq) (fun n hn => ⟨fun h1 => ⟨fun h2 => by omega, fun h2 => by omega⟩, fun h1 => by omega⟩)
              have kG67 : pj_kpt kc_222x G0 G67 := by rw [hG67]; exact pj_kpt_a hK rfl
              rw [← hG67]
              rw [pj_nm_e]
              refine pj_X_of (fun r h => pj_R_to (G67, 123, [(4, .int y59), (3, .int z10), (0, .ref 171), (1, .int p), (2, .int c)], [.ref 171], 0, 0) 123 2 (fun _ => rfl) h) ?_
              refine pj_X_of (fun r h => pj_T_gr iG67 rfl rfl rfl h) ?_
              refine pj_X_of (fun r h => pj_R_to (G67, 130, [(4, .int y59), (3, .int z10), (0, .ref 171), (1, .int p), (2, .int c)], [.int (((Int8.ofInt 24).toInt32) + p), .ref 179], 0, 0) 130 4 (fun _ => rfl) h) ?_
              refine pj_X_eqi hz9.symm ?_
              refine pj_X_of (fun r h => pj_R_to (G67, 131, [(4, .int y59), (3, .int z10), (0, .ref 171), (1, .int p), (2, .int c)], [.ref 171, .int z9, .ref 179], 0, 0) 131 2 (fun _ => rfl) h) ?_
              refine pj_X_of (fun r h => pj_T_gr iG67 rfl rfl rfl h) ?_
              refine pj_X_of (fun r h => pj_R_to (G67, 135, [(4, .int y59), (3, .int z10), (0, .ref 171), (1, .int p), (2, .int c)], [.int c, .ref 173, .int z9, .ref 179], 0, 0) 135 2 (fun _ => rfl) h) ?_
              refine pj_X_of (fun r h => pj_T_il iG67 rfl rfl (by omega) (by omega) h) ?_
              show pj_X _ _ G67 136 [(4, .int y59), (3, .int z10), (0, .ref 171), (1, .int p), (2, .int c)] [.int (pj_ai G67 173 c.toInt.toNat), .int z9, .ref 179] _
              obtain ⟨z68, hz68⟩ : ∃ z : Int32, z = pj_ai G67 173 c.toInt.toNat := ⟨_, rfl⟩
              refine pj_X_eqi hz68.symm ?_
              rw [← hz68, pj_nm_e]
              have ez68 : (pj_ai G67 173 c.toInt.toNat).toInt = z68.toInt := by rw [hz68]
              have fz68_0 : (0 : Int) ≤ z68.toInt ∧ z68.toInt ≤ 7 ∧ (z68.toInt ≤ 0 ∨ 0 ≤ z68.toInt) := by rw [hz68]; exact iG67.2.2.1 173 (10, 0, 7, 0, 0) rfl _ (by show _ < 10; omega)
              have xz68_z11 : z68.toInt = z11.toInt := by rw [hz68, hG67, pj_ai_wa_ne _ _ _ _ _ _ (by decide), show c.toInt.toNat = c.toInt.toNat by omega, hz11]
              refine pj_X_of (fun r h => pj_R_to (G67, 137, [(4, .int y59), (3, .int z10), (0, .ref 171), (1, .int p), (2, .int c)], [.ref 171, .int z68, .int z9, .ref 179], 0, 0) 137 2 (fun _ => rfl) h) ?_
              refine pj_X_of (fun r h => pj_T_gr iG67 rfl rfl rfl h) ?_
              refine pj_X_of (fun r h => pj_R_to (G67, 141, [(4, .int y59), (3, .int z10), (0, .ref 171), (1, .int p), (2, .int c)], [.int c, .ref 174, .int z68, .int z9, .ref 179], 0, 0) 141 2 (fun _ => rfl) h) ?_
              refine pj_X_of (fun r h => pj_T_il iG67 rfl rfl (by omega) (by omega) h) ?_
              show pj_X _ _ G67 142 [(4, .int y59), (3, .int z10), (0, .ref 171), (1, .int p), (2, .int c)] [.int (pj_ai G67 174 c.toInt.toNat), .int z68, .int z9, .ref 179] _
              obtain ⟨z69, hz69⟩ : ∃ z : Int32, z = pj_ai G67 174 c.toInt.toNat := ⟨_, rfl⟩
              refine pj_X_eqi hz69.symm ?_
              rw [← hz69, pj_nm_e]
              have ez69 : (pj_ai G67 174 c.toInt.toNat).toInt = z69.toInt := by rw [hz69]
              have fz69_0 : (0 : Int) ≤ z69.toInt ∧ z69.toInt ≤ 7 ∧ (z69.toInt ≤ 0 ∨ 0 ≤ z69.toInt) := by rw [hz69]; exact iG67.2.2.1 174 (10, 0, 7, 0, 0) rfl _ (by show _ < 10; omega)
              have xz69_z50 : z69.toInt = z50.toInt := by rw [hz69, hG67, pj_ai_wa_ne _ _ _ _ _ _ (by decide), show c.toInt.toNat = c.toInt.toNat by omega, hz50]
              refine pj_X_of (fun r h => pj_R_to (G67, 143, [(4, .int y59), (3, .int z10), (0, .ref 171), (1, .int p), (2, .int c)], [.int (z68 + z69), .int z9, .ref 179], 0, 0) 143 2 (fun _ => rfl) h) ?_
              obtain ⟨z70, hz70⟩ : ∃ z : Int32, z = z68 + z69 := ⟨_, rfl⟩
              refine pj_X_eqi hz70.symm ?_
              rw [← hz70, pj_nm_e]
              have fz70_0 : z70.toInt = z68.toInt + z69.toInt := by rw [hz70]; exact pj_addI (by have := pj_i32 z68; have := pj_i32 z69; omega) (by have := pj_i32 z68; have := pj_i32 z69; omega)
              refine pj_X_of (fun r h => pj_R_to (G67, 145, [(4, .int y59), (3, .int z10), (0, .ref 171), (1, .int p), (2, .int c)], [.int (z70 - z10), .int z9, .ref 179], 0, 0) 145 3 (fun _ => rfl) h) ?_
              obtain ⟨z71, hz71⟩ : ∃ z : Int32, z = z70 - z10 := ⟨_, rfl⟩
              refine pj_X_eqi hz71.symm ?_
              rw [← hz71, pj_nm_e]
              have fz71_0 : z71.toInt = z70.toInt - z10.toInt := by rw [hz71]; exact pj_subI (by have := pj_i32 z70; have := pj_i32 z10; omega) (by have := pj_i32 z70; have := pj_i32 z10; omega)
              refine pj_X_of (fun r h => pj_T_is iG67 rfl rfl (by omega) (by omega) h) ?_
              show pj_X _ _ (pj_wa G67 179 z9.toInt.toNat z71) 146 [(4, .int y59), (3, .int z10), (0, .ref 171), (1, .int p), (2, .int c)] [] _
              obtain ⟨G72, hG72⟩ : ∃ H, H = pj_wa G67 179 z9.toInt.toNat z71 := ⟨_, rfl⟩
              have iG72 : pj_Inv G72 := by rw [hG72]; exact pj_Inv_wa iG67 rfl (fun q hq => by cases hq) (fun n hn => ⟨fun h1 => ⟨fun h2 => by omega, fun h2 => by omega⟩, fun h1 => by omega⟩)
              have kG72 : pj_kpt kc_222x G0 G72 := by rw [hG72]; exact pj_kpt_a kG67 rfl
              rw [← hG72]
              rw [pj_nm_e]
              refine pj_X_of (fun r h => pj_R_to (G72, 147, [(4, .int y59), (3, .int z10), (0, .ref 171), (1, .int p), (2, .int c)], [.ref 171], 0, 0) 147 2 (fun _ => rfl) h) ?_
              refine pj_X_of (fun r h => pj_T_gr iG72 rfl rfl rfl h) ?_
              refine pj_X_of (fun r h => pj_R_to (G72, 154, [(4, .int y59), (3, .int z10), (0, .ref 171), (1, .int p), (2, .int c)], [.int (((Int8.ofInt 24).toInt32) + p), .ref 179], 0, 0) 154 4 (fun _ => rfl) h) ?_
              refine pj_X_eqi hz9.symm ?_
              refine pj_X_of (fun r h => pj_T_il iG72 rfl rfl (by omega) (by omega) h) ?_
              show pj_X _ _ G72 155 [(4, .int y59), (3, .int z10), (0, .ref 171), (1, .int p), (2, .int c)] [.int (pj_ai G72 179 z9.toInt.toNat)] _
              obtain ⟨z73, hz73⟩ : ∃ z : Int32, z = pj_ai G72 179 z9.toInt.toNat := ⟨_, rfl⟩
              refine pj_X_eqi hz73.symm ?_
              rw [← hz73, pj_nm_e]
              have ez73 : (pj_ai G72 179 z9.toInt.toNat).toInt = z73.toInt := by rw [hz73]
              have fz73_0 : 0 ≤ z73.toInt ∧ z73.toInt ≤ 7 := by rw [hz73]; exact (iG72.2.2.2 179 32 rfl _ (by show _ < 32; omega)).2 ⟨by omega, by omega⟩
              have x74 : z73.toInt = z71.toInt := by rw [hz73, show z9.toInt.toNat = z9.toInt.toNat by omega, hG72, pj_ai_wa_eq iG67.1 rfl]
              have q75 : (pj_fi G72 171 5).toInt = y1.toInt := by rw [show pj_fi G72 171 5 = y1 from by rw [hG72, pj_fi_wa]; exact (by rw [hG67, pj_fi_wa]; exact hy1.symm)]
              exact pj_X_rt rfl rfl ⟨_, rfl, iG72, kG72, pj_i32 _, rfl⟩
            | false =>
              rw [pj_cF]
              have ub63 := pj_u_neF b63
              refine pj_X_of (fun r h => pj_R_icF rfl b63 h) ?_
              refine pj_X_of (fun r h => pj_R_to (G0, 117, [(4, .int y59), (3, .int z10), (0, .ref 171), (1, .int p), (2, .int c)], [.int (Int32.ofInt 1), .int z62, .int z61, .ref 179], 0, 0) 117 3 (fun _ => rfl) h) ?_
              have q76 : (pj_fi G0 171 5).toInt = y1.toInt := by rw [show pj_fi G0 171 5 = y1 from hy1.symm]
              refine pj_X_ca (vs := [.int (Int32.ofInt 1)]) rfl (fun _ => rfl) ⟨Nat.le_of_ble_eq_true rfl, Nat.le_of_ble_eq_true rfl, rfl⟩ ⟨rfl, rfl⟩ (pj_Y_up (by decide) (ct_172x G0 hI (Int32.ofInt 1) ⟨by omega, by omega⟩)) ?_
              rintro _ _ ⟨y77, rfl, rfl, ry77, ey77, fy77⟩
              rw [← fy77, pj_nm_e]
              show pj_X _ _ G0 120 [(4, .int y59), (3, .int z10), (0, .ref 171), (1, .int p), (2, .int c)] [.int y77, .int z62, .int z61, .ref 179] _
              refine pj_X_of (fun r h => pj_R_to (G0, 121, [(4, .int y59), (3, .int z10), (0, .ref 171), (1, .int p), (2, .int c)], [.int (z62 - y77), .int z61, .ref 179], 0, 0) 121 2 (fun _ => rfl) h) ?_
              obtain ⟨z78, hz78⟩ : ∃ z : Int32, z = z62 - y77 := ⟨_, rfl⟩
              refine pj_X_eqi hz78.symm ?_
              rw [← hz78, pj_nm_e]
              refine pj_X_of (fun r h => pj_T_is hI rfl rfl (by omega) (by omega) h) ?_
              show pj_X _ _ (pj_wa G0 179 z61.toInt.toNat z78) 122 [(4, .int y59), (3, .int z10), (0, .ref 171), (1, .int p), (2, .int c)] [] _
              obtain ⟨G79, hG79⟩ : ∃ H, H = pj_wa G0 179 z61.toInt.toNat z78 := ⟨_, rfl⟩
              have iG79 : pj_Inv G79 := by rw [hG79]; exact pj_Inv_wa hI rfl (fun q hq => by cases hq) (fun n hn => ⟨fun h1 => ⟨fun h2 => by omega, fun h2 => by omega⟩, fun h1 => by omega⟩)
              have kG79 : pj_kpt kc_222x G0 G79 := by rw [hG79]; exact pj_kpt_a hK rfl
              rw [← hG79]
              rw [pj_nm_e]
              refine pj_X_of (fun r h => pj_R_to (G79, 123, [(4, .int y59), (3, .int z10), (0, .ref 171), (1, .int p), (2, .int c)], [.ref 171], 0, 0) 123 2 (fun _ => rfl) h) ?_
              refine pj_X_of (fun r h => pj_T_gr iG79 rfl rfl rfl h) ?_
              refine pj_X_of (fun r h => pj_R_to (G79, 130, [(4, .int y59), (3, .int z10), (0, .ref 171), (1, .int p), (2, .int c)], [.int (((Int8.ofInt 24).toInt32) + p), .ref 179], 0, 0) 130 4 (fun _ => rfl) h) ?_
              refine pj_X_eqi hz9.symm ?_
              refine pj_X_of (fun r h => pj_R_to (G79, 131, [(4, .int y59), (3, .int z10), (0, .ref 171), (1, .int p), (2, .int c)], [.ref 171, .int z9, .ref 179], 0, 0) 131 2 (fun _ => rfl) h) ?_
              refine pj_X_of (fun r h => pj_T_gr iG79 rfl rfl rfl h) ?_
              refine pj_X_of (fun r h => pj_R_to (G79, 135, [(4, .int y59), (3, .int z10), (0, .ref 171), (1, .int p), (2, .int c)], [.int c, .ref 173, .int z9, .ref 179], 0, 0) 135 2 (fun _ => rfl) h) ?_
              refine pj_X_of (fun r h => pj_T_il iG79 rfl rfl (by omega) (by omega) h) ?_
              show pj_X _ _ G79 136 [(4, .int y59), (3, .int z10), (0, .ref 171), (1, .int p), (2, .int c)] [.int (pj_ai G79 173 c.toInt.toNat), .int z9, .ref 179] _
              obtain ⟨z80, hz80⟩ : ∃ z : Int32, z = pj_ai G79 173 c.toInt.toNat := ⟨_, rfl⟩
              refine pj_X_eqi hz80.symm ?_
              rw [← hz80, pj_nm_e]
              have ez80 : (pj_ai G79 173 c.toInt.toNat).toInt = z80.toInt := by rw [hz80]
              have fz80_0 : (0 : Int) ≤ z80.toInt ∧ z80.toInt ≤ 7 ∧ (z80.toInt ≤ 0 ∨ 0 ≤ z80.toInt) := by rw [hz80]; exact iG79.2.2.1 173 (10, 0, 7, 0, 0) rfl _ (by show _ < 10; omega)
              have xz80_z11 : z80.toInt = z11.toInt := by rw [hz80, hG79, pj_ai_wa_ne _ _ _ _ _ _ (by decide), show c.toInt.toNat = c.toInt.toNat by omega, hz11]
              refine pj_X_of (fun r h => pj_R_to (G79, 137, [(4, .int y59), (3, .int z10), (0, .ref 171), (1, .int p), (2, .int c)], [.ref 171, .int z80, .int z9, .ref 179], 0, 0) 137 2 (fun _ => rfl) h) ?_
              refine pj_X_of (fun r h => pj_T_gr iG79 rfl rfl rfl h) ?_
              refine pj_X_of (fun r h => pj_R_to (G79, 141, [(4, .int y59), (3, .int z10), (0, .ref 171), (1, .int p), (2, .int c)], [.int c, .ref 174, .int z80, .int z9, .ref 179], 0, 0) 141 2 (fun _ => rfl) h) ?_
              refine pj_X_of (fun r h => pj_T_il iG79 rfl rfl (by omega) (by omega) h) ?_
              show pj_X _ _ G79 142 [(4, .int y59), (3, .int z10), (0, .ref 171), (1, .int p), (2, .int c)] [.int (pj_ai G79 174 c.toInt.toNat), .int z80, .int z9, .ref 179] _
              obtain ⟨z81, hz81⟩ : ∃ z : Int32, z = pj_ai G79 174 c.toInt.toNat := ⟨_, rfl⟩
              refine pj_X_eqi hz81.symm ?_
              rw [← hz81, pj_nm_e]
              have ez81 : (pj_ai G79 174 c.toInt.toNat).toInt = z81.toInt := by rw [hz81]
              have fz81_0 : (0 : Int) ≤ z81.toInt ∧ z81.toInt ≤ 7 ∧ (z81.toInt ≤ 0 ∨ 0 ≤ z81.toInt) := by rw [hz81]; exact iG79.2.2.1 174 (10, 0, 7, 0, 0) rfl _ (by show _ < 10; omega)
              have xz81_z50 : z81.toInt = z50.toInt := by rw [hz81, hG79, pj_ai_wa_ne _ _ _ _ _ _ (by decide), show c.toInt.toNat = c.toInt.toNat by omega, hz50]
              refine pj_X_of (fun r h => pj_R_to (G79, 143, [(4, .int y59), (3, .int z10), (0, .ref 171), (1, .int p), (2, .int c)], [.int (z80 + z81), .int z9, .ref 179], 0, 0) 143 2 (fun _ => rfl) h) ?_
              obtain ⟨z82, hz82⟩ : ∃ z : Int32, z = z80 + z81 := ⟨_, rfl⟩
              refine pj_X_eqi hz82.symm ?_
              rw [← hz82, pj_nm_e]
              have fz82_0 : z82.toInt = z80.toInt + z81.toInt := by rw [hz82]; exact pj_addI (by have := pj_i32 z80; have := pj_i32 z81; omega) (by have := pj_i32 z80; have := pj_i32 z81; omega)
              refine pj_X_of (fun r h => pj_R_to (G79, 145, [(4, .int y59), (3, .int z10), (0, .ref 171), (1, .int p), (2, .int c)], [.int (z82 - z10), .int z9, .ref 179], 0, 0) 145 3 (fun _ => rfl) h) ?_
              obtain ⟨z83, hz83⟩ : ∃ z : Int32, z = z82 - z10 := ⟨_, rfl⟩
              refine pj_X_eqi hz83.symm ?_
              rw [← hz83, pj_nm_e]
              have fz83_0 : z83.toInt = z82.toInt - z10.toInt := by rw [hz83]; exact pj_subI (by have := pj_i32 z82; have := pj_i32 z10; omega) (by have := pj_i32 z82; have := pj_i32 z10; omega)
              refine pj_X_of (fun r h => pj_T_is iG79 rfl rfl (by omega) (by omega) h) ?_
              show pj_X _ _ (pj_wa G79 179 z9.toInt.toNat z83) 146 [(4, .int y59), (3, .int z10), (0, .ref 171), (1, .int p), (2, .int c)] [] _
              obtain ⟨G84, hG84⟩ : ∃ H, H = pj_wa G79 179 z9.toInt.toNat z83 := ⟨_, rfl⟩
              have iG84 : pj_Inv G84 := by rw [hG84]; exact pj_Inv_wa iG79 rfl (fun q hq => by cases hq) (fun n hn => ⟨fun h1 => ⟨fun h2 => by omega, fun h2 => by omega⟩, fun h1 => by omega⟩)
              have kG84 : pj_kpt kc_222x G0 G84 := by rw [hG84]; exact pj_kpt_a kG79 rfl
              rw [← hG84]
              rw [pj_nm_e]
              refine pj_X_of (fun r h => pj_R_to (G84, 147, [(4, .int y59), (3, .int z10), (0, .ref 171), (1, .int p), (2, .int c)], [.ref 171], 0, 0) 147 2 (fun _ => rfl) h) ?_
              refine pj_X_of (fun r h => pj_T_gr iG84 rfl rfl rfl h) ?_
              refine pj_X_of (fun r h => pj_R_to (G84, 154, [(4, .int y59), (3, .int z10), (0, .ref 171), (1, .int p), (2, .int c)], [.int (((Int8.ofInt 24).toInt32) + p), .ref 179], 0, 0) 154 4 (fun _ => rfl) h) ?_
              refine pj_X_eqi hz9.symm ?_
              refine pj_X_of (fun r h => pj_T_il iG84 rfl rfl (by omega) (by omega) h) ?_
              show pj_X _ _ G84 155 [(4, .int y59), (3, .int z10), (0, .ref 171), (1, .int p), (2, .int c)] [.int (pj_ai G84 179 z9.toInt.toNat)] _
              obtain ⟨z85, hz85⟩ : ∃ z : Int32, z = pj_ai G84 179 z9.toInt.toNat := ⟨_, rfl⟩
              refine pj_X_eqi hz85.symm ?_
              rw [← hz85, pj_nm_e]
              have ez85 : (pj_ai G84 179 z9.toInt.toNat).toInt = z85.toInt := by rw [hz85]
              have fz85_0 : 0 ≤ z85.toInt ∧ z85.toInt ≤ 7 := by rw [hz85]; exact (iG84.2.2.2 179 32 rfl _ (by show _ < 32; omega)).2 ⟨by omega, by omega⟩
              have x86 : z85.toInt = z83.toInt := by rw [hz85, show z9.toInt.toNat = z9.toInt.toNat by omega, hG84, pj_ai_wa_eq iG79.1 rfl]
              have q87 : (pj_fi G84 171 5).toInt = y1.toInt := by rw [show pj_fi G84 171 5 = y1 from by rw [hG84, pj_fi_wa]; exact (by rw [hG79, pj_fi_wa]; exact hy1.symm)]
              exact pj_X_rt rfl rfl ⟨_, rfl, iG84, kG84, pj_i32 _, rfl⟩
          | false =>
            rw [pj_cF]
            have ub57 := pj_u0_neF b57
            refine pj_X_of (fun r h => pj_R_ifF rfl b57 h) ?_
            refine pj_X_of (fun r h => pj_R_to (G0, 71, [(3, .int z10), (0, .ref 171), (1, .int p), (2, .int c)], [.int ((Int8.ofInt (-3)).toInt32)], 0, 0) 71 2 (fun _ => rfl) h) ?_
            have q88 : (pj_fi G0 171 5).toInt = y1.toInt := by rw [show pj_fi G0 171 5 = y1 from hy1.symm]
            exact pj_X_rt rfl rfl ⟨_, rfl, hI, hK, pj_i32 _, rfl⟩
        | false =>
          rw [pj_cF]
          have ub51 := pj_u_eqF b51
          refine pj_X_of (fun r h => pj_R_icF rfl b51 h) ?_
          refine pj_X_of (fun r h => pj_R_to (G0, 50, [(3, .int z10), (0, .ref 171), (1, .int p), (2, .int c)], [.int ((Int8.ofInt (-2)).toInt32)], 0, 0) 50 2 (fun _ => rfl) h) ?_
          have q89 : (pj_fi G0 171 5).toInt = y1.toInt := by rw [show pj_fi G0 171 5 = y1 from hy1.symm]
          exact pj_X_rt rfl rfl ⟨_, rfl, hI, hK, pj_i32 _, rfl⟩
    | false =>
      rw [pj_cF]
      have ub8 := pj_u0_neF b8
      refine pj_X_of (fun r h => pj_R_ifF rfl b8 h) ?_
      refine pj_X_of (fun r h => pj_R_to (G0, 17, [(0, .ref 171), (1, .int p), (2, .int c)], [.int (Int32.ofInt (-1))], 0, 0) 17 2 (fun _ => rfl) h) ?_
      have q90 : (pj_fi G0 171 5).toInt = y1.toInt := by rw [show pj_fi G0 171 5 = y1 from hy1.symm]
      exact pj_X_rt rfl rfl ⟨_, rfl, hI, hK, pj_i32 _, rfl⟩
theorem fr_223x (G0 : pj_G) (hI : pj_Inv G0) (p : Int32) (c : Int32) : pj_Inv (F_223x G0 p c).2 ∧ pj_kpt kc_222x G0 (F_223x G0 p c).2 := by
  obtain ⟨v, G', -, y, -, i, j, r, e⟩ := ct_222x G0 hI p c
  rw [← e]
  exact ⟨i, j⟩
def kc_223x : pj_KT := ([(171, 33), (171, 34), (171, 35)], [171], [])
noncomputable def F_224x (G0 : pj_G) : pj_G := pj_nm (pj_wv G0 171 33 (.int (Int32.ofInt 0))) (fun G1 => pj_nm (pj_wv G1 171 34 (.int (Int32.ofInt 0))) (fun G2 => pj_nm (pj_wv G2 171 35 (.int (Int32.ofInt 0))) (fun G3 => G3)))
theorem F_224x_e (G0 : pj_G) : F_224x G0 = pj_nm (pj_wv G0 171 33 (.int (Int32.ofInt 0))) (fun G1 => pj_nm (pj_wv G1 171 34 (.int (Int32.ofInt 0))) (fun G2 => pj_nm (pj_wv G2 171 35 (.int (Int32.ofInt 0))) (fun G3 => G3))) := rfl
theorem ct_223x (G0 : pj_G) (hI : pj_Inv G0) : pj_Y 1 223 [.ref 171] G0 (fun v' G' => v' = none ∧ pj_Inv G' ∧ pj_kpt kc_223x G0 G' ∧ (G' = F_224x G0)) := by
  have c0_ : (Int32.ofInt 0).toInt = 0 := by decide
  refine pj_Y_X (M := pj_m223) rfl rfl (Nat.le_of_ble_eq_true rfl) ?_
  have hK : pj_kpt kc_223x G0 G0 := pj_kpt_r _ _
  show pj_X _ _ G0 0 [(0, .ref 171)] [] _
  rw [F_224x_e]
  refine pj_X_of (fun r h => pj_R_to (G0, 2, [(0, .ref 171)], [.int (Int32.ofInt 0), .ref 171], 0, 0) 2 3 (fun _ => rfl) h) ?_
  refine pj_X_of (fun r h => pj_T_pf hI rfl rfl rfl h) ?_
  show pj_X _ _ (pj_wv G0 171 33 (.int (Int32.ofInt 0))) 5 [(0, .ref 171)] [] _
  obtain ⟨G1, hG1⟩ : ∃ H, H = pj_wv G0 171 33 (.int (Int32.ofInt 0)) := ⟨_, rfl⟩
  have iG1 : pj_Inv G1 := by rw [hG1]; exact pj_Inv_wi hI (ci := 12) rfl (fun q hq => by cases hq)
  have kG1 : pj_kpt kc_223x G0 G1 := by rw [hG1]; exact pj_kpt_v hK rfl
  rw [← hG1]
  rw [pj_nm_e]
  refine pj_X_of (fun r h => pj_R_to (G1, 7, [(0, .ref 171)], [.int (Int32.ofInt 0), .ref 171], 0, 0) 7 3 (fun _ => rfl) h) ?_
  refine pj_X_of (fun r h => pj_T_pf iG1 rfl rfl rfl h) ?_
  show pj_X _ _ (pj_wv G1 171 34 (.int (Int32.ofInt 0))) 10 [(0, .ref 171)] [] _
  obtain ⟨G2, hG2⟩ : ∃ H, H = pj_wv G1 171 34 (.int (Int32.ofInt 0)) := ⟨_, rfl⟩
  have iG2 : pj_Inv G2 := by rw [hG2]; exact pj_Inv_wi iG1 (ci := 12) rfl (fun q hq => by cases hq)
  have kG2 : pj_kpt kc_223x G0 G2 := by rw [hG2]; exact pj_kpt_v kG1 rfl
  rw [← hG2]
  rw [pj_nm_e]
  refine pj_X_of (fun r h => pj_R_to (G2, 12, [(0, .ref 171)], [.int (Int32.ofInt 0), .ref 171], 0, 0) 12 3 (fun _ => rfl) h) ?_
  refine pj_X_of (fun r h => pj_T_pf iG2 rfl rfl rfl h) ?_
  show pj_X _ _ (pj_wv G2 171 35 (.int (Int32.ofInt 0))) 15 [(0, .ref 171)] [] _
  obtain ⟨G3, hG3⟩ : ∃ H, H = pj_wv G2 171 35 (.int (Int32.ofInt 0)) := ⟨_, rfl⟩
  have iG3 : pj_Inv G3 := by rw [hG3]; exact pj_Inv_wi iG2 (ci := 12) rfl (fun q hq => by cases hq)
  have kG3 : pj_kpt kc_223x G0 G3 := by rw [hG3]; exact pj_kpt_v kG2 rfl
  rw [← hG3]
  rw [pj_nm_e]
  exact pj_X_rt rfl rfl ⟨rfl, iG3, kG3, rfl⟩
theorem fr_224x (G0 : pj_G) (hI : pj_Inv G0) : pj_Inv (F_224x G0) ∧ pj_kpt kc_223x G0 (F_224x G0) := by
  obtain ⟨v, G', -, -, i, j, e⟩ := ct_223x G0 hI 
  rw [← e]
  exact ⟨i, j⟩
def kc_224x : pj_KT := ([(171, 33), (171, 34), (171, 35)], [171, 179], [179])
noncomputable def L_225x (G0 : pj_G) (fu : Nat) : Int32 → pj_G → pj_G := Nat.rec (motive := fun _ => Int32 → pj_G → pj_G) (fun _ G => G) (fun _ ih v1 G => pj_nm (pj_fi G 171 5) (fun y1 => cond (pj_c1 .ge v1 y1) (G) (pj_nm ((Int32.ofInt 4) * v1) (fun z3 => pj_nm (z3 + (Int32.ofInt 1)) (fun z4 => pj_nm (pj_ai G 179 z4.toInt.toNat) (fun z5 => cond (pj_c1 .le z5 0) (pj_nm (z3 + (Int32.ofInt 2)) (fun z7 => pj_nm (pj_ai G 179 z7.toInt.toNat) (fun z8 => pj_nm (pj_ai G 179 ((Int8.ofInt 30).toInt32).toInt.toNat) (fun z9 => cond (pj_c1 .ne z8 z9) (pj_nm (v1 + Int32.ofInt 1) (fun z11 => ih z11 G)) (pj_nm (pj_wa G 179 z7.toInt.toNat (Int32.ofInt (-1))) (fun G12 => pj_nm (z3 + (Int32.ofInt 0)) (fun z13 => pj_nm (pj_ai G12 179 z13.toInt.toNat) (fun z14 => cond (pj_c1 .ge z14 0) (pj_nm (pj_fi G12 171 34) (fun y16 => pj_nm ((Int32.ofInt 1) <<< (v1 &&& 31)) (fun z17 => pj_nm (y16 ||| z17) (fun z18 => pj_nm (pj_wv G12 171 34 (.int z18)) (fun G19 => pj_nm (pj_fi G19 171 35) (fun y20 => pj_nm (F_173x G19 (Int32.ofInt 1)) (fun y21 => pj_nm (y20 + y21) (fun z22 => pj_nm (pj_wv G19 171 35 (.int z22)) (fun G23 => pj_nm (pj_ai G23 179 ((Int8.ofInt 31).toInt32).toInt.toNat) (fun z24 => pj_nm (F_173x G23 (Int32.ofInt 1)) (fun y25 => pj_nm (z24 + y25) (fun z26 => pj_nm (pj_wa G23 179 ((Int8.ofInt 31).toInt32).toInt.toNat z26) (fun G27 => pj_nm (v1 + Int32.ofInt 1) (fun z28 => ih z28 G27)))))))))))))) (pj_nm (pj_ai G12 179 z4.toInt.toNat) (fun z29 => cond (pj_c1 .ne z29 0) (pj_nm (pj_fi G12 171 34) (fun y31 => pj_nm ((Int32.ofInt 1) <<< (v1 &&& 31)) (fun z32 => pj_nm (y31 ||| z32) (fun z33 => pj_nm (pj_wv G12 171 34 (.int z33)) (fun G34 => pj_nm (pj_fi G34 171 35) (fun y35 => pj_nm (F_173x G34 (Int32.ofInt 1)) (fun y36 => pj_nm (y35 + y36) (fun z37 => pj_nm (pj_wv G34 171 35 (.int z37)) (fun G38 => pj_nm (pj_ai G38 179 ((Int8.ofInt 31).toInt32).toInt.toNat) (fun z39 => pj_nm (F_173x G38 (Int32.ofInt 1)) (fun y40 => pj_nm (z39 + y40) (fun z41 => pj_nm (pj_wa G38 179 ((Int8.ofInt 31).toInt32).toInt.toNat z41) (fun G42 => pj_nm (v1 + Int32.ofInt 1) (fun z43 => ih z43 G42)))))))))))))) (pj_nm (pj_fi G12 171 34) (fun y44 => pj_nm (y44 ||| (Int32.ofInt 0)) (fun z45 => pj_nm (pj_wv G12 171 34 (.int z45)) (fun G46 => pj_nm (pj_fi G46 171 35) (fun y47 => pj_nm (F_173x G46 (Int32.ofInt 0)) (fun y48 => pj_nm (y47 + y48) (fun z49 => pj_nm (pj_wv G46 171 35 (.int z49)) (fun G50 => pj_nm (pj_ai G50 179 ((Int8.ofInt 31).toInt32).toInt.toNat) (fun z51 => pj_nm (F_173x G50 (Int32.ofInt 0)) (fun y52 => pj_nm (z51 + y52) (fun z53 => pj_nm (pj_wa G50 179 ((Int8.ofInt 31).toInt32).toInt.toNat z53) (fun G54 => pj_nm (v1 + Int32.ofInt 1) (fun z55 => ih z55 G54))))))))))))))))))))))) (pj_nm (z5 - (Int32.ofInt 1)) (fun z56 => pj_nm (pj_wa G 179 z4.toInt.toNat z56) (fun G57 => pj_nm (pj_fi G57 171 33) (fun y58 => pj_nm (pj_ai G57 179 z4.toInt.toNat) (fun z59 => cond (pj_c1 .ne z59 0) (pj_nm (y58 ||| (Int32.ofInt 0)) (fun z62 => pj_nm (pj_wv G57 171 33 (.int z62)) (fun G63 => pj_nm (z3 + (Int32.ofInt 2)) (fun z64 => pj_nm (pj_ai G63 179 z64.toInt.toNat) (fun z65 => pj_nm (pj_ai G63 179 ((Int8.ofInt 30).toInt32).toInt.toNat) (fun z66 => cond (pj_c1 .ne z65 z66) (pj_nm (v1 + Int32.ofInt 1) (fun z68 => ih z68 G63)) (pj_nm (pj_wa G63 179 z64.toInt.toNat (Int32.ofInt (-1))) (fun G69 => pj_nm (z3 + (Int32.ofInt 0)) (fun z70 => pj_nm (pj_ai G69 179 z70.toInt.toNat) (fun z71 => cond (pj_c1 .ge z71 0) (pj_nm (pj_fi G69 171 34) (fun y73 => pj_nm ((Int32.ofInt 1) <<< (v1 &&& 31)) (fun z74 => pj_nm (y73 ||| z74) (fun z75 => pj_nm (pj_wv G69 171 34 (.int z75)) (fun G76 => pj_nm (pj_fi G76 171 35) (fun y77 => pj_nm (F_173x G76 (Int32.ofInt 1)) (fun y78 => pj_nm (y77 + y78) (fun z79 => pj_nm (pj_wv G76 171 35 (.int z79)) (fun G80 => pj_nm (pj_ai G80 179 ((Int8.ofInt 31).toInt32).toInt.toNat) (fun z81 => pj_nm (F_173x G80 (Int32.ofInt 1)) (fun y82 => pj_nm (z81 + y82) (fun z83 => pj_nm (pj_wa G80 179 ((Int8.ofInt 31).toInt32).toInt.toNat z83) (fun G84 => pj_nm (v1 + Int32.ofInt 1) (fun z85 => ih z85 G84)))))))))))))) (pj_nm (pj_ai G69 179 z4.toInt.toNat) (fun z86 => cond (pj_c1 .ne z86 0) (pj_nm (pj_fi G69 171 34) (fun y88 => pj_nm ((Int32.ofInt 1) <<< (v1 &&& 31)) (fun z89 => pj_nm (y88 ||| z89) (fun z90 => pj_nm (pj_wv G69 171 34 (.int z90)) (fun G91 => pj_nm (pj_fi G91 171 35) (fun y92 => pj_nm (F_173x G91 (Int32.ofInt 1)) (fun y93 => pj_nm (y92 + y93) (fun z94 => pj_nm (pj_wv G91 171 35 (.int z94)) (fun G95 => pj_nm (pj_ai G95 179 ((Int8.ofInt 31).toInt32).toInt.toNat) (fun z96 => pj_nm (F_173x G95 (Int32.ofInt 1)) (fun y97 => pj_nm (z96 + y97) (fun z98 => pj_nm (pj_wa G95 179 ((Int8.ofInt 31).toInt32).toInt.toNat z98) (fun G99 => pj_nm (v1 + Int32.ofInt 1) (fun z100 => ih z100 G99)))))))))))))) (pj_nm (pj_fi G69 171 34) (fun y101 => pj_nm (y101 ||| (Int32.ofInt 0)) (fun z102 => pj_nm (pj_wv G69 171 34 (.int z102)) (fun G103 => pj_nm (pj_fi G103 171 35) (fun y104 => pj_nm (F_173x G103 (Int32.ofInt 0)) (fun y105 => pj_nm (y104 + y105) (fun z106 => pj_nm (pj_wv G103 171 35 (.int z106)) (fun G107 => pj_nm (pj_ai G107 179 ((Int8.ofInt 31).toInt32).toInt.toNat) (fun z108 => pj_nm (F_173x G107 (Int32.ofInt 0)) (fun y109 => pj_nm (z108 + y109) (fun z110 => pj_nm (pj_wa G107 179 ((Int8.ofInt 31).toInt32).toInt.toNat z110) (fun G111 => pj_nm (v1 + Int32.ofInt 1) (fun z112 => ih z112 G111))))))))))))))))))))))))) (pj_nm ((Int32.ofInt 1) <<< (v1 &&& 31)) (fun z113 => pj_nm (y58 ||| z113) (fun z114 => pj_nm (pj_wv G57 171 33 (.int z114)) (fun G115 => pj_nm (z3 + (Int32.ofInt 2)) (fun z116 => pj_nm (pj_ai G115 179 z116.toInt.toNat) (fun z117 => pj_nm (pj_ai G115 179 ((Int8.ofInt 30).toInt32).toInt.toNat) (fun z118 => cond (pj_c1 .ne z117 z118) (pj_nm (v1 + Int32.ofInt 1) (fun z120 => ih z120 G115)) (pj_nm (pj_wa G115 179 z116.toInt.toNat (Int32.ofInt (-1))) (fun G121 => pj_nm (z3 + (Int32.ofInt 0)) (fun z122 => pj_nm (pj_ai G121 179 z122.toInt.toNat) (fun z123 => cond (pj_c1 .ge z123 0) (pj_nm (pj_fi G121 171 34) (fun y125 => pj_nm (y125 ||| z113) (fun z126 => pj_nm (pj_wv G121 171 34 (.int z126)) (fun G127 => pj_nm (pj_fi G127 171 35) (fun y128 => pj_nm (F_173x G127 (Int32.ofInt 1)) (fun y129 => pj_nm (y128 + y129) (fun z130 => pj_nm (pj_wv G127 171 35 (.int z130)) (fun G131 => pj_nm (pj_ai G131 179 ((Int8.ofInt 31).toInt32).toInt.toNat) (fun z132 => pj_nm (F_173x G131 (Int32.ofInt 1)) (fun y133 => pj_nm (z132 + y133) (fun z134 => pj_nm (pj_wa G131 179 ((Int8.ofInt 31).toInt32).toInt.toNat z134) (fun G135 => pj_nm (v1 + Int32.ofInt 1) (fun z136 => ih z136 G135))))))))))))) (pj_nm (pj_ai G121 179 z4.toInt.toNat) (fun z137 => cond (pj_c1 .ne z137 0) (pj_nm (pj_fi G121 171 34) (fun y139 => pj_nm (y139 ||| z113) (fun z140 => pj_nm (pj_wv G121 171 34 (.int z140)) (fun G141 => pj_nm (pj_fi G141 171 35) (fun y142 => pj_nm (F_173x G141 (Int32.ofInt 1)) (fun y143 => pj_nm (y142 + y143) (fun z144 => pj_nm (pj_wv G141 171 35 (.int z144)) (fun G145 => pj_nm (pj_ai G145 179 ((Int8.ofInt 31).toInt32).toInt.toNat) (fun z146 => pj_nm (F_173x G145 (Int32.ofInt 1)) (fun y147 => pj_nm (z146 + y147) (fun z148 => pj_nm (pj_wa G145 179 ((Int8.ofInt 31).toInt32).toInt.toNat z148) (fun G149 => pj_nm (v1 + Int32.ofInt 1) (fun z150 => ih z150 G149))))))))))))) (pj_nm (pj_fi G121 171 34) (fun y151 => pj_nm (y151 ||| (Int32.ofInt 0)) (fun z152 => pj_nm (pj_wv G121 171 34 (.int z152)) (fun G153 => pj_nm (pj_fi G153 171 35) (fun y154 => pj_nm (F_173x G153 (Int32.ofInt 0)) (fun y155 => pj_nm (y154 + y155) (fun z156 => pj_nm (pj_wv G153 171 35 (.int z156)) (fun G157 => pj_nm (pj_ai G157 179 ((Int8.ofInt 31).toInt32).toInt.toNat) (fun z158 => pj_nm (F_173x G157 (Int32.ofInt 0)) (fun y159 => pj_nm (z158 + y159) (fun z160 => pj_nm (pj_wa G157 179 ((Int8.ofInt 31).toInt32).toInt.toNat z160) (fun G161 => pj_nm (v1 + Int32.ofInt 1) (fun z162 => ih z162 G161))))))))))))))))))))))))))))))))))))) fu
theorem L_225x_s0 (G0 : pj_G) (fu : Nat) (v1 : Int32) (G : pj_G) : L_225x G0 (fu + 1) v1 G = pj_nm (pj_fi G 171 5) (fun y1 => cond (pj_c1 .ge v1 y1) (G) (pj_nm ((Int32.ofInt 4) * v1) (fun z3 => pj_nm (z3 + (Int32.ofInt 1)) (fun z4 => pj_nm (pj_ai G 179 z4.toInt.toNat) (fun z5 => cond (pj_c1 .le z5 0) (pj_nm (z3 + (Int32.ofInt 2)) (fun z7 => pj_nm (pj_ai G 179 z7.toInt.toNat) (fun z8 => pj_nm (pj_ai G 179 ((Int8.ofInt 30).toInt32).toInt.toNat) (fun z9 => cond (pj_c1 .ne z8 z9) (pj_nm (v1 + Int32.ofInt 1) (fun z11 => L_225x G0 fu z11 G)) (pj_nm (pj_wa G 179 z7.toInt.toNat (Int32.ofInt (-1))) (fun G12 => pj_nm (z3 + (Int32.ofInt 0)) (fun z13 => pj_nm (pj_ai G12 179 z13.toInt.toNat) (fun z14 => cond (pj_c1 .ge z14 0) (pj_nm (pj_fi G12 171 34) (fun y16 => pj_nm ((Int32.ofInt 1) <<< (v1 &&& 31)) (fun z17 => pj_nm (y16 ||| z17) (fun z18 => pj_nm (pj_wv G12 171 34 (.int z18)) (fun G19 => pj_nm (pj_fi G19 171 35) (fun y20 => pj_nm (F_173x G19 (Int32.ofInt 1)) (fun y21 => pj_nm (y20 + y21) (fun z22 => pj_nm (pj_wv G19 171 35 (.int z22)) (fun G23 => pj_nm (pj_ai G23 179 ((Int8.ofInt 31).toInt32).toInt.toNat) (fun z24 => pj_nm (F_173x G23 (Int32.ofInt 1)) (fun y25 => pj_nm (z24 + y25) (fun z26 => pj_nm (pj_wa G23 179 ((Int8.ofInt 31).toInt32).toInt.toNat z26) (fun G27 => pj_nm (v1 + Int32.ofInt 1) (fun z28 => L_225x G0 fu z28 G27)))))))))))))) (pj_nm (pj_ai G12 179 z4.toInt.toNat) (fun z29 => cond (pj_c1 .ne z29 0) (pj_nm (pj_fi G12 171 34) (fun y31 => pj_nm ((Int32.ofInt 1) <<< (v1 &&& 31)) (fun z32 => pj_nm (y31 ||| z32) (fun z33 => pj_nm (pj_wv G12 171 34 (.int z33)) (fun G34 => pj_nm (pj_fi G34 171 35) (fun y35 => pj_nm (F_173x G34 (Int32.ofInt 1)) (fun y36 => pj_nm (y35 + y36) (fun z37 => pj_nm (pj_wv G34 171 35 (.int z37)) (fun G38 => pj_nm (pj_ai G38 179 ((Int8.ofInt 31).toInt32).toInt.toNat) (fun z39 => pj_nm (F_173x G38 (Int32.ofInt 1)) (fun y40 => pj_nm (z39 + y40) (fun z41 => pj_nm (pj_wa G38 179 ((Int8.ofInt 31).toInt32).toInt.toNat z41) (fun G42 => pj_nm (v1 + Int32.ofInt 1) (fun z43 => L_225x G0 fu z43 G42)))))))))))))) (pj_nm (pj_fi G12 171 34) (fun y44 => pj_nm (y44 ||| (Int32.ofInt 0)) (fun z45 => pj_nm (pj_wv G12 171 34 (.int z45)) (fun G46 => pj_nm (pj_fi G46 171 35) (fun y47 => pj_nm (F_173x G46 (Int32.ofInt 0)) (fun y48 => pj_nm (y47 + y48) (fun z49 => pj_nm (pj_wv G46 171 35 (.int z49)) (fun G50 => pj_nm (pj_ai G50 179 ((Int8.ofInt 31).toInt32).toInt.toNat) (fun z51 => pj_nm (F_173x G50 (Int32.ofInt 0)) (fun y52 => pj_nm (z51 + y52) (fun z53 => pj_nm (pj_wa G50 179 ((Int8.ofInt 31).toInt32).toInt.toNat z53) (fun G54 => pj_nm (v1 + Int32.ofInt 1) (fun z55 => L_225x G0 fu z55 G54))))))))))))))))))))))) (pj_nm (z5 - (Int32.ofInt 1)) (fun z56 => pj_nm (pj_wa G 179 z4.toInt.toNat z56) (fun G57 => pj_nm (pj_fi G57 171 33) (fun y58 => pj_nm (pj_ai G57 179 z4.toInt.toNat) (fun z59 => cond (pj_c1 .ne z59 0) (pj_nm (y58 ||| (Int32.ofInt 0)) (fun z62 => pj_nm (pj_wv G57 171 33 (.int z62)) (fun G63 => pj_nm (z3 + (Int32.ofInt 2)) (fun z64 => pj_nm (pj_ai G63 179 z64.toInt.toNat) (fun z65 => pj_nm (pj_ai G63 179 ((Int8.ofInt 30).toInt32).toInt.toNat) (fun z66 => cond (pj_c1 .ne z65 z66) (pj_nm (v1 + Int32.ofInt 1) (fun z68 => L_225x G0 fu z68 G63)) (pj_nm (pj_wa G63 179 z64.toInt.toNat (Int32.ofInt (-1))) (fun G69 => pj_nm (z3 + (Int32.ofInt 0)) (fun z70 => pj_nm (pj_ai G69 179 z70.toInt.toNat) (fun z71 => cond (pj_c1 .ge z71 0) (pj_nm (pj_fi G69 171 34) (fun y73 => pj_nm ((Int32.ofInt 1) <<< (v1 &&& 31)) (fun z74 => pj_nm (y73 ||| z74) (fun z75 => pj_nm (pj_wv G69 171 34 (.int z75)) (fun G76 => pj_nm (pj_fi G76 171 35) (fun y77 => pj_nm (F_173x G76 (Int32.ofInt 1)) (fun y78 => pj_nm (y77 + y78) (fun z79 => pj_nm (pj_wv G76 171 35 (.int z79)) (fun G80 => pj_nm (pj_ai G80 179 ((Int8.ofInt 31).toInt32).toInt.toNat) (fun z81 => pj_nm (F_173x G80 (Int32.ofInt 1)) (fun y82 => pj_nm (z81 + y82) (fun z83 => pj_nm (pj_wa G80 179 ((Int8.ofInt 31).toInt32).toInt.toNat z83) (fun G84 => pj_nm (v1 + Int32.ofInt 1) (fun z85 => L_225x G0 fu z85 G84)))))))))))))) (pj_nm (pj_ai G69 179 z4.toInt.toNat) (fun z86 => cond (pj_c1 .ne z86 0) (pj_nm (pj_fi G69 171 34) (fun y88 => pj_nm ((Int32.ofInt 1) <<< (v1 &&& 31)) (fun z89 => pj_nm (y88 ||| z89) (fun z90 => pj_nm (pj_wv G69 171 34 (.int z90)) (fun G91 => pj_nm (pj_fi G91 171 35) (fun y92 => pj_nm (F_173x G91 (Int32.ofInt 1)) (fun y93 => pj_nm (y92 + y93) (fun z94 => pj_nm (pj_wv G91 171 35 (.int z94)) (fun G95 => pj_nm (pj_ai G95 179 ((Int8.ofInt 31).toInt32).toInt.toNat) (fun z96 => pj_nm (F_173x G95 (Int32.ofInt 1)) (fun y97 => pj_nm (z96 + y97) (fun z98 => pj_nm (pj_wa G95 179 ((Int8.ofInt 31).toInt32).toInt.toNat z98) (fun G99 => pj_nm (v1 + Int32.ofInt 1) (fun z100 => L_225x G0 fu z100 G99)))))))))))))) (pj_nm (pj_fi G69 171 34) (fun y101 => pj_nm (y101 ||| (Int32.ofInt 0)) (fun z102 => pj_nm (pj_wv G69 171 34 (.int z102)) (fun G103 => pj_nm (pj_fi G103 171 35) (fun y104 => pj_nm (F_173x G103 (Int32.ofInt 0)) (fun y105 => pj_nm (y104 + y105) (fun z106 => pj_nm (pj_wv G103 171 35 (.int z106)) (fun G107 => pj_nm (pj_ai G107 179 ((Int8.ofInt 31).toInt32).toInt.toNat) (fun z108 => pj_nm (F_173x G107 (Int32.ofInt 0)) (fun y109 => pj_nm (z108 + y109) (fun z110 => pj_nm (pj_wa G107 179 ((Int8.ofInt 31).toInt32).toInt.toNat z110) (fun G111 => pj_nm (v1 + Int32.ofInt 1) (fun z112 => L_225x G0 fu z112 G111))))))))))))))))))))))))) (pj_nm ((Int32.ofInt 1) <<< (v1 &&& 31)) (fun z113 => pj_nm (y58 ||| z113) (fun z114 => pj_nm (pj_wv G57 171 33 (.int z114)) (fun G115 => pj_nm (z3 + (Int32.ofInt 2)) (fun z116 => pj_nm (pj_ai G115 179 z116.toInt.toNat) (fun z117 => pj_nm (pj_ai G115 179 ((Int8.ofInt 30).toInt32).toInt.toNat) (fun z118 => cond (pj_c1 .ne z117 z118) (pj_nm (v1 + Int32.ofInt 1) (fun z120 => L_225x G0 fu z120 G115)) (pj_nm (pj_wa G115 179 z116.toInt.toNat (Int32.ofInt (-1))) (fun G121 => pj_nm (z3 + (Int32.ofInt 0)) (fun z122 => pj_nm (pj_ai G121 179 z122.toInt.toNat) (fun z123 => cond (pj_c1 .ge z123 0) (pj_nm (pj_fi G121 171 34) (fun y125 => pj_nm (y125 ||| z113) (fun z126 => pj_nm (pj_wv G121 171 34 (.int z126)) (fun G127 => pj_nm (pj_fi G127 171 35) (fun y128 => pj_nm (F_173x G127 (Int32.ofInt 1)) (fun y129 => pj_nm (y128 + y129) (fun z130 => pj_nm (pj_wv G127 171 35 (.int z130)) (fun G131 => pj_nm (pj_ai G131 179 ((Int8.ofInt 31).toInt32).toInt.toNat) (fun z132 => pj_nm (F_173x G131 (Int32.ofInt 1)) (fun y133 => pj_nm (z132 + y133) (fun z134 => pj_nm (pj_wa G131 179 ((Int8.ofInt 31).toInt32).toInt.toNat z134) (fun G135 => pj_nm (v1 + Int32.ofInt 1) (fun z136 => L_225x G0 fu z136 G135))))))))))))) (pj_nm (pj_ai G121 179 z4.toInt.toNat) (fun z137 => cond (pj_c1 .ne z137 0) (pj_nm (pj_fi G121 171 34) (fun y139 => pj_nm (y139 ||| z113) (fun z140 => pj_nm (pj_wv G121 171 34 (.int z140)) (fun G141 => pj_nm (pj_fi G141 171 35) (fun y142 => pj_nm (F_173x G141 (Int32.ofInt 1)) (fun y143 => pj_nm (y142 + y143) (fun z144 => pj_nm (pj_wv G141 171 35 (.int z144)) (fun G145 => pj_nm (pj_ai G145 179 ((Int8.ofInt 31).toInt32).toInt.toNat) (fun z146 => pj_nm (F_173x G145 (Int32.ofInt 1)) (fun y147 => pj_nm (z146 + y147) (fun z148 => pj_nm (pj_wa G145 179 ((Int8.ofInt 31).toInt32).toInt.toNat z148) (fun G149 => pj_nm (v1 + Int32.ofInt 1) (fun z150 => L_225x G0 fu z150 G149))))))))))))) (pj_nm (pj_fi G121 171 34) (fun y151 => pj_nm (y151 ||| (Int32.ofInt 0)) (fun z152 => pj_nm (pj_wv G121 171 34 (.int z152)) (fun G153 => pj_nm (pj_fi G153 171 35) (fun y154 => pj_nm (F_173x G153 (Int32.ofInt 0)) (fun y155 => pj_nm (y154 + y155) (fun z156 => pj_nm (pj_wv G153 171 35 (.int z156)) (fun G157 => pj_nm (pj_ai G157 179 ((Int8.ofInt 31).toInt32).toInt.toNat) (fun z158 => pj_nm (F_173x G157 (Int32.ofInt 0)) (fun y159 => pj_nm (z158 + y159) (fun z160 => pj_nm (pj_wa G157 179 ((Int8.ofInt 31).toInt32).toInt.toNat z160) (fun G161 => pj_nm (v1 + Int32.ofInt 1) (fun z162 => L_225x G0 fu z162 G161)))))))))))))))))))))))))))))))))))) := rfl
noncomputable def F_225x (G0 : pj_G) : pj_G := pj_nm (pj_ai G0 179 ((Int8.ofInt 30).toInt32).toInt.toNat) (fun z163 => pj_nm (z163 + (Int32.ofInt 1)) (fun z164 => pj_nm (pj_wa G0 179 ((Int8.ofInt 30).toInt32).toInt.toNat z164) (fun G165 => L_225x G0 7 (Int32.ofInt 0) G165)))
theorem F_225x_e (G0 : pj_G) : F_225x G0 = pj_nm (pj_ai G0 179 ((Int8.ofInt 30).toInt32).toInt.toNat) (fun z163 => pj_nm (z163 + (Int32.ofInt 1)) (fun z164 => pj_nm (pj_wa G0 179 ((Int8.ofInt 30).toInt32).toInt.toNat z164) (fun G165 => L_225x G0 7 (Int32.ofInt 0) G165))) := rfl
theorem lp_ct_224x (G0 : pj_G) (hI0 : pj_Inv G0) : ∀ mn : Nat, (∀ (G : pj_G) (hI : pj_Inv G) (hK : pj_kpt kc_224x G0 G) (v1 : Int32), ((0 : Int) ≤ v1.toInt ∧ v1.toInt ≤ 6) → 6 - v1.toInt < (mn : Int) → pj_X 1 pj_m224 G 13 [(0, .ref 171), (1, .int v1)] [] (fun v' G' => v' = none ∧ pj_Inv G' ∧ pj_kpt kc_224x G0 G' ∧ (G' = L_225x G0 mn v1 G))) := by
  have c0_ : ((Int8.ofInt 30).toInt32).toInt = 30 := by decide
  have c1_ : ((Int8.ofInt 31).toInt32).toInt = 31 := by decide
  have c2_ : (Int32.ofInt (-1)).toInt = -1 := by decide
  have c3_ : (Int32.ofInt 0).toInt = 0 := by decide
  have c4_ : (Int32.ofInt 1).toInt = 1 := by decide
  have c5_ : (Int32.ofInt 2).toInt = 2 := by decide
  have c6_ : (Int32.ofInt 4).toInt = 4 := by decide
  intro mn
  induction mn with
  | zero =>
    intro G hI hK v1 rv1 hm
    exfalso
    omega
  | succ mn ih =>
    intro G hI hK v1 rv1 hm
    rw [L_225x_s0]
    refine pj_X_of (fun r h => pj_R_to (G, 15, [(0, .ref 171), (1, .int v1)], [.ref 171, .int v1], 0, 0) 15 3 (fun _ => rfl) h) ?_
    refine pj_X_of (fun r h => pj_T_gi hI rfl rfl h) ?_
    show pj_X _ _ G 18 [(0, .ref 171), (1, .int v1)] [.int (pj_fi G 171 5), .int v1] _
    obtain ⟨y1, hy1⟩ : ∃ z : Int32, z = pj_fi G 171 5 := ⟨_, rfl⟩
    refine pj_X_eqi hy1.symm ?_
    rw [← hy1, pj_nm_e]
    have ey1 : (pj_fi G 171 5).toInt = y1.toInt := by rw [hy1]
    have ry1 : (0 : Int) ≤ y1.toInt ∧ y1.toInt ≤ 6 := by rw [hy1]; exact hI.2.1 171 5 (0, 6) rfl
    cases b2 : pj_c1 .ge v1 y1 with
    | true =>
      rw [pj_cT]
      have ub2 := pj_u_geT b2
      refine pj_X_of (fun r h => pj_R_icT 199 rfl rfl b2 h) ?_
      exact pj_X_rt rfl rfl ⟨rfl, hI, hK, rfl⟩
    | false =>
      rw [pj_cF]
      have ub2 := pj_u_geF b2
      refine pj_X_of (fun r h => pj_R_icF rfl b2 h) ?_
      refine pj_X_of (fun r h => pj_R_to (G, 24, [(0, .ref 171), (1, .int v1)], [.int ((Int32.ofInt 4) * v1)], 0, 0) 24 4 (fun _ => rfl) h) ?_
      obtain ⟨z3, hz3⟩ : ∃ z : Int32, z = (Int32.ofInt 4) * v1 := ⟨_, rfl⟩
      refine pj_X_eqi hz3.symm ?_
      rw [← hz3, pj_nm_e]
      have fz3_0 : z3.toInt = 4 * v1.toInt := by rw [hz3]; exact pj_mulL (by decide) (by omega) (by omega)
      refine pj_X_of (fun r h => pj_R_to (G, 26, [(2, .int z3), (0, .ref 171), (1, .int v1)], [.ref 171], 0, 0) 26 3 (fun _ => rfl) h) ?_
      refine pj_X_of (fun r h => pj_T_gr hI rfl rfl rfl h) ?_
      refine pj_X_of (fun r h => pj_R_to (G, 32, [(2, .int z3), (0, .ref 171), (1, .int v1)], [.int (z3 + (Int32.ofInt 1)), .ref 179], 0, 0) 32 4 (fun _ => rfl) h) ?_
      obtain ⟨z4, hz4⟩ : ∃ z : Int32, z = z3 + (Int32.ofInt 1) := ⟨_, rfl⟩
      refine pj_X_eqi hz4.symm ?_
      rw [← hz4, pj_nm_e]
      have fz4_0 : z4.toInt = z3.toInt + (Int32.ofInt 1).toInt := by rw [hz4]; exact pj_addI (by have := pj_i32 z3; have := pj_i32 (Int32.ofInt 1); omega) (by have := pj_i32 z3; have := pj_i32 (Int32.ofInt 1); omega)
      refine pj_X_of (fun r h => pj_T_il hI rfl rfl (by omega) (by omega) h) ?_
      show pj_X _ _ G 33 [(2, .int z3), (0, .ref 171), (1, .int v1)] [.int (pj_ai G 179 z4.toInt.toNat)] _
      obtain ⟨z5, hz5⟩ : ∃ z : Int32, z = pj_ai G 179 z4.toInt.toNat := ⟨_, rfl⟩
      refine pj_X_eqi hz5.symm ?_
      rw [← hz5, pj_nm_e]
      have ez5 : (pj_ai G 179 z4.toInt.toNat).toInt = z5.toInt := by rw [hz5]
      have fz5_0 : 0 ≤ z5.toInt := by rw [hz5]; exact ((hI.2.2.2 179 32 rfl _ (by show _ < 32; omega)).1 (by omega)).2 (by omega)
      cases b6 : pj_c1 .le z5 0 with
      | true =>
        rw [pj_cT]
        have ub6 := pj_u0_leT b6
        refine pj_X_of (fun r h => pj_R_ifT 75 rfl rfl b6 h) ?_
        refine pj_X_of (fun r h => pj_R_to (G, 76, [(2, .int z3), (0, .ref 171), (1, .int v1)], [.ref 171], 0, 0) 76 2 (fun _ => rfl) h) ?_
        refine pj_X_of (fun r h => pj_T_gr hI rfl rfl rfl h) ?_
        refine pj_X_of (fun r h => pj_R_to (G, 82, [(2, .int z3), (0, .ref 171), (1, .int v1)], [.int (z3 + (Int32.ofInt 2)), .ref 179], 0, 0) 82 4 (fun _ => rfl) h) ?_
        obtain ⟨z7, hz7⟩ : ∃ z : Int32, z = z3 + (Int32.ofInt 2) := ⟨_, rfl⟩
        refine pj_X_eqi hz7.symm ?_
        rw [← hz7, pj_nm_e]
        have fz7_0 : z7.toInt = z3.toInt + (Int32.ofInt 2).toInt := by rw [hz7]; exact pj_addI (by have := pj_i32 z3; have := pj_i32 (Int32.ofInt 2); omega) (by have := pj_i32 z3; have := pj_i32 (Int32.ofInt 2); omega)
        refine pj_X_of (fun r h => pj_T_il hI rfl rfl (by omega) (by omega) h) ?_
        show pj_X _ _ G 83 [(2, .int z3), (0, .ref 171), (1, .int v1)] [.int (pj_ai G 179 z7.toInt.toNat)] _
        obtain ⟨z8, hz8⟩ : ∃ z : Int32, z = pj_ai G 179 z7.toInt.toNat := ⟨_, rfl⟩
        refine pj_X_eqi hz8.symm ?_
        rw [← hz8, pj_nm_e]
        have ez8 : (pj_ai G 179 z7.toInt.toNat).toInt = z8.toInt := by rw [hz8]
        refine pj_X_of (fun r h => pj_R_to (G, 84, [(2, .int z3), (0, .ref 171), (1, .int v1)], [.ref 171, .int z8], 0, 0) 84 2 (fun _ => rfl) h) ?_
        refine pj_X_of (fun r h => pj_T_gr hI rfl rfl rfl h) ?_
        refine pj_X_of (fun r h => pj_R_to (G, 89, [(2, .int z3), (0, .ref 171), (1, .int v1)], [.int ((Int8.ofInt 30).toInt32), .ref 179, .int z8], 0, 0) 89 2 (fun _ => rfl) h) ?_
        refine pj_X_of (fun r h => pj_T_il hI rfl rfl (by omega) (by omega) h) ?_
        show pj_X _ _ G 90 [(2, .int z3), (0, .ref 171), (1, .int v1)] [.int (pj_ai G 179 ((Int8.ofInt 30).toInt32).toInt.toNat), .int z8] _
        obtain ⟨z9, hz9⟩ : ∃ z : Int32, z = pj_ai G 179 ((Int8.ofInt 30).toInt32).toInt.toNat := ⟨_, rfl⟩
        refine pj_X_eqi hz9.symm ?_
        rw [← hz9, pj_nm_e]
        have ez9 : (pj_ai G 179 ((Int8.ofInt 30).toInt32).toInt.toNat).toInt = z9.toInt := by rw [hz9]
        cases b10 : pj_c1 .ne z8 z9 with
        | true =>
          rw [pj_cT]
          have ub10 := pj_u_neT b10
          refine pj_X_of (fun r h => pj_R_icT 193 rfl rfl b10 h) ?_
          refine pj_X_of (fun r h => pj_R_to (G, 196, [(1, .int (v1 + Int32.ofInt 1)), (2, .int z3), (0, .ref 171)], [], 0, 0) 196 2 (fun _ => rfl) h) ?_
          obtain ⟨z11, hz11⟩ : ∃ z : Int32, z = v1 + Int32.ofInt 1 := ⟨_, rfl⟩
          rw [← hz11]
          rw [pj_nm_e]
          have fz11_0 : z11.toInt = v1.toInt + (Int32.ofInt 1).toInt := by rw [hz11]; exact pj_addI (by have := pj_i32 v1; have := pj_i32 (Int32.ofInt 1); omega) (by have := pj_i32 v1; have := pj_i32 (Int32.ofInt 1); omega)
          refine pj_X_of (fun r h => pj_R_to (G, 13, [(1, .int z11), (2, .int z3), (0, .ref 171)], [], 0, 0) 13 2 (fun _ => rfl) h) ?_
          exact pj_X_sub [(0, .ref 171), (1, .int z11)] (show List.Nodup [0, 1] by decide) ⟨rfl, rfl, trivial⟩ (ih G hI hK z11 ⟨by omega, by omega⟩ (by omega))
        | false =>
          rw [pj_cF]
          have ub10 := pj_u_neF b10
          refine pj_X_of (fun r h => pj_R_icF rfl b10 h) ?_
          refine pj_X_of (fun r h => pj_R_to (G, 94, [(2, .int z3), (0, .ref 171), (1, .int v1)], [.ref 171], 0, 0) 94 2 (fun _ => rfl) h) ?_
          refine pj_X_of (fun r h => pj_T_gr hI rfl rfl rfl h) ?_
          refine pj_X_of (fun r h => pj_R_to (G, 100, [(2, .int z3), (0, .ref 171), (1, .int v1)], [.int (z3 + (Int32.ofInt 2)), .ref 179], 0, 0) 100 4 (fun _ => rfl) h) ?_
          refine pj_X_eqi hz7.symm ?_
          refine pj_X_of (fun r h => pj_R_to (G, 101, [(2, .int z3), (0, .ref 171), (1, .int v1)], [.int (Int32.ofInt (-1)), .int z7, .ref 179], 0, 0) 101 2 (fun _ => rfl) h) ?_
          refine pj_X_of (fun r h => pj_T_is hI rfl rfl (by omega) (by omega) h) ?_
          show pj_X _ _ (pj_wa G 179 z7.toInt.toNat (Int32.ofInt (-1))) 102 [(2, .int z3), (0, .ref 171), (1, .int v1)] [] _
          obtain ⟨G12, hG12⟩ : ∃ H, H = pj_wa G 179 z7.toInt.toNat (Int32.ofInt (-1)) := ⟨_, rfl⟩
          have iG12 : pj_Inv G12 := by rw [hG12]; exact pj_Inv_wa hI rfl (fun q hq => by cases hq) (fun n hn => ⟨fun h1 => ⟨fun h2 => by omega, fun h2 => by omega⟩, fun h1 => by omega⟩)
          have kG12 : pj_kpt kc_224x G0 G12 := by rw [hG12]; exact pj_kpt_a hK rfl
          rw [← hG12]
          rw [pj_nm_e]
          refine pj_X_of (fun r h => pj_R_to (G12, 103, [(2, .int z3), (0, .ref 171), (1, .int v1)], [.ref 171], 0, 0) 103 2 (fun _ => rfl) h) ?_
          refine pj_X_of (fun r h => pj_T_gr iG12 rfl rfl rfl h) ?_
          refine pj_X_of (fun r h => pj_R_to (G12, 109, [(2, .int z3), (0, .ref 171), (1, .int v1)], [.int (z3 + (Int32.ofInt 0)), .ref 179], 0, 0) 109 4 (fun _ => rfl) h) ?_
          obtain ⟨z13, hz13⟩ : ∃ z : Int32, z = z3 + (Int32.ofInt 0) := ⟨_, rfl⟩
          refine pj_X_eqi hz13.symm ?_
          rw [← hz13, pj_nm_e]
          have fz13_0 : z13.toInt = z3.toInt + (Int32.ofInt 0).toInt := by rw [hz13]; exact pj_addI (by have := pj_i32 z3; have := pj_i32 (Int32.ofInt 0); omega) (by have := pj_i32 z3; have := pj_i32 (Int32.ofInt 0); omega)
          refine pj_X_of (fun r h => pj_T_il iG12 rfl rfl (by omega) (by omega) h) ?_
          show pj_X _ _ G12 110 [(2, .int z3), (0, .ref 171), (1, .int v1)] [.int (pj_ai G12 179 z13.toInt.toNat)] _
          obtain ⟨z14, hz14⟩ : ∃ z : Int32, z = pj_ai G12 179 z13.toInt.toNat := ⟨_, rfl⟩
          refine pj_X_eqi hz14.symm ?_
          rw [← hz14, pj_nm_e]
          have ez14 : (pj_ai G12 179 z13.toInt.toNat).toInt = z14.toInt := by rw [hz14]
          have fz14_0 : -1 ≤ z14.toInt ∧ z14.toInt ≤ 9 := by rw [hz14]; exact ((iG12.2.2.2 179 32 rfl _ (by show _ < 32; omega)).1 (by omega)).1 (by omega)
          cases b15 : pj_c1 .ge z14 0 with
          | true =>
            rw [pj_cT]
            have ub15 := pj_u0_geT b15
            refine pj_X_of (fun r h => pj_R_ifT 128 rfl rfl b15 h) ?_
            refine pj_X_of (fun r h => pj_R_to (G12, 132, [(3, .int (Int32.ofInt 0)), (2, .int z3), (0, .ref 171), (1, .int v1)], [.ref 171, .ref 171], 0, 0) 132 5 (fun _ => rfl) h) ?_
            refine pj_X_of (fun r h => pj_T_gi iG12 rfl rfl h) ?_
            show pj_X _ _ G12 135 [(3, .int (Int32.ofInt 0)), (2, .int z3), (0, .ref 171), (1, .int v1)] [.int (pj_fi G12 171 34), .ref 171] _
            obtain ⟨y16, hy16⟩ : ∃ z : Int32, z = pj_fi G12 171 34 := ⟨_, rfl⟩
            refine pj_X_eqi hy16.symm ?_
            rw [← hy16, pj_nm_e]
            have ey16 : (pj_fi G12 171 34).toInt = y16.toInt := by rw [hy16]
            refine pj_X_of (fun r h => pj_R_to (G12, 136, [(3, .int (Int32.ofInt 0)), (2, .int z3), (0, .ref 171), (1, .int v1)], [.int (Int32.ofInt 0), .int y16, .ref 171], 0, 0) 136 2 (fun _ => rfl) h) ?_
            refine pj_X_of (fun r h => pj_R_ifT 143 rfl rfl (pj_b0_eqT (by omega)) h) ?_
            refine pj_X_of (fun r h => pj_R_to (G12, 146, [(3, .int (Int32.ofInt 0)), (2, .int z3), (0, .ref 171), (1, .int v1)], [.int ((Int32.ofInt 1) <<< (v1 &&& 31)), .int y16, .ref 171], 0, 0) 146 4 (fun _ => rfl) h) ?_
            obtain ⟨z17, hz17⟩ : ∃ z : Int32, z = (Int32.ofInt 1) <<< (v1 &&& 31) := ⟨_, rfl⟩
            refine pj_X_eqi hz17.symm ?_
            rw [← hz17, pj_nm_e]
            have fz17_0 : 1 ≤ z17.toInt ∧ z17.toInt ≤ 32 := by rw [hz17]; exact pj_shlI5 (by omega) (by omega)
            refine pj_X_of (fun r h => pj_R_to (G12, 147, [(3, .int (Int32.ofInt 0)), (2, .int z3), (0, .ref 171), (1, .int v1)], [.int (y16 ||| z17), .ref 171], 0, 0) 147 2 (fun _ => rfl) h) ?_
            obtain ⟨z18, hz18⟩ : ∃ z : Int32, z = y16 ||| z17 := ⟨_, rfl⟩
            refine pj_X_eqi hz18.symm ?_
            rw [← hz18, pj_nm_e]
            refine pj_X_of (fun r h => pj_T_pf iG12 rfl rfl rfl h) ?_
            show pj_X _ _ (pj_wv G12 171 34 (.int z18)) 150 [(3, .int (Int32.ofInt 0)), (2, .int z3), (0, .ref 171), (1, .int v1)] [] _
            obtain ⟨G19, hG19⟩ : ∃ H, H = pj_wv G12 171 34 (.int z18) := ⟨_, rfl⟩
            have iG19 : pj_Inv G19 := by rw [hG19]; exact pj_Inv_wi iG12 (ci := 12) rfl (fun q hq => by cases hq)
            have kG19 : pj_kpt kc_224x G0 G19 := by rw [hG19]; exact pj_kpt_v kG12 rfl
            rw [← hG19]
            rw [pj_nm_e]
            refine pj_X_of (fun r h => pj_R_to (G19, 152, [(3, .int (Int32.ofInt 0)), (2, .int z3), (0, .ref 171), (1, .int v1)], [.ref 171, .ref 171], 0, 0) 152 3 (fun _ => rfl) h) ?_
            refine pj_X_of (fun r h => pj_T_gi iG19 rfl rfl h) ?_
            show pj_X _ _ G19 155 [(3, .int (Int32.ofInt 0)), (2, .int z3), (0, .ref 171), (1, .int v1)] [.int (pj_fi G19 171 35), .ref 171] _
            obtain ⟨y20, hy20⟩ : ∃ z : Int32, z = pj_fi G19 171 35 := ⟨_, rfl⟩
            refine pj_X_eqi hy20.symm ?_
            rw [← hy20, pj_nm_e]
            have ey20 : (pj_fi G19 171 35).toInt = y20.toInt := by rw [hy20]
            refine pj_X_of (fun r h => pj_R_to (G19, 156, [(3, .int (Int32.ofInt 0)), (2, .int z3), (0, .ref 171), (1, .int v1)], [.int (Int32.ofInt 0), .int y20, .ref 171], 0, 0) 156 2 (fun _ => rfl) h) ?_
            refine pj_X_of (fun r h => pj_R_ifF rfl (pj_b0_neF (by omega)) h) ?_
            refine pj_X_of (fun r h => pj_R_to (G19, 164, [(3, .int (Int32.ofInt 0)), (2, .int z3), (0, .ref 171), (1, .int v1)], [.int (Int32.ofInt 1), .int y20, .ref 171], 0, 0) 164 3 (fun _ => rfl) h) ?_
            refine pj_X_ca (vs := [.int (Int32.ofInt 1)]) rfl (fun _ => rfl) ⟨Nat.le_of_ble_eq_true rfl, Nat.le_of_ble_eq_true rfl, rfl⟩ ⟨rfl, rfl⟩ (pj_Y_up (by decide) (ct_172x G19 iG19 (Int32.ofInt 1) ⟨by omega, by omega⟩)) ?_
            rintro _ _ ⟨y21, rfl, rfl, ry21, ey21, fy21⟩
            rw [← fy21, pj_nm_e]
            show pj_X _ _ G19 167 [(3, .int (Int32.ofInt 0)), (2, .int z3), (0, .ref 171), (1, .int v1)] [.int y21, .int y20, .ref 171] _
            refine pj_X_of (fun r h => pj_R_to (G19, 168, [(3, .int (Int32.ofInt 0)), (2, .int z3), (0, .ref 171), (1, .int v1)], [.int (y20 + y21), .ref 171], 0, 0) 168 2 (fun _ => rfl) h) ?_
            obtain ⟨z22, hz22⟩ : ∃ z : Int32, z = y20 + y21 := ⟨_, rfl⟩
            refine pj_X_eqi hz22.symm ?_
            rw [← hz22, pj_nm_e]
            refine pj_X_of (fun r h => pj_T_pf iG19 rfl rfl rfl h) ?_
            show pj_X _ _ (pj_wv G19 171 35 (.int z22)) 171 [(3, .int (Int32.ofInt 0)), (2, .int z3), (0, .ref 171), (1, .int v1)] [] _
            obtain ⟨G23, hG23⟩ : ∃ H, H = pj_wv G19 171 35 (.int z22) := ⟨_, rfl⟩
            have iG23 : pj_Inv G23 := by rw [hG23]; exact pj_Inv_wi iG19 (ci := 12) rfl (fun q hq => by cases hq)
            have kG23 : pj_kpt kc_224x G0 G23 := by rw [hG23]; exact pj_kpt_v kG19 rfl
            rw [← hG23]
            rw [pj_nm_e]
            refine pj_X_of (fun r h => pj_R_to (G23, 172, [(3, .int (Int32.ofInt 0)), (2, .int z3), (0, .ref 171), (1, .int v1)], [.ref 171], 0, 0) 172 2 (fun _ => rfl) h) ?_
            refine pj_X_of (fun r h => pj_T_gr iG23 rfl rfl rfl h) ?_
            refine pj_X_of (fun r h => pj_R_to (G23, 178, [(3, .int (Int32.ofInt 0)), (2, .int z3), (0, .ref 171), (1, .int v1)], [.int ((Int8.ofInt 31).toInt32), .ref 179, .int ((Int8.ofInt 31).toInt32), .ref 179], 0, 0) 178 3 (fun _ => rfl) h) ?_
            refine pj_X_of (fun r h => pj_T_il iG23 rfl rfl (by omega) (by omega) h) ?_
            show pj_X _ _ G23 179 [(3, .int (Int32.ofInt 0)), (2, .int z3), (0, .ref 171), (1, .int v1)] [.int (pj_ai G23 179 ((Int8.ofInt 31).toInt32).toInt.toNat), .int ((Int8.ofInt 31).toInt32), .ref 179] _
            obtain ⟨z24, hz24⟩ : ∃ z : Int32, z = pj_ai G23 179 ((Int8.ofInt 31).toInt32).toInt.toNat := ⟨_, rfl⟩
            refine pj_X_eqi hz24.symm ?_
            rw [← hz24, pj_nm_e]
            have ez24 : (pj_ai G23 179 ((Int8.ofInt 31).toInt32).toInt.toNat).toInt = z24.toInt := by rw [hz24]
            refine pj_X_of (fun r h => pj_R_to (G23, 180, [(3, .int (Int32.ofInt 0)), (2, .int z3), (0, .ref 171), (1, .int v1)], [.int (Int32.ofInt 0), .int z24, .int ((Int8.ofInt 31).toInt32), .ref 179], 0, 0) 180 2 (fun _ => rfl) h) ?_
            refine pj_X_of (fun r h => pj_R_ifF rfl (pj_b0_neF (by omega)) h) ?_
            refine pj_X_of (fun r h => pj_R_to (G23, 188, [(3, .int (Int32.ofInt 0)), (2, .int z3), (0, .ref 171), (1, .int v1)], [.int (Int32.ofInt 1), .int z24, .int ((Int8.ofInt 31).toInt32), .ref 179], 0, 0) 188 3 (fun _ => rfl) h) ?_
            refine pj_X_ca (vs := [.int (Int32.ofInt 1)]) rfl (fun _ => rfl) ⟨Nat.le_of_ble_eq_true rfl, Nat.le_of_ble_eq_true rfl, rfl⟩ ⟨rfl, rfl⟩ (pj_Y_up (by decide) (ct_172x G23 iG23 (Int32.ofInt 1) ⟨by omega, by omega⟩)) ?_
            rintro _ _ ⟨y25, rfl, rfl, ry25, ey25, fy25⟩
            rw [← fy25, pj_nm_e]
            show pj_X _ _ G23 191 [(3, .int (Int32.ofInt 0)), (2, .int z3), (0, .ref 171), (1, .int v1)] [.int y25, .int z24, .int ((Int8.ofInt 31).toInt32), .ref 179] _
            refine pj_X_of (fun r h => pj_R_to (G23, 192, [(3, .int (Int32.ofInt 0)), (2, .int z3), (0, .ref 171), (1, .int v1)], [.int (z24 + y25), .int ((Int8.ofInt 31).toInt32), .ref 179], 0, 0) 192 2 (fun _ => rfl) h) ?_
            obtain ⟨z26, hz26⟩ : ∃ z : Int32, z = z24 + y25 := ⟨_, rfl⟩
            refine pj_X_eqi hz26.symm ?_
            rw [← hz26, pj_nm_e]
            refine pj_X_of (fun r h => pj_T_is iG23 rfl rfl (by omega) (by omega) h) ?_
            show pj_X _ _ (pj_wa G23 179 ((Int8.ofInt 31).toInt32).toInt.toNat z26) 193 [(3, .int (Int32.ofInt 0)), (2, .int z3), (0, .ref 171), (1, .int v1)] [] _
            obtain ⟨G27, hG27⟩ : ∃ H, H = pj_wa G23 179 ((Int8.ofInt 31).toInt32).toInt.toNat z26 := ⟨_, rfl⟩
            have iG27 : pj_Inv G27 := by rw [hG27]; exact pj_Inv_wa iG23 rfl (fun q hq => by cases hq) (fun n hn => ⟨fun h1 => ⟨fun h2 => by omega, fun h2 => by omega⟩, fun h1 => by omega⟩)
            have kG27 : pj_kpt kc_224x G0 G27 := by rw [hG27]; exact pj_kpt_a kG23 rfl
            rw [← hG27]
            rw [pj_nm_e]
            refine pj_X_of (fun r h => pj_R_to (G27, 196, [(1, .int (v1 + Int32.ofInt 1)), (3, .int (Int32.ofInt 0)), (2, .int z3), (0, .ref 171)], [], 0, 0) 196 2 (fun _ => rfl) h) ?_
            obtain ⟨z28, hz28⟩ : ∃ z : Int32, z = v1 + Int32.ofInt 1 := ⟨_, rfl⟩
            rw [← hz28]
            rw [pj_nm_e]
            have fz28_0 : z28.toInt = v1.toInt + (Int32.ofInt 1).toInt := by rw [hz28]; exact pj_addI (by have := pj_i32 v1; have := pj_i32 (Int32.ofInt 1); omega) (by have := pj_i32 v1; have := pj_i32 (Int32.ofInt 1); omega)
            refine pj_X_of (fun r h => pj_R_to (G27, 13, [(1, .int z28), (3, .int (Int32.ofInt 0)), (2, .int z3), (0, .ref 171)], [], 0, 0) 13 2 (fun _ => rfl) h) ?_
            exact pj_X_sub [(0, .ref 171), (1, .int z28)] (show List.Nodup [0, 1] by decide) ⟨rfl, rfl, trivial⟩ (ih G27 iG27 kG27 z28 ⟨by omega, by omega⟩ (by omega))
          | false =>
            rw [pj_cF]
            have ub15 := pj_u0_geF b15
            refine pj_X_of (fun r h => pj_R_ifF rfl b15 h) ?_
            refine pj_X_of (fun r h => pj_R_to (G12, 114, [(2, .int z3), (0, .ref 171), (1, .int v1)], [.ref 171], 0, 0) 114 2 (fun _ => rfl) h) ?_
            refine pj_X_of (fun r h => pj_T_gr iG12 rfl rfl rfl h) ?_
            refine pj_X_of (fun r h => pj_R_to (G12, 120, [(2, .int z3), (0, .ref 171), (1, .int v1)], [.int (z3 + (Int32.ofInt 1)), .ref 179], 0, 0) 120 4 (fun _ => rfl) h) ?_
            refine pj_X_eqi hz4.symm ?_
            refine pj_X_of (fun r h => pj_T_il iG12 rfl rfl (by omega) (by omega) h) ?_
            show pj_X _ _ G12 121 [(2, .int z3), (0, .ref 171), (1, .int v1)] [.int (pj_ai G12 179 z4.toInt.toNat)] _
            obtain ⟨z29, hz29⟩ : ∃ z : Int32, z = pj_ai G12 179 z4.toInt.toNat := ⟨_, rfl⟩
            refine pj_X_eqi hz29.symm ?_
            rw [← hz29, pj_nm_e]
            have ez29 : (pj_ai G12 179 z4.toInt.toNat).toInt = z29.toInt := by rw [hz29]
            have fz29_0 : 0 ≤ z29.toInt := by rw [hz29]; exact ((iG12.2.2.2 179 32 rfl _ (by show _ < 32; omega)).1 (by omega)).2 (by omega)
            cases b30 : pj_c1 .ne z29 0 with
            | true =>
              rw [pj_cT]
              have ub30 := pj_u0_neT b30
              refine pj_X_of (fun r h => pj_R_ifT 128 rfl rfl b30 h) ?_
              refine pj_X_of (fun r h => pj_R_to (G12, 132, [(3, .int (Int32.ofInt 0)), (2, .int z3), (0, .ref 171), (1, .int v1)], [.ref 171, .ref 171], 0, 0) 132 5 (fun _ => rfl) h) ?_
              refine pj_X_of (fun r h => pj_T_gi iG12 rfl rfl h) ?_
              show pj_X _ _ G12 135 [(3, .int (Int32.ofInt 0)), (2, .int z3), (0, .ref 171), (1, .int v1)] [.int (pj_fi G12 171 34), .ref 171] _
              obtain ⟨y31, hy31⟩ : ∃ z : Int32, z = pj_fi G12 171 34 := ⟨_, rfl⟩
              refine pj_X_eqi hy31.symm ?_
              rw [← hy31, pj_nm_e]
              have ey31 : (pj_fi G12 171 34).toInt = y31.toInt := by rw [hy31]
              refine pj_X_of (fun r h => pj_R_to (G12, 136, [(3, .int (Int32.ofInt 0)), (2, .int z3), (0, .ref 171), (1, .int v1)], [.int (Int32.ofInt 0), .int y31, .ref 171], 0, 0) 136 2 (fun _ => rfl) h) ?_
              refine pj_X_of (fun r h => pj_R_ifT 143 rfl rfl (pj_b0_eqT (by omega)) h) ?_
              refine pj_X_of (fun r h => pj_R_to (G12, 146, [(3, .int (Int32.ofInt 0)), (2, .int z3), (0, .ref 171), (1, .int v1)], [.int ((Int32.ofInt 1) <<< (v1 &&& 31)), .int y31, .ref 171], 0, 0) 146 4 (fun _ => rfl) h) ?_
              obtain ⟨z32, hz32⟩ : ∃ z : Int32, z = (Int32.ofInt 1) <<< (v1 &&& 31) := ⟨_, rfl⟩
              refine pj_X_eqi hz32.symm ?_
              rw [← hz32, pj_nm_e]
              have fz32_0 : 1 ≤ z32.toInt ∧ z32.toInt ≤ 32 := by rw [hz32]; exact pj_shlI5 (by omega) (by omega)
              refine pj_X_of (fun r h => pj_R_to (G12, 147, [(3, .int (Int32.ofInt 0)), (2, .int z3), (0, .ref 171), (1, .int v1)], [.int (y31 ||| z32), .ref 171], 0, 0) 147 2 (fun _ => rfl) h) ?_
              obtain ⟨z33, hz33⟩ : ∃ z : Int32, z = y31 ||| z32 := ⟨_, rfl⟩
              refine pj_X_eqi hz33.symm ?_
              rw [← hz33, pj_nm_e]
              refine pj_X_of (fun r h => pj_T_pf iG12 rfl rfl rfl h) ?_
              show pj_X _ _ (pj_wv G12 171 34 (.int z33)) 150 [(3, .int (Int32.ofInt 0)), (2, .int z3), (0, .ref 171), (1, .int v1)] [] _
              obtain ⟨G34, hG34⟩ : ∃ H, H = pj_wv G12 171 34 (.int z33) := ⟨_, rfl⟩
              have iG34 : pj_Inv G34 := by rw [hG34]; exact pj_Inv_wi iG12 (ci := 12) rfl (fun q hq => by cases hq)
              have kG34 : pj_kpt kc_224x G0 G34 := by rw [hG34]; exact pj_kpt_v kG12 rfl
              rw [← hG34]
              rw [pj_nm_e]
              refine pj_X_of (fun r h => pj_R_to (G34, 152, [(3, .int (Int32.ofInt 0)), (2, .int z3), (0, .ref 171), (1, .int v1)], [.ref 171, .ref 171], 0, 0) 152 3 (fun _ => rfl) h) ?_
              refine pj_X_of (fun r h => pj_T_gi iG34 rfl rfl h) ?_
              show pj_X _ _ G34 155 [(3, .int (Int32.ofInt 0)), (2, .int z3), (0, .ref 171), (1, .int v1)] [.int (pj_fi G34 171 35), .ref 171] _
              obtain ⟨y35, hy35⟩ : ∃ z : Int32, z = pj_fi G34 171 35 := ⟨_, rfl⟩
              refine pj_X_eqi hy35.symm ?_
              rw [← hy35, pj_nm_e]
              have ey35 : (pj_fi G34 171 35).toInt = y35.toInt := by rw [hy35]
              refine pj_X_of (fun r h => pj_R_to (G34, 156, [(3, .int (Int32.ofInt 0)), (2, .int z3), (0, .ref 171), (1, .int v1)], [.int (Int32.ofInt 0), .int y35, .ref 171], 0, 0) 156 2 (fun _ => rfl) h) ?_
              refine pj_X_of (fun r h => pj_R_ifF rfl (pj_b0_neF (by omega)) h) ?_
              refine pj_X_of (fun r h => pj_R_to (G34, 164, [(3, .int (Int32.ofInt 0)), (2, .int z3), (0, .ref 171), (1, .int v1)], [.int (Int32.ofInt 1), .int y35, .ref 171], 0, 0) 164 3 (fun _ => rfl) h) ?_
              refine pj_X_ca (vs := [.int (Int32.ofInt 1)]) rfl (fun _ => rfl) ⟨Nat.le_of_ble_eq_true rfl, Nat.le_of_ble_eq_true rfl, rfl⟩ ⟨rfl, rfl⟩ (pj_Y_up (by decide) (ct_172x G34 iG34 (Int32.ofInt 1) ⟨by omega, by omega⟩)) ?_
              rintro _ _ ⟨y36, rfl, rfl, ry36, ey36, fy36⟩
              rw [← fy36, pj_nm_e]
              show pj_X _ _ G34 167 [(3, .int (Int32.ofInt 0)), (2, .int z3), (0, .ref 171), (1, .int v1)] [.int y36, .int y35, .ref 171] _
              refine pj_X_of (fun r h => pj_R_to (G34, 168, [(3, .int (Int32.ofInt 0)), (2, .int z3), (0, .ref 171), (1, .int v1)], [.int (y35 + y36), .ref 171], 0, 0) 168 2 (fun _ => rfl) h) ?_
              obtain ⟨z37, hz37⟩ : ∃ z : Int32, z = y35 + y36 := ⟨_, rfl⟩
              refine pj_X_eqi hz37.symm ?_
              rw [← hz37, pj_nm_e]
              refine pj_X_of (fun r h => pj_T_pf iG34 rfl rfl rfl h) ?_
              show pj_X _ _ (pj_wv G34 171 35 (.int z37)) 171 [(3, .int (Int32.ofInt 0)), (2, .int z3), (0, .ref 171), (1, .int v1)] [] _
              obtain ⟨G38, hG38⟩ : ∃ H, H = pj_wv G34 171 35 (.int z37) := ⟨_, rfl⟩
              have iG38 : pj_Inv G38 := by rw [hG38]; exact pj_Inv_wi iG34 (ci := 12) rfl (fun q hq => by cases hq)
              have kG38 : pj_kpt kc_224x G0 G38 := by rw [hG38]; exact pj_kpt_v kG34 rfl
              rw [← hG38]
              rw [pj_nm_e]
              refine pj_X_of (fun r h => pj_R_to (G38, 172, [(3, .int (Int32.ofInt 0)), (2, .int z3), (0, .ref 171), (1, .int v1)], [.ref 171], 0, 0) 172 2 (fun _ => rfl) h) ?_
              refine pj_X_of (fun r h => pj_T_gr iG38 rfl rfl rfl h) ?_
              refine pj_X_of (fun r h => pj_R_to (G38, 178, [(3, .int (Int32.ofInt 0)), (2, .int z3), (0, .ref 171), (1, .int v1)], [.int ((Int8.ofInt 31).toInt32), .ref 179, .int ((Int8.ofInt 31).toInt32), .ref 179], 0, 0) 178 3 (fun _ => rfl) h) ?_
              refine pj_X_of (fun r h => pj_T_il iG38 rfl rfl (by omega) (by omega) h) ?_
              show pj_X _ _ G38 179 [(3, .int (Int32.ofInt 0)), (2, .int z3), (0, .ref 171), (1, .int v1)] [.int (pj_ai G38 179 ((Int8.ofInt 31).toInt32).toInt.toNat), .int ((Int8.ofInt 31).toInt32), .ref 179] _
              obtain ⟨z39, hz39⟩ : ∃ z : Int32, z = pj_ai G38 179 ((Int8.ofInt 31).toInt32).toInt.toNat := ⟨_, rfl⟩
              refine pj_X_eqi hz39.symm ?_
              rw [← hz39, pj_nm_e]
              have ez39 : (pj_ai G38 179 ((Int8.ofInt 31).toInt32).toInt.toNat).toInt = z39.toInt := by rw [hz39]
              refine pj_X_of (fun r h => pj_R_to (G38, 180, [(3, .int (Int32.ofInt 0)), (2, .int z3), (0, .ref 171), (1, .int v1)], [.int (Int32.ofInt 0), .int z39, .int ((Int8.ofInt 31).toInt32), .ref 179], 0, 0) 180 2 (fun _ => rfl) h) ?_
              refine pj_X_of (fun r h => pj_R_ifF rfl (pj_b0_neF (by omega)) h) ?_
              refine pj_X_of (fun r h => pj_R_to (G38, 188, [(3, .int (Int32.ofInt 0)), (2, .int z3), (0, .ref 171), (1, .int v1)], [.int (Int32.ofInt 1), .int z39, .int ((Int8.ofInt 31).toInt32), .ref 179], 0, 0) 188 3 (fun _ => rfl) h) ?_
              refine pj_X_ca (vs := [.int (Int32.ofInt 1)]) rfl (fun _ => rfl) ⟨Nat.le_of_ble_eq_true rfl, Nat.le_of_ble_eq_true rfl, rfl⟩ ⟨rfl, rfl⟩ (pj_Y_up (by decide) (ct_172x G38 iG38 (Int32.ofInt 1) ⟨by omega, by omega⟩)) ?_
              rintro _ _ ⟨y40, rfl, rfl, ry40, ey40, fy40⟩
              rw [← fy40, pj_nm_e]
              show pj_X _ _ G38 191 [(3, .int (Int32.ofInt 0)), (2, .int z3), (0, .ref 171), (1, .int v1)] [.int y40, .int z39, .int ((Int8.ofInt 31).toInt32), .ref 179] _
              refine pj_X_of (fun r h => pj_R_to (G38, 192, [(3, .int (Int32.ofInt 0)), (2, .int z3), (0, .ref 171), (1, .int v1)], [.int (z39 + y40), .int ((Int8.ofInt 31).toInt32), .ref 179], 0, 0) 192 2 (fun _ => rfl) h) ?_
              obtain ⟨z41, hz41⟩ : ∃ z : Int32, z = z39 + y40 := ⟨_, rfl⟩
              refine pj_X_eqi hz41.symm ?_
              rw [← hz41, pj_nm_e]
              refine pj_X_of (fun r h => pj_T_is iG38 rfl rfl (by omega) (by omega) h) ?_
              show pj_X _ _ (pj_wa G38 179 ((Int8.ofInt 31).toInt32).toInt.toNat z41) 193 [(3, .int (Int32.ofInt 0)), (2, .int z3), (0, .ref 171), (1, .int v1)] [] _
              obtain ⟨G42, hG42⟩ : ∃ H, H = pj_wa G38 179 ((Int8.ofInt 31).toInt32).toInt.toNat z41 := ⟨_, rfl⟩
              have iG42 : pj_Inv G42 := by rw [hG42]; exact pj_Inv_wa iG38 rfl (fun q hq => by cases hq) (fun n hn => ⟨fun h1 => ⟨fun h2 => by omega, fun h2 => by omega⟩, fun h1 => by omega⟩)
              have kG42 : pj_kpt kc_224x G0 G42 := by rw [hG42]; exact pj_kpt_a kG38 rfl
              rw [← hG42]
              rw [pj_nm_e]
              refine pj_X_of (fun r h => pj_R_to (G42, 196, [(1, .int (v1 + Int32.ofInt 1)), (3, .int (Int32.ofInt 0)), (2, .int z3), (0, .ref 171)], [], 0, 0) 196 2 (fun _ => rfl) h) ?_
              obtain ⟨z43, hz43⟩ : ∃ z : Int32, z = v1 + Int32.ofInt 1 := ⟨_, rfl⟩
              rw [← hz43]
              rw [pj_nm_e]
              have fz43_0 : z43.toInt = v1.toInt + (Int32.ofInt 1).toInt := by rw [hz43]; exact pj_addI (by have := pj_i32 v1; have := pj_i32 (Int32.ofInt 1); omega) (by have := pj_i32 v1; have := pj_i32 (Int32.ofInt 1); omega)
              refine pj_X_of (fun r h => pj_R_to (G42, 13, [(1, .int z43), (3, .int (Int32.ofInt 0)), (2, .int z3), (0, .ref 171)], [], 0, 0) 13 2 (fun _ => rfl) h) ?_
              exact pj_X_sub [(0, .ref 171), (1, .int z43)] (show List.Nodup [0, 1] by decide) ⟨rfl, rfl, trivial⟩ (ih G42 iG42 kG42 z43 ⟨by omega, by omega⟩ (by omega))
            | false =>
              rw [pj_cF]
              have ub30 := pj_u0_neF b30
              refine pj_X_of (fun r h => pj_R_ifF rfl b30 h) ?_
              refine pj_X_of (fun r h => pj_R_to (G12, 132, [(3, .int (Int32.ofInt 1)), (2, .int z3), (0, .ref 171), (1, .int v1)], [.ref 171, .ref 171], 0, 0) 132 6 (fun _ => rfl) h) ?_
              refine pj_X_of (fun r h => pj_T_gi iG12 rfl rfl h) ?_
              show pj_X _ _ G12 135 [(3, .int (Int32.ofInt 1)), (2, .int z3), (0, .ref 171), (1, .int v1)] [.int (pj_fi G12 171 34), .ref 171] _
              obtain ⟨y44, hy44⟩ : ∃ z : Int32, z = pj_fi G12 171 34 := ⟨_, rfl⟩
              refine pj_X_eqi hy44.symm ?_
              rw [← hy44, pj_nm_e]
              have ey44 : (pj_fi G12 171 34).toInt = y44.toInt := by rw [hy44]
              refine pj_X_of (fun r h => pj_R_to (G12, 136, [(3, .int (Int32.ofInt 1)), (2, .int z3), (0, .ref 171), (1, .int v1)], [.int (Int32.ofInt 1), .int y44, .ref 171], 0, 0) 136 2 (fun _ => rfl) h) ?_
              refine pj_X_of (fun r h => pj_R_ifF rfl (pj_b0_eqF (by omega)) h) ?_
              refine pj_X_of (fun r h => pj_R_to (G12, 147, [(3, .int (Int32.ofInt 1)), (2, .int z3), (0, .ref 171), (1, .int v1)], [.int (y44 ||| (Int32.ofInt 0)), .ref 171], 0, 0) 147 4 (fun _ => rfl) h) ?_
              obtain ⟨z45, hz45⟩ : ∃ z : Int32, z = y44 ||| (Int32.ofInt 0) := ⟨_, rfl⟩
              refine pj_X_eqi hz45.symm ?_
              rw [← hz45, pj_nm_e]
              refine pj_X_of (fun r h => pj_T_pf iG12 rfl rfl rfl h) ?_
              show pj_X _ _ (pj_wv G12 171 34 (.int z45)) 150 [(3, .int (Int32.ofInt 1)), (2, .int z3), (0, .ref 171), (1, .int v1)] [] _
              obtain ⟨G46, hG46⟩ : ∃ H, H = pj_wv G12 171 34 (.int z45) := ⟨_, rfl⟩
              have iG46 : pj_Inv G46 := by rw [hG46]; exact pj_Inv_wi iG12 (ci := 12) rfl (fun q hq => by cases hq)
              have kG46 : pj_kpt kc_224x G0 G46 := by rw [hG46]; exact pj_kpt_v kG12 rfl
              rw [← hG46]
              rw [pj_nm_e]
              refine pj_X_of (fun r h => pj_R_to (G46, 152, [(3, .int (Int32.ofInt 1)), (2, .int z3), (0, .ref 171), (1, .int v1)], [.ref 171, .ref 171], 0, 0) 152 3 (fun _ => rfl) h) ?_
              refine pj_X_of (fun r h => pj_T_gi iG46 rfl rfl h) ?_
              show pj_X _ _ G46 155 [(3, .int (Int32.ofInt 1)), (2, .int z3), (0, .ref 171), (1, .int v1)] [.int (pj_fi G46 171 35), .ref 171] _
              obtain ⟨y47, hy47⟩ : ∃ z : Int32, z = pj_fi G46 171 35 := ⟨_, rfl⟩
              refine pj_X_eqi hy47.symm ?_
              rw [← hy47, pj_nm_e]
              have ey47 : (pj_fi G46 171 35).toInt = y47.toInt := by rw [hy47]
              refine pj_X_of (fun r h => pj_R_to (G46, 156, [(3, .int (Int32.ofInt 1)), (2, .int z3), (0, .ref 171), (1, .int v1)], [.int (Int32.ofInt 1), .int y47, .ref 171], 0, 0) 156 2 (fun _ => rfl) h) ?_
              refine pj_X_of (fun r h => pj_R_ifT 163 rfl rfl (pj_b0_neT (by omega)) h) ?_
              refine pj_X_of (fun r h => pj_R_to (G46, 164, [(3, .int (Int32.ofInt 1)), (2, .int z3), (0, .ref 171), (1, .int v1)], [.int (Int32.ofInt 0), .int y47, .ref 171], 0, 0) 164 2 (fun _ => rfl) h) ?_
              refine pj_X_ca (vs := [.int (Int32.ofInt 0)]) rfl (fun _ => rfl) ⟨Nat.le_of_ble_eq_true rfl, Nat.le_of_ble_eq_true rfl, rfl⟩ ⟨rfl, rfl⟩ (pj_Y_up (by decide) (ct_172x G46 iG46 (Int32.ofInt 0) ⟨by omega, by omega⟩)) ?_
              rintro _ _ ⟨y48, rfl, rfl, ry48, ey48, fy48⟩
              rw [← fy48, pj_nm_e]
              show pj_X _ _ G46 167 [(3, .int (Int32.ofInt 1)), (2, .int z3), (0, .ref 171), (1, .int v1)] [.int y48, .int y47, .ref 171] _
              refine pj_X_of (fun r h => pj_R_to (G46, 168, [(3, .int (Int32.ofInt 1)), (2, .int z3), (0, .ref 171), (1, .int v1)], [.int (y47 + y48), .ref 171], 0, 0) 168 2 (fun _ => rfl) h) ?_
              obtain ⟨z49, hz49⟩ : ∃ z : Int32, z = y47 + y48 := ⟨_, rfl⟩
              refine pj_X_eqi hz49.symm ?_
              rw [← hz49, pj_nm_e]
              refine pj_X_of (fun r h => pj_T_pf iG46 rfl rfl rfl h) ?_
              show pj_X _ _ (pj_wv G46 171 35 (.int z49)) 171 [(3, .int (Int32.ofInt 1)), (2, .int z3), (0, .ref 171), (1, .int v1)] [] _
              obtain ⟨G50, hG50⟩ : ∃ H, H = pj_wv G46 171 35 (.int z49) := ⟨_, rfl⟩
              have iG50 : pj_Inv G50 := by rw [hG50]; exact pj_Inv_wi iG46 (ci := 12) rfl (fun q hq => by cases hq)
              have kG50 : pj_kpt kc_224x G0 G50 := by rw [hG50]; exact pj_kpt_v kG46 rfl
              rw [← hG50]
              rw [pj_nm_e]
              refine pj_X_of (fun r h => pj_R_to (G50, 172, [(3, .int (Int32.ofInt 1)), (2, .int z3), (0, .ref 171), (1, .int v1)], [.ref 171], 0, 0) 172 2 (fun _ => rfl) h) ?_
              refine pj_X_of (fun r h => pj_T_gr iG50 rfl rfl rfl h) ?_
              refine pj_X_of (fun r h => pj_R_to (G50, 178, [(3, .int (Int32.ofInt 1)), (2, .int z3), (0, .ref 171), (1, .int v1)], [.int ((Int8.ofInt 31).toInt32), .ref 179, .int ((Int8.ofInt 31).toInt32), .ref 179], 0, 0) 178 3 (fun _ => rfl) h) ?_
              refine pj_X_of (fun r h => pj_T_il iG50 rfl rfl (by omega) (by omega) h) ?_
              show pj_X _ _ G50 179 [(3, .int (Int32.ofInt 1)), (2, .int z3), (0, .ref 171), (1, .int v1)] [.int (pj_ai G50 179 ((Int8.ofInt 31).toInt32).toInt.toNat), .int ((Int8.ofInt 31).toInt32), .ref 179] _
              obtain ⟨z51, hz51⟩ : ∃ z : Int32, z = pj_ai G50 179 ((Int8.ofInt 31).toInt32).toInt.toNat := ⟨_, rfl⟩
              refine pj_X_eqi hz51.symm ?_
              rw [← hz51, pj_nm_e]
              have ez51 : (pj_ai G50 179 ((Int8.ofInt 31).toInt32).toInt.toNat).toInt = z51.toInt := by rw [hz51]
              refine pj_X_of (fun r h => pj_R_to (G50, 180, [(3, .int (Int32.ofInt 1)), (2, .int z3), (0, .ref 171), (1, .int v1)], [.int (Int32.ofInt 1), .int z51, .int ((Int8.ofInt 31).toInt32), .ref 179], 0, 0) 180 2 (fun _ => rfl) h) ?_
              refine pj_X_of (fun r h => pj_R_ifT 187 rfl rfl (pj_b0_neT (by omega)) h) ?_
              refine pj_X_of (fun r h => pj_R_to (G50, 188, [(3, .int (Int32.ofInt 1)), (2, .int z3), (0, .ref 171), (1, .int v1)], [.int (Int32.ofInt 0), .int z51, .int ((Int8.ofInt 31).toInt32), .ref 179], 0, 0) 188 2 (fun _ => rfl) h) ?_
              refine pj_X_ca (vs := [.int (Int32.ofInt 0)]) rfl (fun _ => rfl) ⟨Nat.le_of_ble_eq_true rfl, Nat.le_of_ble_eq_true rfl, rfl⟩ ⟨rfl, rfl⟩ (pj_Y_up (by decide) (ct_172x G50 iG50 (Int32.ofInt 0) ⟨by omega, by omega⟩)) ?_
              rintro _ _ ⟨y52, rfl, rfl, ry52, ey52, fy52⟩
              rw [← fy52, pj_nm_e]
              show pj_X _ _ G50 191 [(3, .int (Int32.ofInt 1)), (2, .int z3), (0, .ref 171), (1, .int v1)] [.int y52, .int z51, .int ((Int8.ofInt 31).toInt32), .ref 179] _
              refine pj_X_of (fun r h => pj_R_to (G50, 192, [(3, .int (Int32.ofInt 1)), (2, .int z3), (0, .ref 171), (1, .int v1)], [.int (z51 + y52), .int ((Int8.ofInt 31).toInt32), .ref 179], 0, 0) 192 2 (fun _ => rfl) h) ?_
              obtain ⟨z53, hz53⟩ : ∃ z : Int32, z = z51 + y52 := ⟨_, rfl⟩
              refine pj_X_eqi hz53.symm ?_
              rw [← hz53, pj_nm_e]
              refine pj_X_of (fun r h => pj_T_is iG50 rfl rfl (by omega) (by omega) h) ?_
              show pj_X _ _ (pj_wa G50 179 ((Int8.ofInt 31).toInt32).toInt.toNat z53) 193 [(3, .int (Int32.ofInt 1)), (2, .int z3), (0, .ref 171), (1, .int v1)] [] _
              obtain ⟨G54, hG54⟩ : ∃ H, H = pj_wa G50 179 ((Int8.ofInt 31).toInt32).toInt.toNat z53 := ⟨_, rfl⟩
              have iG54 : pj_Inv G54 := by rw [hG54]; exact pj_Inv_wa iG50 rfl (fun q hq => by cases hq) (fun n hn => ⟨fun h1 => ⟨fun h2 => by omega, fun h2 => by omega⟩, fun h1 => by omega⟩)
              have kG54 : pj_kpt kc_224x G0 G54 := by rw [hG54]; exact pj_kpt_a kG50 rfl
              rw [← hG54]
              rw [pj_nm_e]
              refine pj_X_of (fun r h => pj_R_to (G54, 196, [(1, .int (v1 + Int32.ofInt 1)), (3, .int (Int32.ofInt 1)), (2, .int z3), (0, .ref 171)], [], 0, 0) 196 2 (fun _ => rfl) h) ?_
              obtain ⟨z55, hz55⟩ : ∃ z : Int32, z = v1 + Int32.ofInt 1 := ⟨_, rfl⟩
              rw [← hz55]
              rw [pj_nm_e]
              have fz55_0 : z55.toInt = v1.toInt + (Int32.ofInt 1).toInt := by rw [hz55]; exact pj_addI (by have := pj_i32 v1; have := pj_i32 (Int32.ofInt 1); omega) (by have := pj_i32 v1; have := pj_i32 (Int32.ofInt 1); omega)
              refine pj_X_of (fun r h => pj_R_to (G54, 13, [(1, .int z55), (3, .int (Int32.ofInt 1)), (2, .int z3), (0, .ref 171)], [], 0, 0) 13 2 (fun _ => rfl) h) ?_
              exact pj_X_sub [(0, .ref 171), (1, .int z55)] (show List.Nodup [0, 1] by decide) ⟨rfl, rfl, trivial⟩ (ih G54 iG54 kG54 z55 ⟨by omega, by omega⟩ (by omega))
      | false =>
        rw [pj_cF]
        have ub6 := pj_u0_leF b6
        refine pj_X_of (fun r h => pj_R_ifF rfl b6 h) ?_
        refine pj_X_of (fun r h => pj_R_to (G, 37, [(2, .int z3), (0, .ref 171), (1, .int v1)], [.ref 171], 0, 0) 37 2 (fun _ => rfl) h) ?_
        refine pj_X_of (fun r h => pj_T_gr hI rfl rfl rfl h) ?_
        refine pj_X_of (fun r h => pj_R_to (G, 43, [(2, .int z3), (0, .ref 171), (1, .int v1)], [.int (z3 + (Int32.ofInt 1)), .ref 179], 0, 0) 43 4 (fun _ => rfl) h) ?_
        refine pj_X_eqi hz4.symm ?_
        refine pj_X_of (fun r h => pj_R_to (G, 44, [(2, .int z3), (0, .ref 171), (1, .int v1)], [.int z4, .ref 179, .int z4, .ref 179], 0, 0) 44 2 (fun _ => rfl) h) ?_
        refine pj_X_of (fun r h => pj_T_il hI rfl rfl (by omega) (by omega) h) ?_
        show pj_X _ _ G 45 [(2, .int z3), (0, .ref 171), (1, .int v1)] [.int (pj_ai G 179 z4.toInt.toNat), .int z4, .ref 179] _
        refine pj_X_eqi hz5.symm ?_
        refine pj_X_of (fun r h => pj_R_to (G, 47, [(2, .int z3), (0, .ref 171), (1, .int v1)], [.int (z5 - (Int32.ofInt 1)), .int z4, .ref 179], 0, 0) 47 3 (fun _ => rfl) h) ?_
        obtain ⟨z56, hz56⟩ : ∃ z : Int32, z = z5 - (Int32.ofInt 1) := ⟨_, rfl⟩
        refine pj_X_eqi hz56.symm ?_
        rw [← hz56, pj_nm_e]
        have fz56_0 : z56.toInt = z5.toInt - (Int32.ofInt 1).toInt := by rw [hz56]; exact pj_subI (by have := pj_i32 z5; have := pj_i32 (Int32.ofInt 1); omega) (by have := pj_i32 z5; have := pj_i32 (Int32.ofInt 1); omega)
        refine pj_X_of (fun r h => pj_T_is hI rfl rfl (by omega) (by omega) h) ?_
        show pj_X _ _ (pj_wa G 179 z4.toInt.toNat z56) 48 [(2, .int z3), (0, .ref 171), (1, .int v1)] [] _
        obtain ⟨G57, hG57⟩ : ∃ H, H = pj_wa G 179 z4.toInt.toNat z56 := ⟨_, rfl⟩
        have iG57 : pj_Inv G57 := by rw [hG57]; exact pj_Inv_wa hI rfl (fun q hq => by cases hq) (fun n hn => ⟨fun h1 => ⟨fun h2 => by omega, fun h2 => by omega⟩, fun h1 => by omega⟩)
        have kG57 : pj_kpt kc_224x G0 G57 := by rw [hG57]; exact pj_kpt_a hK rfl
        rw [← hG57]
        rw [pj_nm_e]
        refine pj_X_of (fun r h => pj_R_to (G57, 50, [(2, .int z3), (0, .ref 171), (1, .int v1)], [.ref 171, .ref 171], 0, 0) 50 3 (fun _ => rfl) h) ?_
        refine pj_X_of (fun r h => pj_T_gi iG57 rfl rfl h) ?_
        show pj_X _ _ G57 53 [(2, .int z3), (0, .ref 171), (1, .int v1)] [.int (pj_fi G57 171 33), .ref 171] _
        obtain ⟨y58, hy58⟩ : ∃ z : Int32, z = pj_fi G57 171 33 := ⟨_, rfl⟩
        refine pj_X_eqi hy58.symm ?_
        rw [← hy58, pj_nm_e]
        have ey58 : (pj_fi G57 171 33).toInt = y58.toInt := by rw [hy58]
        refine pj_X_of (fun r h => pj_R_to (G57, 54, [(2, .int z3), (0, .ref 171), (1, .int v1)], [.ref 171, .int y58, .ref 171], 0, 0) 54 2 (fun _ => rfl) h) ?_
        refine pj_X_of (fun r h => pj_T_gr iG57 rfl rfl rfl h) ?_
        refine pj_X_of (fun r h => pj_R_to (G57, 60, [(2, .int z3), (0, .ref 171), (1, .int v1)], [.int (z3 + (Int32.ofInt 1)), .ref 179, .int y58, .ref 171], 0, 0) 60 4 (fun _ => rfl) h) ?_
        refine pj_X_eqi hz4.symm ?_
        refine pj_X_of (fun r h => pj_T_il iG57 rfl rfl (by omega) (by omega) h) ?_
        show pj_X _ _ G57 61 [(2, .int z3), (0, .ref 171), (1, .int v1)] [.int (pj_ai G57 179 z4.toInt.toNat), .int y58, .ref 171] _
        obtain ⟨z59, hz59⟩ : ∃ z : Int32, z = pj_ai G57 179 z4.toInt.toNat := ⟨_, rfl⟩
        refine pj_X_eqi hz59.symm ?_
        rw [← hz59, pj_nm_e]
        have ez59 : (pj_ai G57 179 z4.toInt.toNat).toInt = z59.toInt := by rw [hz59]
        have fz59_0 : 0 ≤ z59.toInt := by rw [hz59]; exact ((iG57.2.2.2 179 32 rfl _ (by show _ < 32; omega)).1 (by omega)).2 (by omega)
        have x60 : z59.toInt = z56.toInt := by rw [hz59, show z4.toInt.toNat = z4.toInt.toNat by omega, hG57, pj_ai_wa_eq hI.1 rfl]
        cases b61 : pj_c1 .ne z59 0 with
        | true =>
          rw [pj_cT]
          have ub61 := pj_u0_neT b61
          refine pj_X_of (fun r h => pj_R_ifT 70 rfl rfl b61 h) ?_
          refine pj_X_of (fun r h => pj_R_to (G57, 72, [(2, .int z3), (0, .ref 171), (1, .int v1)], [.int (y58 ||| (Int32.ofInt 0)), .ref 171], 0, 0) 72 3 (fun _ => rfl) h) ?_
          obtain ⟨z62, hz62⟩ : ∃ z : Int32, z = y58 ||| (Int32.ofInt 0) := ⟨_, rfl⟩
          refine pj_X_eqi hz62.symm ?_
          rw [← hz62, pj_nm_e]
          refine pj_X_of (fun r h => pj_T_pf iG57 rfl rfl rfl h) ?_
          show pj_X _ _ (pj_wv G57 171 33 (.int z62)) 75 [(2, .int z3), (0, .ref 171), (1, .int v1)] [] _
          obtain ⟨G63, hG63⟩ : ∃ H, H = pj_wv G57 171 33 (.int z62) := ⟨_, rfl⟩
          have iG63 : pj_Inv G63 := by rw [hG63]; exact pj_Inv_wi iG57 (ci := 12) rfl (fun q hq => by cases hq)
          have kG63 : pj_kpt kc_224x G0 G63 := by rw [hG63]; exact pj_kpt_v kG57 rfl
          rw [← hG63]
          rw [pj_nm_e]
          refine pj_X_of (fun r h => pj_R_to (G63, 76, [(2, .int z3), (0, .ref 171), (1, .int v1)], [.ref 171], 0, 0) 76 2 (fun _ => rfl) h) ?_
          refine pj_X_of (fun r h => pj_T_gr iG63 rfl rfl rfl h) ?_
          refine pj_X_of (fun r h => pj_R_to (G63, 82, [(2, .int z3), (0, .ref 171), (1, .int v1)], [.int (z3 + (Int32.ofInt 2)), .ref 179], 0, 0) 82 4 (fun _ => rfl) h) ?_
          obtain ⟨z64, hz64⟩ : ∃ z : Int32, z = z3 + (Int32.ofInt 2) := ⟨_, rfl⟩
          refine pj_X_eqi hz64.symm ?_
          rw [← hz64, pj_nm_e]
          have fz64_0 : z64.toInt = z3.toInt + (Int32.ofInt 2).toInt := by rw [hz64]; exact pj_addI (by have := pj_i32 z3; have := pj_i32 (Int32.ofInt 2); omega) (by have := pj_i32 z3; have := pj_i32 (Int32.ofInt 2); omega)
          refine pj_X_of (fun r h => pj_T_il iG63 rfl rfl (by omega) (by omega) h) ?_
          show pj_X _ _ G63 83 [(2, .int z3), (0, .ref 171), (1, .int v1)] [.int (pj_ai G63 179 z64.toInt.toNat)] _
          obtain ⟨z65, hz65⟩ : ∃ z : Int32, z = pj_ai G63 179 z64.toInt.toNat := ⟨_, rfl⟩
          refine pj_X_eqi hz65.symm ?_
          rw [← hz65, pj_nm_e]
          have ez65 : (pj_ai G63 179 z64.toInt.toNat).toInt = z65.toInt := by rw [hz65]
          refine pj_X_of (fun r h => pj_R_to (G63, 84, [(2, .int z3), (0, .ref 171), (1, .int v1)], [.ref 171, .int z65], 0, 0) 84 2 (fun _ => rfl) h) ?_
          refine pj_X_of (fun r h => pj_T_gr iG63 rfl rfl rfl h) ?_
          refine pj_X_of (fun r h => pj_R_to (G63, 89, [(2, .int z3), (0, .ref 171), (1, .int v1)], [.int ((Int8.ofInt 30).toInt32), .ref 179, .int z65], 0, 0) 89 2 (fun _ => rfl) h) ?_
          refine pj_X_of (fun r h => pj_T_il iG63 rfl rfl (by omega) (by omega) h) ?_
          show pj_X _ _ G63 90 [(2, .int z3), (0, .ref 171), (1, .int v1)] [.int (pj_ai G63 179 ((Int8.ofInt 30).toInt32).toInt.toNat), .int z65] _
          obtain ⟨z66, hz66⟩ : ∃ z : Int32, z = pj_ai G63 179 ((Int8.ofInt 30).toInt32).toInt.toNat := ⟨_, rfl⟩
          refine pj_X_eqi hz66.symm ?_
          rw [← hz66, pj_nm_e]
          have ez66 : (pj_ai G63 179 ((Int8.ofInt 30).toInt32).toInt.toNat).toInt = z66.toInt := by rw [hz66]
          cases b67 : pj_c1 .ne z65 z66 with
          | true =>
            rw [pj_cT]
            have ub67 := pj_u_neT b67
            refine pj_X_of (fun r h => pj_R_icT 193 rfl rfl b67 h) ?_
            refine pj_X_of (fun r h => pj_R_to (G63, 196, [(1, .int (v1 + Int32.ofInt 1)), (2, .int z3), (0, .ref 171)], [], 0, 0) 196 2 (fun _ => rfl) h) ?_
            obtain ⟨z68, hz68⟩ : ∃ z : Int32, z = v1 + Int32.ofInt 1 := ⟨_, rfl⟩
            rw [← hz68]
            rw [pj_nm_e]
            have fz68_0 : z68.toInt = v1.toInt + (Int32.ofInt 1).toInt := by rw [hz68]; exact pj_addI (by have := pj_i32 v1; have := pj_i32 (Int32.ofInt 1); omega) (by have := pj_i32 v1; have := pj_i32 (Int32.ofInt 1); omega)
            refine pj_X_of (fun r h => pj_R_to (G63, 13, [(1, .int z68), (2, .int z3), (0, .ref 171)], [], 0, 0) 13 2 (fun _ => rfl) h) ?_
            exact pj_X_sub [(0, .ref 171), (1, .int z68)] (show List.Nodup [0, 1] by decide) ⟨rfl, rfl, trivial⟩ (ih G63 iG63 kG63 z68 ⟨by omega, by omega⟩ (by omega))
          | false =>
            rw [pj_cF]
            have ub67 := pj_u_neF b67
            refine pj_X_of (fun r h => pj_R_icF rfl b67 h) ?_
            refine pj_X_of (fun r h => pj_R_to (G63, 94, [(2, .int z3), (0, .ref 171), (1, .int v1)], [.ref 171], 0, 0) 94 2 (fun _ => rfl) h) ?_
            refine pj_X_of (fun r h => pj_T_gr iG63 rfl rfl rfl h) ?_
            refine pj_X_of (fun r h => pj_R_to (G63, 100, [(2, .int z3), (0, .ref 171), (1, .int v1)], [.int (z3 + (Int32.ofInt 2)), .ref 179], 0, 0) 100 4 (fun _ => rfl) h) ?_
            refine pj_X_eqi hz64.symm ?_
            refine pj_X_of (fun r h => pj_R_to (G63, 101, [(2, .int z3), (0, .ref 171), (1, .int v1)], [.int (Int32.ofInt (-1)), .int z64, .ref 179], 0, 0) 101 2 (fun _ => rfl) h) ?_
            refine pj_X_of (fun r h => pj_T_is iG63 rfl rfl (by omega) (by omega) h) ?_
            show pj_X _ _ (pj_wa G63 179 z64.toInt.toNat (Int32.ofInt (-1))) 102 [(2, .int z3), (0, .ref 171), (1, .int v1)] [] _
            obtain ⟨G69, hG69⟩ : ∃ H, H = pj_wa G63 179 z64.toInt.toNat (Int32.ofInt (-1)) := ⟨_, rfl⟩
            have iG69 : pj_Inv G69 := by rw [hG69]; exact pj_Inv_wa iG63 rfl (fun q hq => by cases hq) (fun n hn => ⟨fun h1 => ⟨fun h2 => by omega, fun h2 => by omega⟩, fun h1 => by omega⟩)
            have kG69 : pj_kpt kc_224x G0 G69 := by rw [hG69]; exact pj_kpt_a kG63 rfl
            rw [← hG69]
            rw [pj_nm_e]
            refine pj_X_of (fun r h => pj_R_to (G69, 103, [(2, .int z3), (0, .ref 171), (1, .int v1)], [.ref 171], 0, 0) 103 2 (fun _ => rfl) h) ?_
            refine pj_X_of (fun r h => pj_T_gr iG69 rfl rfl rfl h) ?_
            refine pj_X_of (fun r h => pj_R_to (G69, 109, [(2, .int z3), (0, .ref 171), (1, .int v1)], [.int (z3 + (Int32.ofInt 0)), .ref 179], 0, 0) 109 4 (fun _ => rfl) h) ?_
            obtain ⟨z70, hz70⟩ : ∃ z : Int32, z = z3 + (Int32.ofInt 0) := ⟨_, rfl⟩
            refine pj_X_eqi hz70.symm ?_
            rw [← hz70, pj_nm_e]
            have fz70_0 : z70.toInt = z3.toInt + (Int32.ofInt 0).toInt := by rw [hz70]; exact pj_addI (by have := pj_i32 z3; have := pj_i32 (Int32.ofInt 0); omega) (by have := pj_i32 z3; have := pj_i32 (Int32.ofInt 0); omega)
            refine pj_X_of (fun r h => pj_T_il iG69 rfl rfl (by omega) (by omega) h) ?_
            show pj_X _ _ G69 110 [(2, .int z3), (0, .ref 171), (1, .int v1)] [.int (pj_ai G69 179 z70.toInt.toNat)] _
            obtain ⟨z71, hz71⟩ : ∃ z : Int32, z = pj_ai G69 179 z70.toInt.toNat := ⟨_, rfl⟩
            refine pj_X_eqi hz71.symm ?_
            rw [← hz71, pj_nm_e]
            have ez71 : (pj_ai G69 179 z70.toInt.toNat).toInt = z71.toInt := by rw [hz71]
            have fz71_0 : -1 ≤ z71.toInt ∧ z71.toInt ≤ 9 := by rw [hz71]; exact ((iG69.2.2.2 179 32 rfl _ (by show _ < 32; omega)).1 (by omega)).1 (by omega)
            cases b72 : pj_c1 .ge z71 0 with
            | true =>
              rw [pj_cT]
              have ub72 := pj_u0_geT b72
              refine pj_X_of (fun r h => pj_R_ifT 128 rfl rfl b72 h) ?_
              refine pj_X_of (fun r h => pj_R_to (G69, 132, [(3, .int (Int32.ofInt 0)), (2, .int z3), (0, .ref 171), (1, .int v1)], [.ref 171, .ref 171], 0, 0) 132 5 (fun _ => rfl) h) ?_
              refine pj_X_of (fun r h => pj_T_gi iG69 rfl rfl h) ?_
              show pj_X _ _ G69 135 [(3, .int (Int32.ofInt 0)), (2, .int z3), (0, .ref 171), (1, .int v1)] [.int (pj_fi G69 171 34), .ref 171] _
              obtain ⟨y73, hy73⟩ : ∃ z : Int32, z = pj_fi G69 171 34 := ⟨_, rfl⟩
              refine pj_X_eqi hy73.symm ?_
              rw [← hy73, pj_nm_e]
              have ey73 : (pj_fi G69 171 34).toInt = y73.toInt := by rw [hy73]
              refine pj_X_of (fun r h => pj_R_to (G69, 136, [(3, .int (Int32.ofInt 0)), (2, .int z3), (0, .ref 171), (1, .int v1)], [.int (Int32.ofInt 0), .int y73, .ref 171], 0, 0) 136 2 (fun _ => rfl) h) ?_
              refine pj_X_of (fun r h => pj_R_ifT 143 rfl rfl (pj_b0_eqT (by omega)) h) ?_
              refine pj_X_of (fun r h => pj_R_to (G69, 146, [(3, .int (Int32.ofInt 0)), (2, .int z3), (0, .ref 171), (1, .int v1)], [.int ((Int32.ofInt 1) <<< (v1 &&& 31)), .int y73, .ref 171], 0, 0) 146 4 (fun _ => rfl) h) ?_
              obtain ⟨z74, hz74⟩ : ∃ z : Int32, z = (Int32.ofInt 1) <<< (v1 &&& 31) := ⟨_, rfl⟩
              refine pj_X_eqi hz74.symm ?_
              rw [← hz74, pj_nm_e]
              have fz74_0 : 1 ≤ z74.toInt ∧ z74.toInt ≤ 32 := by rw [hz74]; exact pj_shlI5 (by omega) (by omega)
              refine pj_X_of (fun r h => pj_R_to (G69, 147, [(3, .int (Int32.ofInt 0)), (2, .int z3), (0, .ref 171), (1, .int v1)], [.int (y73 ||| z74), .ref 171], 0, 0) 147 2 (fun _ => rfl) h) ?_
              obtain ⟨z75, hz75⟩ : ∃ z : Int32, z = y73 ||| z74 := ⟨_, rfl⟩
              refine pj_X_eqi hz75.symm ?_
              rw [← hz75, pj_nm_e]
              refine pj_X_of (fun r h => pj_T_pf iG69 rfl rfl rfl h) ?_
              show pj_X _ _ (pj_wv G69 171 34 (.int z75)) 150 [(3, .int (Int32.ofInt 0)), (2, .int z3), (0, .ref 171), (1, .int v1)] [] _
              obtain ⟨G76, hG76⟩ : ∃ H, H = pj_wv G69 171 34 (.int z75) := ⟨_, rfl⟩
              have iG76 : pj_Inv G76 := by rw [hG76]; exact pj_Inv_wi iG69 (ci := 12) rfl (fun q hq => by cases hq)
              have kG76 : pj_kpt kc_224x G0 G76 := by rw [hG76]; exact pj_kpt_v kG69 rfl
              rw [← hG76]
              rw [pj_nm_e]
              refine pj_X_of (fun r h => pj_R_to (G76, 152, [(3, .int (Int32.ofInt 0)), (2, .int z3), (0, .ref 171), (1, .int v1)], [.ref 171, .ref 171], 0, 0) 152 3 (fun _ => rfl) h) ?_
              refine pj_X_of (fun r h => pj_T_gi iG76 rfl rfl h) ?_
              show pj_X _ _ G76 155 [(3, .int (Int32.ofInt 0)), (2, .int z3), (0, .ref 171), (1, .int v1)] [.int (pj_fi G76 171 35), .ref 171] _
              obtain ⟨y77, hy77⟩ : ∃ z : Int32, z = pj_fi G76 171 35 := ⟨_, rfl⟩
              refine pj_X_eqi hy77.symm ?_
              rw [← hy77, pj_nm_e]
              have ey77 : (pj_fi G76 171 35).toInt = y77.toInt := by rw [hy77]
              refine pj_X_of (fun r h => pj_R_to (G76, 156, [(3, .int (Int32.ofInt 0)), (2, .int z3), (0, .ref 171), (1, .int v1)], [.int (Int32.ofInt 0), .int y77, .ref 171], 0, 0) 156 2 (fun _ => rfl) h) ?_
              refine pj_X_of (fun r h => pj_R_ifF rfl (pj_b0_neF (by omega)) h) ?_
              refine pj_X_of (fun r h => pj_R_to (G76, 164, [(3, .int (Int32.ofInt 0)), (2, .int z3), (0, .ref 171), (1, .int v1)], [.int (Int32.ofInt 1), .int y77, .ref 171], 0, 0) 164 3 (fun _ => rfl) h) ?_
              refine pj_X_ca (vs := [.int (Int32.ofInt 1)]) rfl (fun _ => rfl) ⟨Nat.le_of_ble_eq_true rfl, Nat.le_of_ble_eq_true rfl, rfl⟩ ⟨rfl, rfl⟩ (pj_Y_up (by decide) (ct_172x G76 iG76 (Int32.ofInt 1) ⟨by omega, by omega⟩)) ?_
              rintro _ _ ⟨y78, rfl, rfl, ry78, ey78, fy78⟩
              rw [← fy78, pj_nm_e]
              show pj_X _ _ G76 167 [(3, .int (Int32.ofInt 0)), (2, .int z3), (0, .ref 171), (1, .int v1)] [.int y78, .int y77, .ref 171] _
              refine pj_X_of (fun r h => pj_R_to (G76, 168, [(3, .int (Int32.ofInt 0)), (2, .int z3), (0, .ref 171), (1, .int v1)], [.int (y77 + y78), .ref 171], 0, 0) 168 2 (fun _ => rfl) h) ?_
              obtain ⟨z79, hz79⟩ : ∃ z : Int32, z = y77 + y78 := ⟨_, rfl⟩
              refine pj_X_eqi hz79.symm ?_
              rw [← hz79, pj_nm_e]
              refine pj_X_of (fun r h => pj_T_pf iG76 rfl rfl rfl h) ?_
              show pj_X _ _ (pj_wv G76 171 35 (.int z79)) 171 [(3, .int (Int32.ofInt 0)), (2, .int z3), (0, .ref 171), (1, .int v1)] [] _
              obtain ⟨G80, hG80⟩ : ∃ H, H = pj_wv G76 171 35 (.int z79) := ⟨_, rfl⟩
              have iG80 : pj_Inv G80 := by rw [hG80]; exact pj_Inv_wi iG76 (ci := 12) rfl (fun q hq => by cases hq)
              have kG80 : pj_kpt kc_224x G0 G80 := by rw [hG80]; exact pj_kpt_v kG76 rfl
              rw [← hG80]
              rw [pj_nm_e]
              refine pj_X_of (fun r h => pj_R_to (G80, 172, [(3, .int (Int32.ofInt 0)), (2, .int z3), (0, .ref 171), (1, .int v1)], [.ref 171], 0, 0) 172 2 (fun _ => rfl) h) ?_
              refine pj_X_of (fun r h => pj_T_gr iG80 rfl rfl rfl h) ?_
              refine pj_X_of (fun r h => pj_R_to (G80, 178, [(3, .int (Int32.ofInt 0)), (2, .int z3), (0, .ref 171), (1, .int v1)], [.int ((Int8.ofInt 31).toInt32), .ref 179, .int ((Int8.ofInt 31).toInt32), .ref 179], 0, 0) 178 3 (fun _ => rfl) h) ?_
              refine pj_X_of (fun r h => pj_T_il iG80 rfl rfl (by omega) (by omega) h) ?_
              show pj_X _ _ G80 179 [(3, .int (Int32.ofInt 0)), (2, .int z3), (0, .ref 171), (1, .int v1)] [.int (pj_ai G80 179 ((Int8.ofInt 31).toInt32).toInt.toNat), .int ((Int8.ofInt 31).toInt32), .ref 179] _
              obtain ⟨z81, hz81⟩ : ∃ z : Int32, z = pj_ai G80 179 ((Int8.ofInt 31).toInt32).toInt.toNat := ⟨_, rfl⟩
              refine pj_X_eqi hz81.symm ?_
              rw [← hz81, pj_nm_e]
              have ez81 : (pj_ai G80 179 ((Int8.ofInt 31).toInt32).toInt.toNat).toInt = z81.toInt := by rw [hz81]
              refine pj_X_of (fun r h => pj_R_to (G80, 180, [(3, .int (Int32.ofInt 0)), (2, .int z3), (0, .ref 171), (1, .int v1)], [.int (Int32.ofInt 0), .int z81, .int ((Int8.ofInt 31).toInt32), .ref 179], 0, 0) 180 2 (fun _ => rfl) h) ?_
              refine pj_X_of (fun r h => pj_R_ifF rfl (pj_b0_neF (by omega)) h) ?_
              refine pj_X_of (fun r h => pj_R_to (G80, 188, [(3, .int (Int32.ofInt 0)), (2, .int z3), (0, .ref 171), (1, .int v1)], [.int (Int32.ofInt 1), .int z81, .int ((Int8.ofInt 31).toInt32), .ref 179], 0, 0) 188 3 (fun _ => rfl) h) ?_
              refine pj_X_ca (vs := [.int (Int32.ofInt 1)]) rfl (fun _ => rfl) ⟨Nat.le_of_ble_eq_true rfl, Nat.le_of_ble_eq_true rfl, rfl⟩ ⟨rfl, rfl⟩ (pj_Y_up (by decide) (ct_172x G80 iG80 (Int32.ofInt 1) ⟨by omega, by omega⟩)) ?_
              rintro _ _ ⟨y82, rfl, rfl, ry82, ey82, fy82⟩
              rw [← fy82, pj_nm_e]
              show pj_X _ _ G80 191 [(3, .int (Int32.ofInt 0)), (2, .int z3), (0, .ref 171), (1, .int v1)] [.int y82, .int z81, .int ((Int8.ofInt 31).toInt32), .ref 179] _
              refine pj_X_of (fun r h => pj_R_to (G80, 192, [(3, .int (Int32.ofInt 0)), (2, .int z3), (0, .ref 171), (1, .int v1)], [.int (z81 + y82), .int ((Int8.ofInt 31).toInt32), .ref 179], 0, 0) 192 2 (fun _ => rfl) h) ?_
              obtain ⟨z83, hz83⟩ : ∃ z : Int32, z = z81 + y82 := ⟨_, rfl⟩
              refine pj_X_eqi hz83.symm ?_
              rw [← hz83, pj_nm_e]
              refine pj_X_of (fun r h => pj_T_is iG80 rfl rfl (by omega) (by omega) h) ?_
              show pj_X _ _ (pj_wa G80 179 ((Int8.ofInt 31).toInt32).toInt.toNat z83) 193 [(3, .int (Int32.ofInt 0)), (2, .int z3), (0, .ref 171), (1, .int v1)] [] _
              obtain ⟨G84, hG84⟩ : ∃ H, H = pj_wa G80 179 ((Int8.ofInt 31).toInt32).toInt.toNat z83 := ⟨_, rfl⟩
              have iG84 : pj_Inv G84 := by rw [hG84]; exact pj_Inv_wa iG80 rfl (fun q hq => by cases hq) (fun n hn => ⟨fun h1 => ⟨fun h2 => by omega, fun h2 => by omega⟩, fun h1 => by omega⟩)
              have kG84 : pj_kpt kc_224x G0 G84 := by rw [hG84]; exact pj_kpt_a kG80 rfl
              rw [← hG84]
              rw [pj_nm_e]
              refine pj_X_of (fun r h => pj_R_to (G84, 196, [(1, .int (v1 + Int32.ofInt 1)), (3, .int (Int32.ofInt 0)), (2, .int z3), (0, .ref 171)], [], 0, 0) 196 2 (fun _ => rfl) h) ?_
              obtain ⟨z85, hz85⟩ : ∃ z : Int32, z = v1 + Int32.ofInt 1 := ⟨_, rfl⟩
              rw [← hz85]
              rw [pj_nm_e]
              have fz85_0 : z85.toInt = v1.toInt + (Int32.ofInt 1).toInt := by rw [hz85]; exact pj_addI (by have := pj_i32 v1; have := pj_i32 (Int32.ofInt 1); omega) (by have := pj_i32 v1; have := pj_i32 (Int32.ofInt 1); omega)
              refine pj_X_of (fun r h => pj_R_to (G84, 13, [(1, .int z85), (3, .int (Int32.ofInt 0)), (2, .int z3), (0, .ref 171)], [], 0, 0) 13 2 (fun _ => rfl) h) ?_
              exact pj_X_sub [(0, .ref 171), (1, .int z85)] (show List.Nodup [0, 1] by decide) ⟨rfl, rfl, trivial⟩ (ih G84 iG84 kG84 z85 ⟨by omega, by omega⟩ (by omega))
            | false =>
              rw [pj_cF]
              have ub72 := pj_u0_geF b72
              refine pj_X_of (fun r h => pj_R_ifF rfl b72 h) ?_
              refine pj_X_of (fun r h => pj_R_to (G69, 114, [(2, .int z3), (0, .ref 171), (1, .int v1)], [.ref 171], 0, 0) 114 2 (fun _ => rfl) h) ?_
              refine pj_X_of (fun r h => pj_T_gr iG69 rfl rfl rfl h) ?_
              refine pj_X_of (fun r h => pj_R_to (G69, 120, [(2, .int z3), (0, .ref 171), (1, .int v1)], [.int (z3 + (Int32.ofInt 1)), .ref 179], 0, 0) 120 4 (fun _ => rfl) h) ?_
              refine pj_X_eqi hz4.symm ?_
              refine pj_X_of (fun r h => pj_T_il iG69 rfl rfl (by omega) (by omega) h) ?_
              show pj_X _ _ G69 121 [(2, .int z3), (0, .ref 171), (1, .int v1)] [.int (pj_ai G69 179 z4.toInt.toNat)] _
              obtain ⟨z86, hz86⟩ : ∃ z : Int32, z = pj_ai G69 179 z4.toInt.toNat := ⟨_, rfl⟩
              refine pj_X_eqi hz86.symm ?_
              rw [← hz86, pj_nm_e]
              have ez86 : (pj_ai G69 179 z4.toInt.toNat).toInt = z86.toInt := by rw [hz86]
              have fz86_0 : 0 ≤ z86.toInt := by rw [hz86]; exact ((iG69.2.2.2 179 32 rfl _ (by show _ < 32; omega)).1 (by omega)).2 (by omega)
              cases b87 : pj_c1 .ne z86 0 with
              | true =>
                rw [pj_cT]
                have ub87 := pj_u0_neT b87
                refine pj_X_of (fun r h => pj_R_ifT 128 rfl rfl b87 h) ?_
                refine pj_X_of (fun r h => pj_R_to (G69, 132, [(3, .int (Int32.ofInt 0)), (2, .int z3), (0, .ref 171), (1, .int v1)], [.ref 171, .ref 171], 0, 0) 132 5 (fun _ => rfl) h) ?_
                refine pj_X_of (fun r h => pj_T_gi iG69 rfl rfl h) ?_
                show pj_X _ _ G69 135 [(3, .int (Int32.ofInt 0)), (2, .int z3), (0, .ref 171), (1, .int v1)] [.int (pj_fi G69 171 34), .ref 171] _
                obtain ⟨y88, hy88⟩ : ∃ z : Int32, z = pj_fi G69 171 34 := ⟨_, rfl⟩
                refine pj_X_eqi hy88.symm ?_
                rw [← hy88, pj_nm_e]
                have ey88 : (pj_fi G69 171 34).toInt = y88.toInt := by rw [hy88]
                refine pj_X_of (fun r h => pj_R_to (G69, 136, [(3, .int (Int32.ofInt 0)), (2, .int z3), (0, .ref 171), (1, .int v1)], [.int (Int32.ofInt 0), .int y88, .ref 171], 0, 0) 136 2 (fun _ => rfl) h) ?_
                refine pj_X_of (fun r h => pj_R_ifT 143 rfl rfl (pj_b0_eqT (by omega)) h) ?_
                refine pj_X_of (fun r h => pj_R_to (G69, 146, [(3, .int (Int32.ofInt 0)), (2, .int z3), (0, .ref 171), (1, .int v1)], [.int ((Int32.ofInt 1) <<< (v1 &&& 31)), .int y88, .ref 171], 0, 0) 146 4 (fun _ => rfl) h) ?_
                obtain ⟨z89, hz89⟩ : ∃ z : Int32, z = (Int32.ofInt 1) <<< (v1 &&& 31) := ⟨_, rfl⟩
                refine pj_X_eqi hz89.symm ?_
                rw [← hz89, pj_nm_e]
                have fz89_0 : 1 ≤ z89.toInt ∧ z89.toInt ≤ 32 := by rw [hz89]; exact pj_shlI5 (by omega) (by omega)
                refine pj_X_of (fun r h => pj_R_to (G69, 147, [(3, .int (Int32.ofInt 0)), (2, .int z3), (0, .ref 171), (1, .int v1)], [.int (y88 ||| z89), .ref 171], 0, 0) 147 2 (fun _ => rfl) h) ?_
                obtain ⟨z90, hz90⟩ : ∃ z : Int32, z = y88 ||| z89 := ⟨_, rfl⟩
                refine pj_X_eqi hz90.symm ?_
                rw [← hz90, pj_nm_e]
                refine pj_X_of (fun r h => pj_T_pf iG69 rfl rfl rfl h) ?_
                show pj_X _ _ (pj_wv G69 171 34 (.int z90)) 150 [(3, .int (Int32.ofInt 0)), (2, .int z3), (0, .ref 171), (1, .int v1)] [] _
                obtain ⟨G91, hG91⟩ : ∃ H, H = pj_wv G69 171 34 (.int z90) := ⟨_, rfl⟩
                have iG91 : pj_Inv G91 := by rw [hG91]; exact pj_Inv_wi iG69 (ci := 12) rfl (fun q hq => by cases hq)
                have kG91 : pj_kpt kc_224x G0 G91 := by rw [hG91]; exact pj_kpt_v kG69 rfl
                rw [← hG91]
                rw [pj_nm_e]
                refine pj_X_of (fun r h => pj_R_to (G91, 152, [(3, .int (Int32.ofInt 0)), (2, .int z3), (0, .ref 171), (1, .int v1)], [.ref 171, .ref 171], 0, 0) 152 3 (fun _ => rfl) h) ?_
                refine pj_X_of (fun r h => pj_T_gi iG91 rfl rfl h) ?_
                show pj_X _ _ G91 155 [(3, .int (Int32.ofInt 0)), (2, .int z3), (0, .ref 171), (1, .int v1)] [.int (pj_fi G91 171 35), .ref 171] _
                obtain ⟨y92, hy92⟩ : ∃ z : Int32, z = pj_fi G91 171 35 := ⟨_, rfl⟩
                refine pj_X_eqi hy92.symm ?_
                rw [← hy92, pj_nm_e]
                have ey92 : (pj_fi G91 171 35).toInt = y92.toInt := by rw [hy92]
                refine pj_X_of (fun r h => pj_R_to (G91, 156, [(3, .int (Int32.ofInt 0)), (2, .int z3), (0, .ref 171), (1, .int v1)], [.int (Int32.ofInt 0), .int y92, .ref 171], 0, 0) 156 2 (fun _ => rfl) h) ?_
                refine pj_X_of (fun r h => pj_R_ifF rfl (pj_b0_neF (by omega)) h) ?_
                refine pj_X_of (fun r h => pj_R_to (G91, 164, [(3, .int (Int32.ofInt 0)), (2, .int z3), (0, .ref 171), (1, .int v1)], [.int (Int32.ofInt 1), .int y92, .ref 171], 0, 0) 164 3 (fun _ => rfl) h) ?_
                refine pj_X_ca (vs := [.int (Int32.ofInt 1)]) rfl (fun _ => rfl) ⟨Nat.le_of_ble_eq_true rfl, Nat.le_of_ble_eq_true rfl, rfl⟩ ⟨rfl, rfl⟩ (pj_Y_up (by decide) (ct_172x G91 iG91 (Int32.ofInt 1) ⟨by omega, by omega⟩)) ?_
                rintro _ _ ⟨y93, rfl, rfl, ry93, ey93, fy93⟩
                rw [← fy93, pj_nm_e]
                show pj_X _ _ G91 167 [(3, .int (Int32.ofInt 0)), (2, .int z3), (0, .ref 171), (1, .int v1)] [.int y93, .int y92, .ref 171] _
                refine pj_X_of (fun r h => pj_R_to (G91, 168, [(3, .int (Int32.ofInt 0)), (2, .int z3), (0, .ref 171), (1, .int v1)], [.int (y92 + y93), .ref 171], 0, 0) 168 2 (fun _ => rfl) h) ?_
                obtain ⟨z94, hz94⟩ : ∃ z : Int32, z = y92 + y93 := ⟨_, rfl⟩
                refine pj_X_eqi hz94.symm ?_
                rw [← hz94, pj_nm_e]
                refine pj_X_of (fun r h => pj_T_pf iG91 rfl rfl rfl h) ?_
                show pj_X _ _ (pj_wv G91 171 35 (.int z94)) 171 [(3, .int (Int32.ofInt 0)), (2, .int z3), (0, .ref 171), (1, .int v1)] [] _
                obtain ⟨G95, hG95⟩ : ∃ H, H = pj_wv G91 171 35 (.int z94) := ⟨_, rfl⟩
                have iG95 : pj_Inv G95 := by rw [hG95]; exact pj_Inv_wi iG91 (ci := 12) rfl (fun q hq => by cases hq)
                have kG95 : pj_kpt kc_224x G0 G95 := by rw [hG95]; exact pj_kpt_v kG91 rfl
                rw [← hG95]
                rw [pj_nm_e]
                refine pj_X_of (fun r h => pj_R_to (G95, 172, [(3, .int (Int32.ofInt 0)), (2, .int z3), (0, .ref 171), (1, .int v1)], [.ref 171], 0, 0) 172 2 (fun _ => rfl) h) ?_
                refine pj_X_of (fun r h => pj_T_gr iG95 rfl rfl rfl h) ?_
                refine pj_X_of (fun r h => pj_R_to (G95, 178, [(3, .int (Int32.ofInt 0)), (2, .int z3), (0, .ref 171), (1, .int v1)], [.int ((Int8.ofInt 31).toInt32), .ref 179, .int ((Int8.ofInt 31).toInt32), .ref 179], 0, 0) 178 3 (fun _ => rfl) h) ?_
                refine pj_X_of (fun r h => pj_T_il iG95 rfl rfl (by omega) (by omega) h) ?_
                show pj_X _ _ G95 179 [(3, .int (Int32.ofInt 0)), (2, .int z3), (0, .ref 171), (1, .int v1)] [.int (pj_ai G95 179 ((Int8.ofInt 31).toInt32).toInt.toNat), .int ((Int8.ofInt 31).toInt32), .ref 179] _
                obtain ⟨z96, hz96⟩ : ∃ z : Int32, z = pj_ai G95 179 ((Int8.ofInt 31).toInt32).toInt.toNat := ⟨_, rfl⟩
                refine pj_X_eqi hz96.symm ?_
                rw [← hz96, pj_nm_e]
                have ez96 : (pj_ai G95 179 ((Int8.ofInt 31).toInt32).toInt.toNat).toInt = z96.toInt := by rw [hz96]
                refine pj_X_of (fun r h => pj_R_to (G95, 180, [(3, .int (Int32.ofInt 0)), (2, .int z3), (0, .ref 171), (1, .int v1)], [.int (Int32.ofInt 0), .int z96, .int ((Int8.ofInt 31).toInt32), .ref 179], 0, 0) 180 2 (fun _ => rfl) h) ?_
                refine pj_X_of (fun r h => pj_R_ifF rfl (pj_b0_neF (by omega)) h) ?_
                refine pj_X_of (fun r h => pj_R_to (G95, 188, [(3, .int (Int32.ofInt 0)), (2, .int z3), (0, .ref 171), (1, .int v1)], [.int (Int32.ofInt 1), .int z96, .int ((Int8.ofInt 31).toInt32), .ref 179], 0, 0) 188 3 (fun _ => rfl) h) ?_
                refine pj_X_ca (vs := [.int (Int32.ofInt 1)]) rfl (fun _ => rfl) ⟨Nat.le_of_ble_eq_true rfl, Nat.le_of_ble_eq_true rfl, rfl⟩ ⟨rfl, rfl⟩ (pj_Y_up (by decide) (ct_172x G95 iG95 (Int32.ofInt 1) ⟨by omega, by omega⟩)) ?_
                rintro _ _ ⟨y97, rfl, rfl, ry97, ey97, fy97⟩
                rw [← fy97, pj_nm_e]
                show pj_X _ _ G95 191 [(3, .int (Int32.ofInt 0)), (2, .int z3), (0, .ref 171), (1, .int v1)] [.int y97, .int z96, .int ((Int8.ofInt 31).toInt32), .ref 179] _
                refine pj_X_of (fun r h => pj_R_to (G95, 192, [(3, .int (Int32.ofInt 0)), (2, .int z3), (0, .ref 171), (1, .int v1)], [.int (z96 + y97), .int ((Int8.ofInt 31).toInt32), .ref 179], 0, 0) 192 2 (fun _ => rfl) h) ?_
                obtain ⟨z98, hz98⟩ : ∃ z : Int32, z = z96 + y97 := ⟨_, rfl⟩
                refine pj_X_eqi hz98.symm ?_
                rw [← hz98, pj_nm_e]
                refine pj_X_of (fun r h => pj_T_is iG95 rfl rfl (by omega) (by omega) h) ?_
                show pj_X _ _ (pj_wa G95 179 ((Int8.ofInt 31).toInt32).toInt.toNat z98) 193 [(3, .int (Int32.ofInt 0)), (2, .int z3), (0, .ref 171), (1, .int v1)] [] _
                obtain ⟨G99, hG99⟩ : ∃ H, H = pj_wa G95 179 ((Int8.ofInt 31).toInt32).toInt.toNat z98 := ⟨_, rfl⟩
                have iG99 : pj_Inv G99 := by rw [hG99]; exact pj_Inv_wa iG95 rfl (fun q hq => by cases hq) (fun n hn => ⟨fun h1 => ⟨fun h2 => by omega, fun h2 => by omega⟩, fun h1 => by omega⟩)
                have kG99 : pj_kpt kc_224x G0 G99 := by rw [hG99]; exact pj_kpt_a kG95 rfl
                rw [← hG99]
                rw [pj_nm_e]
                refine pj_X_of (fun r h => pj_R_to (G99, 196, [(1, .int (v1 + Int32.ofInt 1)), (3, .int (Int32.ofInt 0)), (2, .int z3), (0, .ref 171)], [], 0, 0) 196 2 (fun _ => rfl) h) ?_
                obtain ⟨z100, hz100⟩ : ∃ z : Int32, z = v1 + Int32.ofInt 1 := ⟨_, rfl⟩
                rw [← hz100]
                rw [pj_nm_e]
                have fz100_0 : z100.toInt = v1.toInt + (Int32.ofInt 1).toInt := by rw [hz100]; exact pj_addI (by have := pj_i32 v1; have := pj_i32 (Int32.ofInt 1); omega) (by have := pj_i32 v1; have := pj_i32 (Int32.ofInt 1); omega)
                refine pj_X_of (fun r h => pj_R_to (G99, 13, [(1, .int z100), (3, .int (Int32.ofInt 0)), (2, .int z3), (0, .ref 171)], [], 0, 0) 13 2 (fun _ => rfl) h) ?_
                exact pj_X_sub [(0, .ref 171), (1, .int z100)] (show List.Nodup [0, 1] by decide) ⟨rfl, rfl, trivial⟩ (ih G99 iG99 kG99 z100 ⟨by omega, by omega⟩ (by omega))
              | false =>
                rw [pj_cF]
                have ub87 := pj_u0_neF b87
                refine pj_X_of (fun r h => pj_R_ifF rfl b87 h) ?_
                refine pj_X_of (fun r h => pj_R_to (G69, 132, [(3, .int (Int32.ofInt 1)), (2, .int z3), (0, .ref 171), (1, .int v1)], [.ref 171, .ref 171], 0, 0) 132 6 (fun _ => rfl) h) ?_
                refine pj_X_of (fun r h => pj_T_gi iG69 rfl rfl h) ?_
                show pj_X _ _ G69 135 [(3, .int (Int32.ofInt 1)), (2, .int z3), (0, .ref 171), (1, .int v1)] [.int (pj_fi G69 171 34), .ref 171] _
                obtain ⟨y101, hy101⟩ : ∃ z : Int32, z = pj_fi G69 171 34 := ⟨_, rfl⟩
                refine pj_X_eqi hy101.symm ?_
                rw [← hy101, pj_nm_e]
                have ey101 : (pj_fi G69 171 34).toInt = y101.toInt := by rw [hy101]
                refine pj_X_of (fun r h => pj_R_to (G69, 136, [(3, .int (Int32.ofInt 1)), (2, .int z3), (0, .ref 171), (1, .int v1)], [.int (Int32.ofInt 1), .int y101, .ref 171], 0, 0) 136 2 (fun _ => rfl) h) ?_
                refine pj_X_of (fun r h => pj_R_ifF rfl (pj_b0_eqF (by omega)) h) ?_
                refine pj_X_of (fun r h => pj_R_to (G69, 147, [(3, .int (Int32.ofInt 1)), (2, .int z3), (0, .ref 171), (1, .int v1)], [.int (y101 ||| (Int32.ofInt 0)), .ref 171], 0, 0) 147 4 (fun _ => rfl) h) ?_
                obtain ⟨z102, hz102⟩ : ∃ z : Int32, z = y101 ||| (Int32.ofInt 0) := ⟨_, rfl⟩
                refine pj_X_eqi hz102.symm ?_
                rw [← hz102, pj_nm_e]
                refine pj_X_of (fun r h => pj_T_pf iG69 rfl rfl rfl h) ?_
                show pj_X _ _ (pj_wv G69 171 34 (.int z102)) 150 [(3, .int (Int32.ofInt 1)), (2, .int z3), (0, .ref 171), (1, .int v1)] [] _
                obtain ⟨G103, hG103⟩ : ∃ H, H = pj_wv G69 171 34 (.int z102) := ⟨_, rfl⟩
                have iG103 : pj_Inv G103 := by rw [hG103]; exact pj_Inv_wi iG69 (ci := 12) rfl (fun q hq => by cases hq)
                have kG103 : pj_kpt kc_224x G0 G103 := by rw [hG103]; exact pj_kpt_v kG69 rfl
                rw [← hG103]
                rw [pj_nm_e]
                refine pj_X_of (fun r h => pj_R_to (G103, 152, [(3, .int (Int32.ofInt 1)), (2, .int z3), (0, .ref 171), (1, .int v1)], [.ref 171, .ref 171], 0, 0) 152 3 (fun _ => rfl) h) ?_
                refine pj_X_of (fun r h => pj_T_gi iG103 rfl rfl h) ?_
                show pj_X _ _ G103 155 [(3, .int (Int32.ofInt 1)), (2, .int z3), (0, .ref 171), (1, .int v1)] [.int (pj_fi G103 171 35), .ref 171] _
                obtain ⟨y104, hy104⟩ : ∃ z : Int32, z = pj_fi G103 171 35 := ⟨_, rfl⟩
                refine pj_X_eqi hy104.symm ?_
                rw [← hy104, pj_nm_e]
                have ey104 : (pj_fi G103 171 35).toInt = y104.toInt := by rw [hy104]
                refine pj_X_of (fun r h => pj_R_to (G103, 156, [(3, .int (Int32.ofInt 1)), (2, .int z3), (0, .ref 171), (1, .int v1)], [.int (Int32.ofInt 1), .int y104, .ref 171], 0, 0) 156 2 (fun _ => rfl) h) ?_
                refine pj_X_of (fun r h => pj_R_ifT 163 rfl rfl (pj_b0_neT (by omega)) h) ?_
                refine pj_X_of (fun r h => pj_R_to (G103, 164, [(3, .int (Int32.ofInt 1)), (2, .int z3), (0, .ref 171), (1, .int v1)], [.int (Int32.ofInt 0), .int y104, .ref 171], 0, 0) 164 2 (fun _ => rfl) h) ?_
                refine pj_X_ca (vs := [.int (Int32.ofInt 0)]) rfl (fun _ => rfl) ⟨Nat.le_of_ble_eq_true rfl, Nat.le_of_ble_eq_true rfl, rfl⟩ ⟨rfl, rfl⟩ (pj_Y_up (by decide) (ct_172x G103 iG103 (Int32.ofInt 0) ⟨by omega, by omega⟩)) ?_
                rintro _ _ ⟨y105, rfl, rfl, ry105, ey105, fy105⟩
                rw [← fy105, pj_nm_e]
                show pj_X _ _ G103 167 [(3, .int (Int32.ofInt 1)), (2, .int z3), (0, .ref 171), (1, .int v1)] [.int y105, .int y104, .ref 171] _
                refine pj_X_of (fun r h => pj_R_to (G103, 168, [(3, .int (Int32.ofInt 1)), (2, .int z3), (0, .ref 171), (1, .int v1)], [.int (y104 + y105), .ref 171], 0, 0) 168 2 (fun _ => rfl) h) ?_
                obtain ⟨z106, hz106⟩ : ∃ z : Int32, z = y104 + y105 := ⟨_, rfl⟩
                refine pj_X_eqi hz106.symm ?_
                rw [← hz106, pj_nm_e]
                refine pj_X_of (fun r h => pj_T_pf iG103 rfl rfl rfl h) ?_
                show pj_X _ _ (pj_wv G103 171 35 (.int z106)) 171 [(3, .int (Int32.ofInt 1)), (2, .int z3), (0, .ref 171), (1, .int v1)] [] _
                obtain ⟨G107, hG107⟩ : ∃ H, H = pj_wv G103 171 35 (.int z106) := ⟨_, rfl⟩
                have iG107 : pj_Inv G107 := by rw [hG107]; exact pj_Inv_wi iG103 (ci := 12) rfl (fun q hq => by cases hq)
                have kG107 : pj_kpt kc_224x G0 G107 := by rw [hG107]; exact pj_kpt_v kG103 rfl
                rw [← hG107]
                rw [pj_nm_e]
                refine pj_X_of (fun r h => pj_R_to (G107, 172, [(3, .int (Int32.ofInt 1)), (2, .int z3), (0, .ref 171), (1, .int v1)], [.ref 171], 0, 0) 172 2 (fun _ => rfl) h) ?_
                refine pj_X_of (fun r h => pj_T_gr iG107 rfl rfl rfl h) ?_
                refine pj_X_of (fun r h => pj_R_to (G107, 178, [(3, .int (Int32.ofInt 1)), (2, .int z3), (0, .ref 171), (1, .int v1)], [.int ((Int8.ofInt 31).toInt32), .ref 179, .int ((Int8.ofInt 31).toInt32), .ref 179], 0, 0) 178 3 (fun _ => rfl) h) ?_
                refine pj_X_of (fun r h => pj_T_il iG107 rfl rfl (by omega) (by omega) h) ?_
                show pj_X _ _ G107 179 [(3, .int (Int32.ofInt 1)), (2, .int z3), (0, .ref 171), (1, .int v1)] [.int (pj_ai G107 179 ((Int8.ofInt 31).toInt32).toInt.toNat), .int ((Int8.ofInt 31).toInt32), .ref 179] _
                obtain ⟨z108, hz108⟩ : ∃ z : Int32, z = pj_ai G107 179 ((Int8.ofInt 31).toInt32).toInt.toNat := ⟨_, rfl⟩
                refine pj_X_eqi hz108.symm ?_
                rw [← hz108, pj_nm_e]
                have ez108 : (pj_ai G107 179 ((Int8.ofInt 31).toInt32).toInt.toNat).toInt = z108.toInt := by rw [hz108]
                refine pj_X_of (fun r h => pj_R_to (G107, 180, [(3, .int (Int32.ofInt 1)), (2, .int z3), (0, .ref 171), (1, .int v1)], [.int (Int32.ofInt 1), .int z108, .int ((Int8.ofInt 31).toInt32), .ref 179], 0, 0) 180 2 (fun _ => rfl) h) ?_
                refine pj_X_of (fun r h => pj_R_ifT 187 rfl rfl (pj_b0_neT (by omega)) h) ?_
                refine pj_X_of (fun r h => pj_R_to (G107, 188, [(3, .int (Int32.ofInt 1)), (2, .int z3), (0, .ref 171), (1, .int v1)], [.int (Int32.ofInt 0), .int z108, .int ((Int8.ofInt 31).toInt32), .ref 179], 0, 0) 188 2 (fun _ => rfl) h) ?_
                refine pj_X_ca (vs := [.int (Int32.ofInt 0)]) rfl (fun _ => rfl) ⟨Nat.le_of_ble_eq_true rfl, Nat.le_of_ble_eq_true rfl, rfl⟩ ⟨rfl, rfl⟩ (pj_Y_up (by decide) (ct_172x G107 iG107 (Int32.ofInt 0) ⟨by omega, by omega⟩)) ?_
                rintro _ _ ⟨y109, rfl, rfl, ry109, ey109, fy109⟩
                rw [← fy109, pj_nm_e]
                show pj_X _ _ G107 191 [(3, .int (Int32.ofInt 1)), (2, .int z3), (0, .ref 171), (1, .int v1)] [.int y109, .int z108, .int ((Int8.ofInt 31).toInt32), .ref 179] _
                refine pj_X_of (fun r h => pj_R_to (G107, 192, [(3, .int (Int32.ofInt 1)), (2, .int z3), (0, .ref 171), (1, .int v1)], [.int (z108 + y109), .int ((Int8.ofInt 31).toInt32), .ref 179], 0, 0) 192 2 (fun _ => rfl) h) ?_
                obtain ⟨z110, hz110⟩ : ∃ z : Int32, z = z108 + y109 := ⟨_, rfl⟩
                refine pj_X_eqi hz110.symm ?_
                rw [← hz110, pj_nm_e]
                refine pj_X_of (fun r h => pj_T_is iG107 rfl rfl (by omega) (by omega) h) ?_
                show pj_X _ _ (pj_wa G107 179 ((Int8.ofInt 31).toInt32).toInt.toNat z110) 193 [(3, .int (Int32.ofInt 1)), (2, .int z3), (0, .ref 171), (1, .int v1)] [] _
                obtain ⟨G111, hG111⟩ : ∃ H, H = pj_wa G107 179 ((Int8.ofInt 31).toInt32).toInt.toNat z110 := ⟨_, rfl⟩
                have iG111 : pj_Inv G111 := by rw [hG111]; exact pj_Inv_wa iG107 rfl (fun q hq => by cases hq) (fun n hn => ⟨fun h1 => ⟨fun h2 => by omega, fun h2 => by omega⟩, fun h1 => by omega⟩)
                have kG111 : pj_kpt kc_224x G0 G111 := by rw [hG111]; exact pj_kpt_a kG107 rfl
                rw [← hG111]
                rw [pj_nm_e]
                refine pj_X_of (fun r h => pj_R_to (G111, 196, [(1, .int (v1 + Int32.ofInt 1)), (3, .int (Int32.ofInt 1)), (2, .int z3), (0, .ref 171)], [], 0, 0) 196 2 (fun _ => rfl) h) ?_
                obtain ⟨z112, hz112⟩ : ∃ z : Int32, z = v1 + Int32.ofInt 1 := ⟨_, rfl⟩
                rw [← hz112]
                rw [pj_nm_e]
                have fz112_0 : z112.toInt = v1.toInt + (Int32.ofInt 1).toInt := by rw [hz112]; exact pj_addI (by have := pj_i32 v1; have := pj_i32 (Int32.ofInt 1); omega) (by have := pj_i32 v1; have := pj_i32 (Int32.ofInt 1); omega)
                refine pj_X_of (fun r h => pj_R_to (G111, 13, [(1, .int z112), (3, .int (Int32.ofInt 1)), (2, .int z3), (0, .ref 171)], [], 0, 0) 13 2 (fun _ => rfl) h) ?_
                exact pj_X_sub [(0, .ref 171), (1, .int z112)] (show List.Nodup [0, 1] by decide) ⟨rfl, rfl, trivial⟩ (ih G111 iG111 kG111 z112 ⟨by omega, by omega⟩ (by omega))
        | false =>
          rw [pj_cF]
          have ub61 := pj_u0_neF b61
          refine pj_X_of (fun r h => pj_R_ifF rfl b61 h) ?_
          refine pj_X_of (fun r h => pj_R_to (G57, 67, [(2, .int z3), (0, .ref 171), (1, .int v1)], [.int ((Int32.ofInt 1) <<< (v1 &&& 31)), .int y58, .ref 171], 0, 0) 67 4 (fun _ => rfl) h) ?_
          obtain ⟨z113, hz113⟩ : ∃ z : Int32, z = (Int32.ofInt 1) <<< (v1 &&& 31) := ⟨_, rfl⟩
          refine pj_X_eqi hz113.symm ?_
          rw [← hz113, pj_nm_e]
          have fz113_0 : 1 ≤ z113.toInt ∧ z113.toInt ≤ 32 := by rw [hz113]; exact pj_shlI5 (by omega) (by omega)
          refine pj_X_of (fun r h => pj_R_to (G57, 72, [(2, .int z3), (0, .ref 171), (1, .int v1)], [.int (y58 ||| z113), .ref 171], 0, 0) 72 3 (fun _ => rfl) h) ?_
          obtain ⟨z114, hz114⟩ : ∃ z : Int32, z = y58 ||| z113 := ⟨_, rfl⟩
          refine pj_X_eqi hz114.symm ?_
          rw [← hz114, pj_nm_e]
          refine pj_X_of (fun r h => pj_T_pf iG57 rfl rfl rfl h) ?_
          show pj_X _ _ (pj_wv G57 171 33 (.int z114)) 75 [(2, .int z3), (0, .ref 171), (1, .int v1)] [] _
          obtain ⟨G115, hG115⟩ : ∃ H, H = pj_wv G57 171 33 (.int z114) := ⟨_, rfl⟩
          have iG115 : pj_Inv G115 := by rw [hG115]; exact pj_Inv_wi iG57 (ci := 12) rfl (fun q hq => by cases hq)
          have kG115 : pj_kpt kc_224x G0 G115 := by rw [hG115]; exact pj_kpt_v kG57 rfl
          rw [← hG115]
          rw [pj_nm_e]
          refine pj_X_of (fun r h => pj_R_to (G115, 76, [(2, .int z3), (0, .ref 171), (1, .int v1)], [.ref 171], 0, 0) 76 2 (fun _ => rfl) h) ?_
          refine pj_X_of (fun r h => pj_T_gr iG115 rfl rfl rfl h) ?_
          refine pj_X_of (fun r h => pj_R_to (G115, 82, [(2, .int z3), (0, .ref 171), (1, .int v1)], [.int (z3 + (Int32.ofInt 2)), .ref 179], 0, 0) 82 4 (fun _ => rfl) h) ?_
          obtain ⟨z116, hz116⟩ : ∃ z : Int32, z = z3 + (Int32.ofInt 2) := ⟨_, rfl⟩
          refine pj_X_eqi hz116.symm ?_
          rw [← hz116, pj_nm_e]
          have fz116_0 : z116.toInt = z3.toInt + (Int32.ofInt 2).toInt := by rw [hz116]; exact pj_addI (by have := pj_i32 z3; have := pj_i32 (Int32.ofInt 2); omega) (by have := pj_i32 z3; have := pj_i32 (Int32.ofInt 2); omega)
          refine pj_X_of (fun r h => pj_T_il iG115 rfl rfl (by omega) (by omega) h) ?_
          show pj_X _ _ G115 83 [(2, .int z3), (0, .ref 171), (1, .int v1)] [.int (pj_ai G115 179 z116.toInt.toNat)] _
          obtain ⟨z117, hz117⟩ : ∃ z : Int32, z = pj_ai G115 179 z116.toInt.toNat := ⟨_, rfl⟩
          refine pj_X_eqi hz117.symm ?_
          rw [← hz117, pj_nm_e]
          have ez117 : (pj_ai G115 179 z116.toInt.toNat).toInt = z117.toInt := by rw [hz117]
          refine pj_X_of (fun r h => pj_R_to (G115, 84, [(2, .int z3), (0, .ref 171), (1, .int v1)], [.ref 171, .int z117], 0, 0) 84 2 (fun _ => rfl) h) ?_
          refine pj_X_of (fun r h => pj_T_gr iG115 rfl rfl rfl h) ?_
          refine pj_X_of (fun r h => pj_R_to (G115, 89, [(2, .int z3), (0, .ref 171), (1, .int v1)], [.int ((Int8.ofInt 30).toInt32), .ref 179, .int z117], 0, 0) 89 2 (fun _ => rfl) h) ?_
          refine pj_X_of (fun r h => pj_T_il iG115 rfl rfl (by omega) (by omega) h) ?_
          show pj_X _ _ G115 90 [(2, .int z3), (0, .ref 171), (1, .int v1)] [.int (pj_ai G115 179 ((Int8.ofInt 30).toInt32).toInt.toNat), .int z117] _
          obtain ⟨z118, hz118⟩ : ∃ z : Int32, z = pj_ai G115 179 ((Int8.ofInt 30).toInt32).toInt.toNat := ⟨_, rfl⟩
          refine pj_X_eqi hz118.symm ?_
          rw [← hz118, pj_nm_e]
          have ez118 : (pj_ai G115 179 ((Int8.ofInt 30).toInt32).toInt.toNat).toInt = z118.toInt := by rw [hz118]
          cases b119 : pj_c1 .ne z117 z118 with
          | true =>
            rw [pj_cT]
            have ub119 := pj_u_neT b119
            refine pj_X_of (fun r h => pj_R_icT 193 rfl rfl b119 h) ?_
            refine pj_X_of (fun r h => pj_R_to (G115, 196, [(1, .int (v1 + Int32.ofInt 1)), (2, .int z3), (0, .ref 171)], [], 0, 0) 196 2 (fun _ => rfl) h) ?_
            obtain ⟨z120, hz120⟩ : ∃ z : Int32, z = v1 + Int32.ofInt 1 := ⟨_, rfl⟩
            rw [← hz120]
            rw [pj_nm_e]
            have fz120_0 : z120.toInt = v1.toInt + (Int32.ofInt 1).toInt := by rw [hz120]; exact pj_addI (by have := pj_i32 v1; have := pj_i32 (Int32.ofInt 1); omega) (by have := pj_i32 v1; have := pj_i32 (Int32.ofInt 1); omega)
            refine pj_X_of (fun r h => pj_R_to (G115, 13, [(1, .int z120), (2, .int z3), (0, .ref 171)], [], 0, 0) 13 2 (fun _ => rfl) h) ?_
            exact pj_X_sub [(0, .ref 171), (1, .int z120)] (show List.Nodup [0, 1] by decide) ⟨rfl, rfl, trivial⟩ (ih G115 iG115 kG115 z120 ⟨by omega, by omega⟩ (by omega))
          | false =>
            rw [pj_cF]
            have ub119 := pj_u_neF b119
            refine pj_X_of (fun r h => pj_R_icF rfl b119 h) ?_
            refine pj_X_of (fun r h => pj_R_to (G115, 94, [(2, .int z3), (0, .ref 171), (1, .int v1)], [.ref 171], 0, 0) 94 2 (fun _ => rfl) h) ?_
            refine pj_X_of (fun r h => pj_T_gr iG115 rfl rfl rfl h) ?_
            refine pj_X_of (fun r h => pj_R_to (G115, 100, [(2, .int z3), (0, .ref 171), (1, .int v1)], [.int (z3 + (Int32.ofInt 2)), .ref 179], 0, 0) 100 4 (fun _ => rfl) h) ?_
            refine pj_X_eqi hz116.symm ?_
            refine pj_X_of (fun r h => pj_R_to (G115, 101, [(2, .int z3), (0, .ref 171), (1, .int v1)], [.int (Int32.ofInt (-1)), .int z116, .ref 179], 0, 0) 101 2 (fun _ => rfl) h) ?_
            refine pj_X_of (fun r h => pj_T_is iG115 rfl rfl (by omega) (by omega) h) ?_
            show pj_X _ _ (pj_wa G115 179 z116.toInt.toNat (Int32.ofInt (-1))) 102 [(2, .int z3), (0, .ref 171), (1, .int v1)] [] _
            obtain ⟨G121, hG121⟩ : ∃ H, H = pj_wa G115 179 z116.toInt.toNat (Int32.ofInt (-1)) := ⟨_, rfl⟩
            have iG121 : pj_Inv G121 := by rw [hG121]; exact pj_Inv_wa iG115 rfl (fun q hq => by cases hq) (fun n hn => ⟨fun h1 => ⟨fun h2 => by omega, fun h2 => by omega⟩, fun h1 => by omega⟩)
            have kG121 : pj_kpt kc_224x G0 G121 := by rw [hG121]; exact pj_kpt_a kG115 rfl
            rw [← hG121]
            rw [pj_nm_e]
            refine pj_X_of (fun r h => pj_R_to (G121, 103, [(2, .int z3), (0, .ref 171), (1, .int v1)], [.ref 171], 0, 0) 103 2 (fun _ => rfl) h) ?_
            refine pj_X_of (fun r h => pj_T_gr iG121 rfl rfl rfl h) ?_
            refine pj_X_of (fun r h => pj_R_to (G121, 109, [(2, .int z3), (0, .ref 171), (1, .int v1)], [.int (z3 + (Int32.ofInt 0)), .ref 179], 0, 0) 109 4 (fun _ => rfl) h) ?_
            obtain ⟨z122, hz122⟩ : ∃ z : Int32, z = z3 + (Int32.ofInt 0) := ⟨_, rfl⟩
            refine pj_X_eqi hz122.symm ?_
            rw [← hz122, pj_nm_e]
            have fz122_0 : z122.toInt = z3.toInt + (Int32.ofInt 0).toInt := by rw [hz122]; exact pj_addI (by have := pj_i32 z3; have := pj_i32 (Int32.ofInt 0); omega) (by have := pj_i32 z3; have := pj_i32 (Int32.ofInt 0); omega)
            refine pj_X_of (fun r h => pj_T_il iG121 rfl rfl (by omega) (by omega) h) ?_
            show pj_X _ _ G121 110 [(2, .int z3), (0, .ref 171), (1, .int v1)] [.int (pj_ai G121 179 z122.toInt.toNat)] _
            obtain ⟨z123, hz123⟩ : ∃ z : Int32, z = pj_ai G121 179 z122.toInt.toNat := ⟨_, rfl⟩
            refine pj_X_eqi hz123.symm ?_
            rw [← hz123, pj_nm_e]
            have ez123 : (pj_ai G121 179 z122.toInt.toNat).toInt = z123.toInt := by rw [hz123]
            have fz123_0 : -1 ≤ z123.toInt ∧ z123.toInt ≤ 9 := by rw [hz123]; exact ((iG121.2.2.2 179 32 rfl _ (by show _ < 32; omega)).1 (by omega)).1 (by omega)
            cases b124 : pj_c1 .ge z123 0 with
            | true =>
              rw [pj_cT]
              have ub124 := pj_u0_geT b124
              refine pj_X_of (fun r h => pj_R_ifT 128 rfl rfl b124 h) ?_
              refine pj_X_of (fun r h => pj_R_to (G121, 132, [(3, .int (Int32.ofInt 0)), (2, .int z3), (0, .ref 171), (1, .int v1)], [.ref 171, .ref 171], 0, 0) 132 5 (fun _ => rfl) h) ?_
              refine pj_X_of (fun r h => pj_T_gi iG121 rfl rfl h) ?_
              show pj_X _ _ G121 135 [(3, .int (Int32.ofInt 0)), (2, .int z3), (0, .ref 171), (1, .int v1)] [.int (pj_fi G121 171 34), .ref 171] _
              obtain ⟨y125, hy125⟩ : ∃ z : Int32, z = pj_fi G121 171 34 := ⟨_, rfl⟩
              refine pj_X_eqi hy125.symm ?_
              rw [← hy125, pj_nm_e]
              have ey125 : (pj_fi G121 171 34).toInt = y125.toInt := by rw [hy125]
              refine pj_X_of (fun r h => pj_R_to (G121, 136, [(3, .int (Int32.ofInt 0)), (2, .int z3), (0, .ref 171), (1, .int v1)], [.int (Int32.ofInt 0), .int y125, .ref 171], 0, 0) 136 2 (fun _ => rfl) h) ?_
              refine pj_X_of (fun r h => pj_R_ifT 143 rfl rfl (pj_b0_eqT (by omega)) h) ?_
              refine pj_X_of (fun r h => pj_R_to (G121, 146, [(3, .int (Int32.ofInt 0)), (2, .int z3), (0, .ref 171), (1, .int v1)], [.int ((Int32.ofInt 1) <<< (v1 &&& 31)), .int y125, .ref 171], 0, 0) 146 4 (fun _ => rfl) h) ?_
              refine pj_X_eqi hz113.symm ?_
              refine pj_X_of (fun r h => pj_R_to (G121, 147, [(3, .int (Int32.ofInt 0)), (2, .int z3), (0, .ref 171), (1, .int v1)], [.int (y125 ||| z113), .ref 171], 0, 0) 147 2 (fun _ => rfl) h) ?_
              obtain ⟨z126, hz126⟩ : ∃ z : Int32, z = y125 ||| z113 := ⟨_, rfl⟩
              refine pj_X_eqi hz126.symm ?_
              rw [← hz126, pj_nm_e]
              refine pj_X_of (fun r h => pj_T_pf iG121 rfl rfl rfl h) ?_
              show pj_X _ _ (pj_wv G121 171 34 (.int z126)) 150 [(3, .int (Int32.ofInt 0)), (2, .int z3), (0, .ref 171), (1, .int v1)] [] _
              obtain ⟨G127, hG127⟩ : ∃ H, H = pj_wv G121 171 34 (.int z126) := ⟨_, rfl⟩
              have iG127 : pj_Inv G127 := by rw [hG127]; exact pj_Inv_wi iG121 (ci := 12) rfl (fun q hq => by cases hq)
              have kG127 : pj_kpt kc_224x G0 G127 := by rw [hG127]; exact pj_kpt_v kG121 rfl
              rw [← hG127]
              rw [pj_nm_e]
              refine pj_X_of (fun r h => pj_R_to (G127, 152, [(3, .int (Int32.ofInt 0)), (2, .int z3), (0, .ref 171), (1, .int v1)], [.ref 171, .ref 171], 0, 0) 152 3 (fun _ => rfl) h) ?_
              refine pj_X_of (fun r h => pj_T_gi iG127 rfl rfl h) ?_
              show pj_X _ _ G127 155 [(3, .int (Int32.ofInt 0)), (2, .int z3), (0, .ref 171), (1, .int v1)] [.int (pj_fi G127 171 35), .ref 171] _
              obtain ⟨y128, hy128⟩ : ∃ z : Int32, z = pj_fi G127 171 35 := ⟨_, rfl⟩
              refine pj_X_eqi hy128.symm ?_
              rw [← hy128, pj_nm_e]
              have ey128 : (pj_fi G127 171 35).toInt = y128.toInt := by rw [hy128]
              refine pj_X_of (fun r h => pj_R_to (G127, 156, [(3, .int (Int32.ofInt 0)), (2, .int z3), (0, .ref 171), (1, .int v1)], [.int (Int32.ofInt 0), .int y128, .ref 171], 0, 0) 156 2 (fun _ => rfl) h) ?_
              refine pj_X_of (fun r h => pj_R_ifF rfl (pj_b0_neF (by omega)) h) ?_
              refine pj_X_of (fun r h => pj_R_to (G127, 164, [(3, .int (Int32.ofInt 0)), (2, .int z3), (0, .ref 171), (1, .int v1)], [.int (Int32.ofInt 1), .int y128, .ref 171], 0, 0) 164 3 (fun _ => rfl) h) ?_
              refine pj_X_ca (vs := [.int (Int32.ofInt 1)]) rfl (fun _ => rfl) ⟨Nat.le_of_ble_eq_true rfl, Nat.le_of_ble_eq_true rfl, rfl⟩ ⟨rfl, rfl⟩ (pj_Y_up (by decide) (ct_172x G127 iG127 (Int32.ofInt 1) ⟨by omega, by omega⟩)) ?_
              rintro _ _ ⟨y129, rfl, rfl, ry129, ey129, fy129⟩
              rw [← fy129, pj_nm_e]
              show pj_X _ _ G127 167 [(3, .int (Int32.ofInt 0)), (2, .int z3), (0, .ref 171), (1, .int v1)] [.int y129, .int y128, .ref 171] _
              refine pj_X_of (fun r h => pj_R_to (G127, 168, [(3, .int (Int32.ofInt 0)), (2, .int z3), (0, .ref 171), (1, .int v1)], [.int (y128 + y129), .ref 171], 0, 0) 168 2 (fun _ => rfl) h) ?_
              obtain ⟨z130, hz130⟩ : ∃ z : Int32, z = y128 + y129 := ⟨_, rfl⟩
              refine pj_X_eqi hz130.symm ?_
              rw [← hz130, pj_nm_e]
              refine pj_X_of (fun r h => pj_T_pf iG127 rfl rfl rfl h) ?_
              show pj_X _ _ (pj_wv G127 171 35 (.int z130)) 171 [(3, .int (Int32.ofInt 0)), (2, .int z3), (0, .ref 171), (1, .int v1)] [] _
              obtain ⟨G131, hG131⟩ : ∃ H, H = pj_wv G127 171 35 (.int z130) := ⟨_, rfl⟩
              have iG131 : pj_Inv G131 := by rw [hG131]; exact pj_Inv_wi iG127 (ci := 12) rfl (fun q hq => by cases hq)
              have kG131 : pj_kpt kc_224x G0 G131 := by rw [hG131]; exact pj_kpt_v kG127 rfl
              rw [← hG131]
              rw [pj_nm_e]
              refine pj_X_of (fun r h => pj_R_to (G131, 172, [(3, .int (Int32.ofInt 0)), (2, .int z3), (0, .ref 171), (1, .int v1)], [.ref 171], 0, 0) 172 2 (fun _ => rfl) h) ?_
              refine pj_X_of (fun r h => pj_T_gr iG131 rfl rfl rfl h) ?_
              refine pj_X_of (fun r h => pj_R_to (G131, 178, [(3, .int (Int32.ofInt 0)), (2, .int z3), (0, .ref 171), (1, .int v1)], [.int ((Int8.ofInt 31).toInt32), .ref 179, .int ((Int8.ofInt 31).toInt32), .ref 179], 0, 0) 178 3 (fun _ => rfl) h) ?_
              refine pj_X_of (fun r h => pj_T_il iG131 rfl rfl (by omega) (by omega) h) ?_
              show pj_X _ _ G131 179 [(3, .int (Int32.ofInt 0)), (2, .int z3), (0, .ref 171), (1, .int v1)] [.int (pj_ai G131 179 ((Int8.ofInt 31).toInt32).toInt.toNat), .int ((Int8.ofInt 31).toInt32), .ref 179] _
              obtain ⟨z132, hz132⟩ : ∃ z : Int32, z = pj_ai G131 179 ((Int8.ofInt 31).toInt32).toInt.toNat := ⟨_, rfl⟩
              refine pj_X_eqi hz132.symm ?_
              rw [← hz132, pj_nm_e]
              have ez132 : (pj_ai G131 179 ((Int8.ofInt 31).toInt32).toInt.toNat).toInt = z132.toInt := by rw [hz132]
              refine pj_X_of (fun r h => pj_R_to (G131, 180, [(3, .int (Int32.ofInt 0)), (2, .int z3), (0, .ref 171), (1, .int v1)], [.int (Int32.ofInt 0), .int z132, .int ((Int8.ofInt 31).toInt32), .ref 179], 0, 0) 180 2 (fun _ => rfl) h) ?_
              refine pj_X_of (fun r h => pj_R_ifF rfl (pj_b0_neF (by omega)) h) ?_
              refine pj_X_of (fun r h => pj_R_to (G131, 188, [(3, .int (Int32.ofInt 0)), (2, .int z3), (0, .ref 171), (1, .int v1)], [.int (Int32.ofInt 1), .int z132, .int ((Int8.ofInt 31).toInt32), .ref 179], 0, 0) 188 3 (fun _ => rfl) h) ?_
              refine pj_X_ca (vs := [.int (Int32.ofInt 1)]) rfl (fun _ => rfl) ⟨Nat.le_of_ble_eq_true rfl, Nat.le_of_ble_eq_true rfl, rfl⟩ ⟨rfl, rfl⟩ (pj_Y_up (by decide) (ct_172x G131 iG131 (Int32.ofInt 1) ⟨by omega, by omega⟩)) ?_
              rintro _ _ ⟨y133, rfl, rfl, ry133, ey133, fy133⟩
              rw [← fy133, pj_nm_e]
              show pj_X _ _ G131 191 [(3, .int (Int32.ofInt 0)), (2, .int z3), (0, .ref 171), (1, .int v1)] [.int y133, .int z132, .int ((Int8.ofInt 31).toInt32), .ref 179] _
              refine pj_X_of (fun r h => pj_R_to (G131, 192, [(3, .int (Int32.ofInt 0)), (2, .int z3), (0, .ref 171), (1, .int v1)], [.int (z132 + y133), .int ((Int8.ofInt 31).toInt32), .ref 179], 0, 0) 192 2 (fun _ => rfl) h) ?_
              obtain ⟨z134, hz134⟩ : ∃ z : Int32, z = z132 + y133 := ⟨_, rfl⟩
              refine pj_X_eqi hz134.symm ?_
              rw [← hz134, pj_nm_e]
              refine pj_X_of (fun r h => pj_T_is iG131 rfl rfl (by omega) (by omega) h) ?_
              show pj_X _ _ (pj_wa G131 179 ((Int8.ofInt 31).toInt32).toInt.toNat z134) 193 [(3, .int (Int32.ofInt 0)), (2, .int z3), (0, .ref 171), (1, .int v1)] [] _
              obtain ⟨G135, hG135⟩ : ∃ H, H = pj_wa G131 179 ((Int8.ofInt 31).toInt32).toInt.toNat z134 := ⟨_, rfl⟩
              have iG135 : pj_Inv G135 := by rw [hG135]; exact pj_Inv_wa iG131 rfl (fun q hq => by cases hq) (fun n hn => ⟨fun h1 => ⟨fun h2 => by omega, fun h2 => by omega⟩, fun h1 => by omega⟩)
              have kG135 : pj_kpt kc_224x G0 G135 := by rw [hG135]; exact pj_kpt_a kG131 rfl
              rw [← hG135]
              rw [pj_nm_e]
              refine pj_X_of (fun r h => pj_R_to (G135, 196, [(1, .int (v1 + Int32.ofInt 1)), (3, .int (Int32.ofInt 0)), (2, .int z3), (0, .ref 171)], [], 0, 0) 196 2 (fun _ => rfl) h) ?_
              obtain ⟨z136, hz136⟩ : ∃ z : Int32, z = v1 + Int32.ofInt 1 := ⟨_, rfl⟩
              rw [← hz136]
              rw [pj_nm_e]
              have fz136_0 : z136.toInt = v1.toInt + (Int32.ofInt 1).toInt := by rw [hz136]; exact pj_addI (by have := pj_i32 v1; have := pj_i32 (Int32.ofInt 1); omega) (by have := pj_i32 v1; have := pj_i32 (Int32.ofInt 1); omega)
              refine pj_X_of (fun r h => pj_R_to (G135, 13, [(1, .int z136), (3, .int (Int32.ofInt 0)), (2, .int z3), (0, .ref 171)], [], 0, 0) 13 2 (fun _ => rfl) h) ?_
              exact pj_X_sub [(0, .ref 171), (1, .int z136)] (show List.Nodup [0, 1] by decide) ⟨rfl, rfl, trivial⟩ (ih G135 iG135 kG135 z136 ⟨by omega, by omega⟩ (by omega))
            | false =>
              rw [pj_cF]
              have ub124 := pj_u0_geF b124
              refine pj_X_of (fun r h => pj_R_ifF rfl b124 h) ?_
              refine pj_X_of (fun r h => pj_R_to (G121, 114, [(2, .int z3), (0, .ref 171), (1, .int v1)], [.ref 171], 0, 0) 114 2 (fun _ => rfl) h) ?_
              refine pj_X_of (fun r h => pj_T_gr iG121 rfl rfl rfl h) ?_
              refine pj_X_of (fun r h => pj_R_to (G121, 120, [(2, .int z3), (0, .ref 171), (1, .int v1)], [.int (z3 + (Int32.ofInt 1)), .ref 179], 0, 0) 120 4 (fun _ => rfl) h) ?_
              refine pj_X_eqi hz4.symm ?_
              refine pj_X_of (fun r h => pj_T_il iG121 rfl rfl (by omega) (by omega) h) ?_
              show pj_X _ _ G121 121 [(2, .int z3), (0, .ref 171), (1, .int v1)] [.int (pj_ai G121 179 z4.toInt.toNat)] _
              obtain ⟨z137, hz137⟩ : ∃ z : Int32, z = pj_ai G121 179 z4.toInt.toNat := ⟨_, rfl⟩
              refine pj_X_eqi hz137.symm ?_
              rw [← hz137, pj_nm_e]
              have ez137 : (pj_ai G121 179 z4.toInt.toNat).toInt = z137.toInt := by rw [hz137]
              have fz137_0 : 0 ≤ z137.toInt := by rw [hz137]; exact ((iG121.2.2.2 179 32 rfl _ (by show _ < 32; omega)).1 (by omega)).2 (by omega)
              cases b138 : pj_c1 .ne z137 0 with
              | true =>
                rw [pj_cT]
                have ub138 := pj_u0_neT b138
                refine pj_X_of (fun r h => pj_R_ifT 128 rfl rfl b138 h) ?_
                refine pj_X_of (fun r h => pj_R_to (G121, 132, [(3, .int (Int32.ofInt 0)), (2, .int z3), (0, .ref 171), (1, .int v1)], [.ref 171, .ref 171], 0, 0) 132 5 (fun _ => rfl) h) ?_
                refine pj_X_of (fun r h => pj_T_gi iG121 rfl rfl h) ?_
                show pj_X _ _ G121 135 [(3, .int (Int32.ofInt 0)), (2, .int z3), (0, .ref 171), (1, .int v1)] [.int (pj_fi G121 171 34), .ref 171] _
                obtain ⟨y139, hy139⟩ : ∃ z : Int32, z = pj_fi G121 171 34 := ⟨_, rfl⟩
                refine pj_X_eqi hy139.symm ?_
                rw [← hy139, pj_nm_e]
                have ey139 : (pj_fi G121 171 34).toInt = y139.toInt := by rw [hy139]
                refine pj_X_of (fun r h => pj_R_to (G121, 136, [(3, .int (Int32.ofInt 0)), (2, .int z3), (0, .ref 171), (1, .int v1)], [.int (Int32.ofInt 0), .int y139, .ref 171], 0, 0) 136 2 (fun _ => rfl) h) ?_
                refine pj_X_of (fun r h => pj_R_ifT 143 rfl rfl (pj_b0_eqT (by omega)) h) ?_
                refine pj_X_of (fun r h => pj_R_to (G121, 146, [(3, .int (Int32.ofInt 0)), (2, .int z3), (0, .ref 171), (1, .int v1)], [.int ((Int32.ofInt 1) <<< (v1 &&& 31)), .int y139, .ref 171], 0, 0) 146 4 (fun _ => rfl) h) ?_
                refine pj_X_eqi hz113.symm ?_
                refine pj_X_of (fun r h => pj_R_to (G121, 147, [(3, .int (Int32.ofInt 0)), (2, .int z3), (0, .ref 171), (1, .int v1)], [.int (y139 ||| z113), .ref 171], 0, 0) 147 2 (fun _ => rfl) h) ?_
                obtain ⟨z140, hz140⟩ : ∃ z : Int32, z = y139 ||| z113 := ⟨_, rfl⟩
                refine pj_X_eqi hz140.symm ?_
                rw [← hz140, pj_nm_e]
                refine pj_X_of (fun r h => pj_T_pf iG121 rfl rfl rfl h) ?_
                show pj_X _ _ (pj_wv G121 171 34 (.int z140)) 150 [(3, .int (Int32.ofInt 0)), (2, .int z3), (0, .ref 171), (1, .int v1)] [] _
                obtain ⟨G141, hG141⟩ : ∃ H, H = pj_wv G121 171 34 (.int z140) := ⟨_, rfl⟩
                have iG141 : pj_Inv G141 := by rw [hG141]; exact pj_Inv_wi iG121 (ci := 12) rfl (fun q hq => by cases hq)
                have kG141 : pj_kpt kc_224x G0 G141 := by rw [hG141]; exact pj_kpt_v kG121 rfl
                rw [← hG141]
                rw [pj_nm_e]
                refine pj_X_of (fun r h => pj_R_to (G141, 152, [(3, .int (Int32.ofInt 0)), (2, .int z3), (0, .ref 171), (1, .int v1)], [.ref 171, .ref 171], 0, 0) 152 3 (fun _ => rfl) h) ?_
                refine pj_X_of (fun r h => pj_T_gi iG141 rfl rfl h) ?_
                show pj_X _ _ G141 155 [(3, .int (Int32.ofInt 0)), (2, .int z3), (0, .ref 171), (1, .int v1)] [.int (pj_fi G141 171 35), .ref 171] _
                obtain ⟨y142, hy142⟩ : ∃ z : Int32, z = pj_fi G141 171 35 := ⟨_, rfl⟩
                refine pj_X_eqi hy142.symm ?_
                rw [← hy142, pj_nm_e]
                have ey142 : (pj_fi G141 171 35).toInt = y142.toInt := by rw [hy142]
                refine pj_X_of (fun r h => pj_R_to (G141, 156, [(3, .int (Int32.ofInt 0)), (2, .int z3), (0, .ref 171), (1, .int v1)], [.int (Int32.ofInt 0), .int y142, .ref 171], 0, 0) 156 2 (fun _ => rfl) h) ?_
                refine pj_X_of (fun r h => pj_R_ifF rfl (pj_b0_neF (by omega)) h) ?_
                refine pj_X_of (fun r h => pj_R_to (G141, 164, [(3, .int (Int32.ofInt 0)), (2, .int z3), (0, .ref 171), (1, .int v1)], [.int (Int32.ofInt 1), .int y142, .ref 171], 0, 0) 164 3 (fun _ => rfl) h) ?_
                refine pj_X_ca (vs := [.int (Int32.ofInt 1)]) rfl (fun _ => rfl) ⟨Nat.le_of_ble_eq_true rfl, Nat.le_of_ble_eq_true rfl, rfl⟩ ⟨rfl, rfl⟩ (pj_Y_up (by decide) (ct_172x G141 iG141 (Int32.ofInt 1) ⟨by omega, by omega⟩)) ?_
                rintro _ _ ⟨y143, rfl, rfl, ry143, ey143, fy143⟩
                rw [← fy143, pj_nm_e]
                show pj_X _ _ G141 167 [(3, .int (Int32.ofInt 0)), (2, .int z3), (0, .ref 171), (1, .int v1)] [.int y143, .int y142, .ref 171] _
                refine pj_X_of (fun r h => pj_R_to (G141, 168, [(3, .int (Int32.ofInt 0)), (2, .int z3), (0, .ref 171), (1, .int v1)], [.int (y142 + y143), .ref 171], 0, 0) 168 2 (fun _ => rfl) h) ?_
                obtain ⟨z144, hz144⟩ : ∃ z : Int32, z = y142 + y143 := ⟨_, rfl⟩
                refine pj_X_eqi hz144.symm ?_
                rw [← hz144, pj_nm_e]
                refine pj_X_of (fun r h => pj_T_pf iG141 rfl rfl rfl h) ?_
                show pj_X _ _ (pj_wv G141 171 35 (.int z144)) 171 [(3, .int (Int32.ofInt 0)), (2, .int z3), (0, .ref 171), (1, .int v1)] [] _
                obtain ⟨G145, hG145⟩ : ∃ H, H = pj_wv G141 171 35 (.int z144) := ⟨_, rfl⟩
                have iG145 : pj_Inv G145 := by rw [hG145]; exact pj_Inv_wi iG141 (ci := 12) rfl (fun q hq => by cases hq)
                have kG145 : pj_kpt kc_224x G0 G145 := by rw [hG145]; exact pj_kpt_v kG141 rfl
                rw [← hG145]
                rw [pj_nm_e]
                refine pj_X_of (fun r h => pj_R_to (G145, 172, [(3, .int (Int32.ofInt 0)), (2, .int z3), (0, .ref 171), (1, .int v1)], [.ref 171], 0, 0) 172 2 (fun _ => rfl) h) ?_
                refine pj_X_of (fun r h => pj_T_gr iG145 rfl rfl rfl h) ?_
                refine pj_X_of (fun r h => pj_R_to (G145, 178, [(3, .int (Int32.ofInt 0)), (2, .int z3), (0, .ref 171), (1, .int v1)], [.int ((Int8.ofInt 31).toInt32), .ref 179, .int ((Int8.ofInt 31).toInt32), .ref 179], 0, 0) 178 3 (fun _ => rfl) h) ?_
                refine pj_X_of (fun r h => pj_T_il iG145 rfl rfl (by omega) (by omega) h) ?_
                show pj_X _ _ G145 179 [(3, .int (Int32.ofInt 0)), (2, .int z3), (0, .ref 171), (1, .int v1)] [.int (pj_ai G145 179 ((Int8.ofInt 31).toInt32).toInt.toNat), .int ((Int8.ofInt 31).toInt32), .ref 179] _
                obtain ⟨z146, hz146⟩ : ∃ z : Int32, z = pj_ai G145 179 ((Int8.ofInt 31).toInt32).toInt.toNat := ⟨_, rfl⟩
                refine pj_X_eqi hz146.symm ?_
                rw [← hz146, pj_nm_e]
                have ez146 : (pj_ai G145 179 ((Int8.ofInt 31).toInt32).toInt.toNat).toInt = z146.toInt := by rw [hz146]
                refine pj_X_of (fun r h => pj_R_to (G145, 180, [(3, .int (Int32.ofInt 0)), (2, .int z3), (0, .ref 171), (1, .int v1)], [.int (Int32.ofInt 0), .int z146, .int ((Int8.ofInt 31).toInt32), .ref 179], 0, 0) 180 2 (fun _ => rfl) h) ?_
                refine pj_X_of (fun r h => pj_R_ifF rfl (pj_b0_neF (by omega)) h) ?_
                refine pj_X_of (fun r h => pj_R_to (G145, 188, [(3, .int (Int32.ofInt 0)), (2, .int z3), (0, .ref 171), (1, .int v1)], [.int (Int32.ofInt 1), .int z146, .int ((Int8.ofInt 31).toInt32), .ref 179], 0, 0) 188 3 (fun _ => rfl) h) ?_
                refine pj_X_ca (vs := [.int (Int32.ofInt 1)]) rfl (fun _ => rfl) ⟨Nat.le_of_ble_eq_true rfl, Nat.le_of_ble_eq_true rfl, rfl⟩ ⟨rfl, rfl⟩ (pj_Y_up (by decide) (ct_172x G145 iG145 (Int32.ofInt 1) ⟨by omega, by omega⟩)) ?_
                rintro _ _ ⟨y147, rfl, rfl, ry147, ey147, fy147⟩
                rw [← fy147, pj_nm_e]
                show pj_X _ _ G145 191 [(3, .int (Int32.ofInt 0)), (2, .int z3), (0, .ref 171), (1, .int v1)] [.int y147, .int z146, .int ((Int8.ofInt 31).toInt32), .ref 179] _
                refine pj_X_of (fun r h => pj_R_to (G145, 192, [(3, .int (Int32.ofInt 0)), (2, .int z3), (0, .ref 171), (1, .int v1)], [.int (z146 + y147), .int ((Int8.ofInt 31).toInt32), .ref 179], 0, 0) 192 2 (fun _ => rfl) h) ?_
                obtain ⟨z148, hz148⟩ : ∃ z : Int32, z = z146 + y147 := ⟨_, rfl⟩
                refine pj_X_eqi hz148.symm ?_
                rw [← hz148, pj_nm_e]
                refine pj_X_of (fun r h => pj_T_is iG145 rfl rfl (by omega) (by omega) h) ?_
                show pj_X _ _ (pj_wa G145 179 ((Int8.ofInt 31).toInt32).toInt.toNat z148) 193 [(3, .int (Int32.ofInt 0)), (2, .int z3), (0, .ref 171), (1, .int v1)] [] _
                obtain ⟨G149, hG149⟩ : ∃ H, H = pj_wa G145 179 ((Int8.ofInt 31).toInt32).toInt.toNat z148 := ⟨_, rfl⟩
                have iG149 : pj_Inv G149 := by rw [hG149]; exact pj_Inv_wa iG145 rfl (fun q hq => by cases hq) (fun n hn => ⟨fun h1 => ⟨fun h2 => by omega, fun h2 => by omega⟩, fun h1 => by omega⟩)
                have kG149 : pj_kpt kc_224x G0 G149 := by rw [hG149]; exact pj_kpt_a kG145 rfl
                rw [← hG149]
                rw [pj_nm_e]
                refine pj_X_of (fun r h => pj_R_to (G149, 196, [(1, .int (v1 + Int32.ofInt 1)), (3, .int (Int32.ofInt 0)), (2, .int z3), (0, .ref 171)], [], 0, 0) 196 2 (fun _ => rfl) h) ?_
                obtain ⟨z150, hz150⟩ : ∃ z : Int32, z = v1 + Int32.ofInt 1 := ⟨_, rfl⟩
                rw [← hz150]
                rw [pj_nm_e]
                have fz150_0 : z150.toInt = v1.toInt + (Int32.ofInt 1).toInt := by rw [hz150]; exact pj_addI (by have := pj_i32 v1; have := pj_i32 (Int32.ofInt 1); omega) (by have := pj_i32 v1; have := pj_i32 (Int32.ofInt 1); omega)
                refine pj_X_of (fun r h => pj_R_to (G149, 13, [(1, .int z150), (3, .int (Int32.ofInt 0)), (2, .int z3), (0, .ref 171)], [], 0, 0) 13 2 (fun _ => rfl) h) ?_
                exact pj_X_sub [(0, .ref 171), (1, .int z150)] (show List.Nodup [0, 1] by decide) ⟨rfl, rfl, trivial⟩ (ih G149 iG149 kG149 z150 ⟨by omega, by omega⟩ (by omega))
              | false =>
                rw [pj_cF]
                have ub138 := pj_u0_neF b138
                refine pj_X_of (fun r h => pj_R_ifF rfl b138 h) ?_
                refine pj_X_of (fun r h => pj_R_to (G121, 132, [(3, .int (Int32.ofInt 1)), (2, .int z3), (0, .ref 171), (1, .int v1)], [.ref 171, .ref 171], 0, 0) 132 6 (fun _ => rfl) h) ?_
                refine pj_X_of (fun r h => pj_T_gi iG121 rfl rfl h) ?_
                show pj_X _ _ G121 135 [(3, .int (Int32.ofInt 1)), (2, .int z3), (0, .ref 171), (1, .int v1)] [.int (pj_fi G121 171 34), .ref 171] _
                obtain ⟨y151, hy151⟩ : ∃ z : Int32, z = pj_fi G121 171 34 := ⟨_, rfl⟩
                refine pj_X_eqi hy151.symm ?_
                rw [← hy151, pj_nm_e]
                have ey151 : (pj_fi G121 171 34).toInt = y151.toInt := by rw [hy151]
                refine pj_X_of (fun r h => pj_R_to (G121, 136, [(3, .int (Int32.ofInt 1)), (2, .int z3), (0, .ref 171), (1, .int v1)], [.int (Int32.ofInt 1), .int y151, .ref 171], 0, 0) 136 2 (fun _ => rfl) h) ?_
                refine pj_X_of (fun r h => pj_R_ifF rfl (pj_b0_eqF (by omega)) h) ?_
                refine pj_X_of (fun r h => pj_R_to (G121, 147, [(3, .int (Int32.ofInt 1)), (2, .int z3), (0, .ref 171), (1, .int v1)], [.int (y151 ||| (Int32.ofInt 0)), .ref 171], 0, 0) 147 4 (fun _ => rfl) h) ?_
                obtain ⟨z152, hz152⟩ : ∃ z : Int32, z = y151 ||| (Int32.ofInt 0) := ⟨_, rfl⟩
                refine pj_X_eqi hz152.symm ?_
                rw [← hz152, pj_nm_e]
                refine pj_X_of (fun r h => pj_T_pf iG121 rfl rfl rfl h) ?_
                show pj_X _ _ (pj_wv G121 171 34 (.int z152)) 150 [(3, .int (Int32.ofInt 1)), (2, .int z3), (0, .ref 171), (1, .int v1)] [] _
                obtain ⟨G153, hG153⟩ : ∃ H, H = pj_wv G121 171 34 (.int z152) := ⟨_, rfl⟩
                have iG153 : pj_Inv G153 := by rw [hG153]; exact pj_Inv_wi iG121 (ci := 12) rfl (fun q hq => by cases hq)
                have kG153 : pj_kpt kc_224x G0 G153 := by rw [hG153]; exact pj_kpt_v kG121 rfl
                rw [← hG153]
                rw [pj_nm_e]
                refine pj_X_of (fun r h => pj_R_to (G153, 152, [(3, .int (Int32.ofInt 1)), (2, .int z3), (0, .ref 171), (1, .int v1)], [.ref 171, .ref 171], 0, 0) 152 3 (fun _ => rfl) h) ?_
                refine pj_X_of (fun r h => pj_T_gi iG153 rfl rfl h) ?_
                show pj_X _ _ G153 155 [(3, .int (Int32.ofInt 1)), (2, .int z3), (0, .ref 171), (1, .int v1)] [.int (pj_fi G153 171 35), .ref 171] _
                obtain ⟨y154, hy154⟩ : ∃ z : Int32, z = pj_fi G153 171 35 := ⟨_, rfl⟩
                refine pj_X_eqi hy154.symm ?_
                rw [← hy154, pj_nm_e]
                have ey154 : (pj_fi G153 171 35).toInt = y154.toInt := by rw [hy154]
                refine pj_X_of (fun r h => pj_R_to (G153, 156, [(3, .int (Int32.ofInt 1)), (2, .int z3), (0, .ref 171), (1, .int v1)], [.int (Int32.ofInt 1), .int y154, .ref 171], 0, 0) 156 2 (fun _ => rfl) h) ?_
                refine pj_X_of (fun r h => pj_R_ifT 163 rfl rfl (pj_b0_neT (by omega)) h) ?_
                refine pj_X_of (fun r h => pj_R_to (G153, 164, [(3, .int (Int32.ofInt 1)), (2, .int z3), (0, .ref 171), (1, .int v1)], [.int (Int32.ofInt 0), .int y154, .ref 171], 0, 0) 164 2 (fun _ => rfl) h) ?_
                refine pj_X_ca (vs := [.int (Int32.ofInt 0)]) rfl (fun _ => rfl) ⟨Nat.le_of_ble_eq_true rfl, Nat.le_of_ble_eq_true rfl, rfl⟩ ⟨rfl, rfl⟩ (pj_Y_up (by decide) (ct_172x G153 iG153 (Int32.ofInt 0) ⟨by omega, by omega⟩)) ?_
                rintro _ _ ⟨y155, rfl, rfl, ry155, ey155, fy155⟩
                rw [← fy155, pj_nm_e]
                show pj_X _ _ G153 167 [(3, .int (Int32.ofInt 1)), (2, .int z3), (0, .ref 171), (1, .int v1)] [.int y155, .int y154, .ref 171] _
                refine pj_X_of (fun r h => pj_R_to (G153, 168, [(3, .int (Int32.ofInt 1)), (2, .int z3), (0, .ref 171), (1, .int v1)], [.int (y154 + y155), .ref 171], 0, 0) 168 2 (fun _ => rfl) h) ?_
                obtain ⟨z156, hz156⟩ : ∃ z : Int32, z = y154 + y155 := ⟨_, rfl⟩
                refine pj_X_eqi hz156.symm ?_
                rw [← hz156, pj_nm_e]
                refine pj_X_of (fun r h => pj_T_pf iG153 rfl rfl rfl h) ?_
                show pj_X _ _ (pj_wv G153 171 35 (.int z156)) 171 [(3, .int (Int32.ofInt 1)), (2, .int z3), (0, .ref 171), (1, .int v1)] [] _
                obtain ⟨G157, hG157⟩ : ∃ H, H = pj_wv G153 171 35 (.int z156) := ⟨_, rfl⟩
                have iG157 : pj_Inv G157 := by rw [hG157]; exact pj_Inv_wi iG153 (ci := 12) rfl (fun q hq => by cases hq)
                have kG157 : pj_kpt kc_224x G0 G157 := by rw [hG157]; exact pj_kpt_v kG153 rfl
                rw [← hG157]
                rw [pj_nm_e]
                refine pj_X_of (fun r h => pj_R_to (G157, 172, [(3, .int (Int32.ofInt 1)), (2, .int z3), (0, .ref 171), (1, .int v1)], [.ref 171], 0, 0) 172 2 (fun _ => rfl) h) ?_
                refine pj_X_of (fun r h => pj_T_gr iG157 rfl rfl rfl h) ?_
                refine pj_X_of (fun r h => pj_R_to (G157, 178, [(3, .int (Int32.ofInt 1)), (2, .int z3), (0, .ref 171), (1, .int v1)], [.int ((Int8.ofInt 31).toInt32), .ref 179, .int ((Int8.ofInt 31).toInt32), .ref 179], 0, 0) 178 3 (fun _ => rfl) h) ?_
                refine pj_X_of (fun r h => pj_T_il iG157 rfl rfl (by omega) (by omega) h) ?_
                show pj_X _ _ G157 179 [(3, .int (Int32.ofInt 1)), (2, .int z3), (0, .ref 171), (1, .int v1)] [.int (pj_ai G157 179 ((Int8.ofInt 31).toInt32).toInt.toNat), .int ((Int8.ofInt 31).toInt32), .ref 179] _
                obtain ⟨z158, hz158⟩ : ∃ z : Int32, z = pj_ai G157 179 ((Int8.ofInt 31).toInt32).toInt.toNat := ⟨_, rfl⟩
                refine pj_X_eqi hz158.symm ?_
                rw [← hz158, pj_nm_e]
                have ez158 : (pj_ai G157 179 ((Int8.ofInt 31).toInt32).toInt.toNat).toInt = z158.toInt := by rw [hz158]
                refine pj_X_of (fun r h => pj_R_to (G157, 180, [(3, .int (Int32.ofInt 1)), (2, .int z3), (0, .ref 171), (1, .int v1)], [.int (Int32.ofInt 1), .int z158, .int ((Int8.ofInt 31).toInt32), .ref 179], 0, 0) 180 2 (fun _ => rfl) h) ?_
                refine pj_X_of (fun r h => pj_R_ifT 187 rfl rfl (pj_b0_neT (by omega)) h) ?_
                refine pj_X_of (fun r h => pj_R_to (G157, 188, [(3, .int (Int32.ofInt 1)), (2, .int z3), (0, .ref 171), (1, .int v1)], [.int (Int32.ofInt 0), .int z158, .int ((Int8.ofInt 31).toInt32), .ref 179], 0, 0) 188 2 (fun _ => rfl) h) ?_
                refine pj_X_ca (vs := [.int (Int32.ofInt 0)]) rfl (fun _ => rfl) ⟨Nat.le_of_ble_eq_true rfl, Nat.le_of_ble_eq_true rfl, rfl⟩ ⟨rfl, rfl⟩ (pj_Y_up (by decide) (ct_172x G157 iG157 (Int32.ofInt 0) ⟨by omega, by omega⟩)) ?_
                rintro _ _ ⟨y159, rfl, rfl, ry159, ey159, fy159⟩
                rw [← fy159, pj_nm_e]
                show pj_X _ _ G157 191 [(3, .int (Int32.ofInt 1)), (2, .int z3), (0, .ref 171), (1, .int v1)] [.int y159, .int z158, .int ((Int8.ofInt 31).toInt32), .ref 179] _
                refine pj_X_of (fun r h => pj_R_to (G157, 192, [(3, .int (Int32.ofInt 1)), (2, .int z3), (0, .ref 171), (1, .int v1)], [.int (z158 + y159), .int ((Int8.ofInt 31).toInt32), .ref 179], 0, 0) 192 2 (fun _ => rfl) h) ?_
                obtain ⟨z160, hz160⟩ : ∃ z : Int32, z = z158 + y159 := ⟨_, rfl⟩
                refine pj_X_eqi hz160.symm ?_
                rw [← hz160, pj_nm_e]
                refine pj_X_of (fun r h => pj_T_is iG157 rfl rfl (by omega) (by omega) h) ?_
                show pj_X _ _ (pj_wa G157 179 ((Int8.ofInt 31).toInt32).toInt.toNat z160) 193 [(3, .int (Int32.ofInt 1)), (2, .int z3), (0, .ref 171), (1, .int v1)] [] _
                obtain ⟨G161, hG161⟩ : ∃ H, H = pj_wa G157 179 ((Int8.ofInt 31).toInt32).toInt.toNat z160 := ⟨_, rfl⟩
                have iG161 : pj_Inv G161 := by rw [hG161]; exact pj_Inv_wa iG157 rfl (fun q hq => by cases hq) (fun n hn => ⟨fun h1 => ⟨fun h2 => by omega, fun h2 => by omega⟩, fun h1 => by omega⟩)
                have kG161 : pj_kpt kc_224x G0 G161 := by rw [hG161]; exact pj_kpt_a kG157 rfl
                rw [← hG161]
                rw [pj_nm_e]
                refine pj_X_of (fun r h => pj_R_to (G161, 196, [(1, .int (v1 + Int32.ofInt 1)), (3, .int (Int32.ofInt 1)), (2, .int z3), (0, .ref 171)], [], 0, 0) 196 2 (fun _ => rfl) h) ?_
                obtain ⟨z162, hz162⟩ : ∃ z : Int32, z = v1 + Int32.ofInt 1 := ⟨_, rfl⟩
                rw [← hz162]
                rw [pj_nm_e]
                have fz162_0 : z162.toInt = v1.toInt + (Int32.ofInt 1).toInt := by rw [hz162]; exact pj_addI (by have := pj_i32 v1; have := pj_i32 (Int32.ofInt 1); omega) (by have := pj_i32 v1; have := pj_i32 (Int32.ofInt 1); omega)
                refine pj_X_of (fun r h => pj_R_to (G161, 13, [(1, .int z162), (3, .int (Int32.ofInt 1)), (2, .int z3), (0, .ref 171)], [], 0, 0) 13 2 (fun _ => rfl) h) ?_
                exact pj_X_sub [(0, .ref 171), (1, .int z162)] (show List.Nodup [0, 1] by decide) ⟨rfl, rfl, trivial⟩ (ih G161 iG161 kG161 z162 ⟨by omega, by omega⟩ (by omega))
theorem ct_224x (G0 : pj_G) (hI : pj_Inv G0) : pj_Y 2 224 [.ref 171] G0 (fun v' G' => v' = none ∧ pj_Inv G' ∧ pj_kpt kc_224x G0 G' ∧ (G' = F_225x G0)) := by
  have c0_ : ((Int8.ofInt 30).toInt32).toInt = 30 := by decide
  have c1_ : ((Int8.ofInt 31).toInt32).toInt = 31 := by decide
  have c2_ : (Int32.ofInt (-1)).toInt = -1 := by decide
  have c3_ : (Int32.ofInt 0).toInt = 0 := by decide
  have c4_ : (Int32.ofInt 1).toInt = 1 := by decide
  have c5_ : (Int32.ofInt 2).toInt = 2 := by decide
  have c6_ : (Int32.ofInt 4).toInt = 4 := by decide
  refine pj_Y_X (M := pj_m224) rfl rfl (Nat.le_of_ble_eq_true rfl) ?_
  have hK : pj_kpt kc_224x G0 G0 := pj_kpt_r _ _
  show pj_X _ _ G0 0 [(0, .ref 171)] [] _
  rw [F_225x_e]
  refine pj_X_of (fun r h => pj_R_to (G0, 1, [(0, .ref 171)], [.ref 171], 0, 0) 1 2 (fun _ => rfl) h) ?_
  refine pj_X_of (fun r h => pj_T_gr hI rfl rfl rfl h) ?_
  refine pj_X_of (fun r h => pj_R_to (G0, 7, [(0, .ref 171)], [.int ((Int8.ofInt 30).toInt32), .ref 179, .int ((Int8.ofInt 30).toInt32), .ref 179], 0, 0) 7 3 (fun _ => rfl) h) ?_
  refine pj_X_of (fun r h => pj_T_il hI rfl rfl (by omega) (by omega) h) ?_
  show pj_X _ _ G0 8 [(0, .ref 171)] [.int (pj_ai G0 179 ((Int8.ofInt 30).toInt32).toInt.toNat), .int ((Int8.ofInt 30).toInt32), .ref 179] _
  obtain ⟨z163, hz163⟩ : ∃ z : Int32, z = pj_ai G0 179 ((Int8.ofInt 30).toInt32).toInt.toNat := ⟨_, rfl⟩
  refine pj_X_eqi hz163.symm ?_
  rw [← hz163, pj_nm_e]
  have ez163 : (pj_ai G0 179 ((Int8.ofInt 30).toInt32).toInt.toNat).toInt = z163.toInt := by rw [hz163]
  refine pj_X_of (fun r h => pj_R_to (G0, 10, [(0, .ref 171)], [.int (z163 + (Int32.ofInt 1)), .int ((Int8.ofInt 30).toInt32), .ref 179], 0, 0) 10 3 (fun _ => rfl) h) ?_
  obtain ⟨z164, hz164⟩ : ∃ z : Int32, z = z163 + (Int32.ofInt 1) := ⟨_, rfl⟩
  refine pj_X_eqi hz164.symm ?_
  rw [← hz164, pj_nm_e]
  refine pj_X_of (fun r h => pj_T_is hI rfl rfl (by omega) (by omega) h) ?_
  show pj_X _ _ (pj_wa G0 179 ((Int8.ofInt 30).toInt32).toInt.toNat z164) 11 [(0, .ref 171)] [] _
  obtain ⟨G165, hG165⟩ : ∃ H, H = pj_wa G0 179 ((Int8.ofInt 30).toInt32).toInt.toNat z164 := ⟨_, rfl⟩
  have iG165 : pj_Inv G165 := by rw [hG165]; exact pj_Inv_wa hI rfl (fun q hq => by cases hq) (fun n hn => ⟨fun h1 => ⟨fun h2 => by omega, fun h2 => by omega⟩, fun h1 => by omega⟩)
  have kG165 : pj_kpt kc_224x G0 G165 := by rw [hG165]; exact pj_kpt_a hK rfl
  rw [← hG165]
  rw [pj_nm_e]
  refine pj_X_of (fun r h => pj_R_to (G165, 13, [(1, .int (Int32.ofInt 0)), (0, .ref 171)], [], 0, 0) 13 3 (fun _ => rfl) h) ?_
  exact pj_X_sub [(0, .ref 171), (1, .int (Int32.ofInt 0))] (show List.Nodup [0, 1] by decide) ⟨rfl, rfl, trivial⟩ ((lp_ct_224x G0 hI   7) G165 iG165 kG165 (Int32.ofInt 0) ⟨by omega, by omega⟩ (by omega))
theorem fr_225x (G0 : pj_G) (hI : pj_Inv G0) : pj_Inv (F_225x G0) ∧ pj_kpt kc_224x G0 (F_225x G0) := by
  obtain ⟨v, G', -, -, i, j, e⟩ := ct_224x G0 hI 
  rw [← e]
  exact ⟨i, j⟩
def kc_225x : pj_KT := ([(171, 0), (171, 30)], [171, 179, 184, 185, 186], [179, 184, 185, 186])
noncomputable def F_226x (G0 : pj_G) (b : Int32) (c : Int32) : Int32 × pj_G := pj_nm (pj_wv G0 171 0 (.int (Int32.ofInt 0))) (fun G2 => pj_nm (F_215x G2) (fun G5 => pj_bd (F_221x G5 b c) (fun y9 G10 => pj_bd (F_217x G10 y9) (fun y14 G15 => (y14, G15)))))
theorem F_226x_e (G0 : pj_G) (b : Int32) (c : Int32) : F_226x G0 b c = pj_nm (pj_wv G0 171 0 (.int (Int32.ofInt 0))) (fun G2 => pj_nm (F_215x G2) (fun G5 => pj_bd (F_221x G5 b c) (fun y9 G10 => pj_bd (F_217x G10 y9) (fun y14 G15 => (y14, G15))))) := rfl
theorem ct_225x (G0 : pj_G) (hI : pj_Inv G0) (b : Int32) (c : Int32) (p0_ : pj_RI G0) (p1_ : (pj_fi G0 171 30).toInt ≤ 15) : pj_Y 7 225 [.ref 171, .int b, .int c] G0 (fun v' G' => ∃ y : Int32, v' = some (.int y) ∧ pj_Inv G' ∧ pj_kpt kc_225x G0 G' ∧ ((-2147483648 : Int) ≤ y.toInt ∧ y.toInt ≤ 2147483647) ∧ ((pj_fi G' 171 30).toInt ≤ 15) ∧ ((y, G') = F_226x G0 b c)) := by
  have c0_ : (Int32.ofInt 0).toInt = 0 := by decide
  refine pj_Y_X (M := pj_m225) rfl rfl (Nat.le_of_ble_eq_true rfl) ?_
  have hK : pj_kpt kc_225x G0 G0 := pj_kpt_r _ _
  show pj_X _ _ G0 0 [(0, .ref 171), (1, .int b), (2, .int c)] [] _
  rw [F_226x_e]
  obtain ⟨y1, hy1⟩ : ∃ z : Int32, z = pj_fi G0 171 30 := ⟨_, rfl⟩
  have ey1 : (pj_fi G0 171 30).toInt = y1.toInt := by rw [hy1]
  have ry1 : (0 : Int) ≤ y1.toInt ∧ y1.toInt ≤ 16 := by rw [hy1]; exact hI.2.1 171 30 (0, 16) rfl
  refine pj_X_of (fun r h => pj_R_to (G0, 2, [(0, .ref 171), (1, .int b), (2, .int c)], [.int (Int32.ofInt 0), .ref 171], 0, 0) 2 3 (fun _ => rfl) h) ?_
  refine pj_X_of (fun r h => pj_T_pf hI rfl rfl rfl h) ?_
  show pj_X _ _ (pj_wv G0 171 0 (.int (Int32.ofInt 0))) 5 [(0, .ref 171), (1, .int b), (2, .int c)] [] _
  obtain ⟨G2, hG2⟩ : ∃ H, H = pj_wv G0 171 0 (.int (Int32.ofInt 0)) := ⟨_, rfl⟩
  have iG2 : pj_Inv G2 := by rw [hG2]; exact pj_Inv_wi hI (ci := 12) rfl (fun q hq => by cases hq)
  have kG2 : pj_kpt kc_225x G0 G2 := by rw [hG2]; exact pj_kpt_v hK rfl
  rw [← hG2]
  rw [pj_nm_e]
  refine pj_X_of (fun r h => pj_R_to (G2, 6, [(0, .ref 171), (1, .int b), (2, .int c)], [.ref 171], 0, 0) 6 2 (fun _ => rfl) h) ?_
  have q3 : (pj_fi G2 171 30).toInt = y1.toInt := by rw [show pj_fi G2 171 30 = y1 from by rw [hG2, pj_fi_wv_ne _ _ _ _ _ _ (by decide)]; exact hy1.symm]
  refine pj_X_ca (vs := [.ref 171]) rfl (fun _ => rfl) ⟨Nat.le_of_ble_eq_true rfl, Nat.le_of_ble_eq_true rfl, pj_T_rcv iG2 rfl⟩ ⟨rfl, rfl⟩ (pj_Y_up (by decide) (ct_214x G2 iG2 (by omega))) ?_
  rintro _ G5 ⟨rfl, iG5, jG5, fy4⟩
  rw [← fy4, pj_nm_e]
  have kG5 : pj_kpt kc_225x G0 G5 := pj_kpt_t kG2 (pj_kpt_s jG5 rfl)
  have q6 : (pj_fi G5 171 30).toInt = (pj_fi G2 171 30).toInt := by rw [jG5.1 (171, 30) (by decide)]
  obtain ⟨y7, hy7⟩ : ∃ z : Int32, z = pj_fi G5 171 30 := ⟨_, rfl⟩
  have ey7 : (pj_fi G5 171 30).toInt = y7.toInt := by rw [hy7]
  have ry7 : (0 : Int) ≤ y7.toInt ∧ y7.toInt ≤ 16 := by rw [hy7]; exact iG5.2.1 171 30 (0, 16) rfl
  show pj_X _ _ G5 9 [(0, .ref 171), (1, .int b), (2, .int c)] [] _
  refine pj_X_of (fun r h => pj_R_to (G5, 13, [(0, .ref 171), (1, .int b), (2, .int c)], [.int c, .int b, .ref 171, .ref 171], 0, 0) 13 5 (fun _ => rfl) h) ?_
  have q8 : (pj_fi G5 171 30).toInt = y7.toInt := by rw [show pj_fi G5 171 30 = y7 from hy7.symm]
  refine pj_X_ca (vs := [.ref 171, .int b, .int c]) rfl (fun _ => rfl) ⟨Nat.le_of_ble_eq_true rfl, Nat.le_of_ble_eq_true rfl, pj_T_rcv iG5 rfl⟩ ⟨rfl, rfl⟩ (pj_Y_up (by decide) (ct_220x G5 iG5 b c (pj_RI_k p0_ kG5 rfl))) ?_
  rintro _ G10 ⟨y9, rfl, iG10, jG10, ry9, fy9⟩
  rw [← fy9, pj_bd_e]
  have kG10 : pj_kpt kc_225x G0 G10 := pj_kpt_t kG5 (pj_kpt_s jG10 rfl)
  have q11 : (pj_fi G10 171 30).toInt = (pj_fi G5 171 30).toInt := by rw [jG10.1 (171, 30) (by decide)]
  obtain ⟨y12, hy12⟩ : ∃ z : Int32, z = pj_fi G10 171 30 := ⟨_, rfl⟩
  have ey12 : (pj_fi G10 171 30).toInt = y12.toInt := by rw [hy12]
  have ry12 : (0 : Int) ≤ y12.toInt ∧ y12.toInt ≤ 16 := by rw [hy12]; exact iG10.2.1 171 30 (0, 16) rfl
  show pj_X _ _ G10 16 [(0, .ref 171), (1, .int b), (2, .int c)] [.int y9, .ref 171] _
  have q13 : (pj_fi G10 171 30).toInt = y12.toInt := by rw [show pj_fi G10 171 30 = y12 from hy12.symm]
  refine pj_X_ca (vs := [.ref 171, .int y9]) rfl (fun _ => rfl) ⟨Nat.le_of_ble_eq_true rfl, Nat.le_of_ble_eq_true rfl, pj_T_rcv iG10 rfl⟩ ⟨rfl, rfl⟩ (pj_Y_up (by decide) (ct_216x G10 iG10 y9 (by omega))) ?_
  rintro _ G15 ⟨y14, rfl, iG15, jG15, ry14, ey14, fy14⟩
  rw [← fy14, pj_bd_e]
  have kG15 : pj_kpt kc_225x G0 G15 := pj_kpt_t kG10 (pj_kpt_s jG15 rfl)
  obtain ⟨y16, hy16⟩ : ∃ z : Int32, z = pj_fi G15 171 30 := ⟨_, rfl⟩
  have ey16 : (pj_fi G15 171 30).toInt = y16.toInt := by rw [hy16]
  have ry16 : (0 : Int) ≤ y16.toInt ∧ y16.toInt ≤ 16 := by rw [hy16]; exact iG15.2.1 171 30 (0, 16) rfl
  show pj_X _ _ G15 19 [(0, .ref 171), (1, .int b), (2, .int c)] [.int y14] _
  have q17 : (pj_fi G15 171 30).toInt = y16.toInt := by rw [show pj_fi G15 171 30 = y16 from hy16.symm]
  exact pj_X_rt rfl rfl ⟨_, rfl, iG15, kG15, pj_i32 _, by omega, rfl⟩
theorem fr_226x (G0 : pj_G) (hI : pj_Inv G0) (b : Int32) (c : Int32) (p0_ : pj_RI G0) (p1_ : (pj_fi G0 171 30).toInt ≤ 15) : pj_Inv (F_226x G0 b c).2 ∧ pj_kpt kc_225x G0 (F_226x G0 b c).2 ∧ ((pj_fi (F_226x G0 b c).2 171 30).toInt ≤ 15) := by
  obtain ⟨v, G', -, y, -, i, j, r, x, e⟩ := ct_225x G0 hI b c p0_ p1_
  rw [← e]
  exact ⟨i, j, x⟩
def kc_226x : pj_KT := ([(171, 0), (171, 30), (171, 32)], [171, 179, 186], [179, 186])
noncomputable def F_227x (G0 : pj_G) (b : Int32) (hr : Int32) : Int32 × pj_G := pj_nm (pj_wv G0 171 0 (.int (Int32.ofInt 0))) (fun G2 => pj_nm (F_215x G2) (fun G5 => pj_bd (F_222x G5 b hr) (fun y9 G10 => pj_nm (pj_fi G10 171 32) (fun y13 => cond (pj_c1 .eq y13 0) ((y9, G10)) (pj_bd (F_216x G10 y9) (fun y17 G18 => (y17, G18)))))))
theorem F_227x_e (G0 : pj_G) (b : Int32) (hr : Int32) : F_227x G0 b hr = pj_nm (pj_wv G0 171 0 (.int (Int32.ofInt 0))) (fun G2 => pj_nm (F_215x G2) (fun G5 => pj_bd (F_222x G5 b hr) (fun y9 G10 => pj_nm (pj_fi G10 171 32) (fun y13 => cond (pj_c1 .eq y13 0) ((y9, G10)) (pj_bd (F_216x G10 y9) (fun y17 G18 => (y17, G18))))))) := rfl
theorem ct_226x (G0 : pj_G) (hI : pj_Inv G0) (b : Int32) (hr : Int32) (p0_ : (pj_fi G0 171 30).toInt ≤ 15) : pj_Y 4 226 [.ref 171, .int b, .int hr] G0 (fun v' G' => ∃ y : Int32, v' = some (.int y) ∧ pj_Inv G' ∧ pj_kpt kc_226x G0 G' ∧ ((-2147483648 : Int) ≤ y.toInt ∧ y.toInt ≤ 2147483647) ∧ ((pj_fi G' 171 30).toInt ≤ 15) ∧ ((y, G') = F_227x G0 b hr)) := by
  have c0_ : (Int32.ofInt 0).toInt = 0 := by decide
  refine pj_Y_X (M := pj_m226) rfl rfl (Nat.le_of_ble_eq_true rfl) ?_
  have hK : pj_kpt kc_226x G0 G0 := pj_kpt_r _ _
  show pj_X _ _ G0 0 [(0, .ref 171), (1, .int b), (2, .int hr)] [] _
  rw [F_227x_e]
  obtain ⟨y1, hy1⟩ : ∃ z : Int32, z = pj_fi G0 171 30 := ⟨_, rfl⟩
  have ey1 : (pj_fi G0 171 30).toInt = y1.toInt := by rw [hy1]
  have ry1 : (0 : Int) ≤ y1.toInt ∧ y1.toInt ≤ 16 := by rw [hy1]; exact hI.2.1 171 30 (0, 16) rfl
  refine pj_X_of (fun r h => pj_R_to (G0, 2, [(0, .ref 171), (1, .int b), (2, .int hr)], [.int (Int32.ofInt 0), .ref 171], 0, 0) 2 3 (fun _ => rfl) h) ?_
  refine pj_X_of (fun r h => pj_T_pf hI rfl rfl rfl h) ?_
  show pj_X _ _ (pj_wv G0 171 0 (.int (Int32.ofInt 0))) 5 [(0, .ref 171), (1, .int b), (2, .int hr)] [] _
  obtain ⟨G2, hG2⟩ : ∃ H, H = pj_wv G0 171 0 (.int (Int32.ofInt 0)) := ⟨_, rfl⟩
  have iG2 : pj_Inv G2 := by rw [hG2]; exact pj_Inv_wi hI (ci := 12) rfl (fun q hq => by cases hq)
  have kG2 : pj_kpt kc_226x G0 G2 := by rw [hG2]; exact pj_kpt_v hK rfl
  rw [← hG2]
  rw [pj_nm_e]
  refine pj_X_of (fun r h => pj_R_to (G2, 6, [(0, .ref 171), (1, .int b), (2, .int hr)], [.ref 171], 0, 0) 6 2 (fun _ => rfl) h) ?_
  have q3 : (pj_fi G2 171 30).toInt = y1.toInt := by rw [show pj_fi G2 171 30 = y1 from by rw [hG2, pj_fi_wv_ne _ _ _ _ _ _ (by decide)]; exact hy1.symm]
  refine pj_X_ca (vs := [.ref 171]) rfl (fun _ => rfl) ⟨Nat.le_of_ble_eq_true rfl, Nat.le_of_ble_eq_true rfl, pj_T_rcv iG2 rfl⟩ ⟨rfl, rfl⟩ (pj_Y_up (by decide) (ct_214x G2 iG2 (by omega))) ?_
  rintro _ G5 ⟨rfl, iG5, jG5, fy4⟩
  rw [← fy4, pj_nm_e]
  have kG5 : pj_kpt kc_226x G0 G5 := pj_kpt_t kG2 (pj_kpt_s jG5 rfl)
  have q6 : (pj_fi G5 171 30).toInt = (pj_fi G2 171 30).toInt := by rw [jG5.1 (171, 30) (by decide)]
  obtain ⟨y7, hy7⟩ : ∃ z : Int32, z = pj_fi G5 171 30 := ⟨_, rfl⟩
  have ey7 : (pj_fi G5 171 30).toInt = y7.toInt := by rw [hy7]
  have ry7 : (0 : Int) ≤ y7.toInt ∧ y7.toInt ≤ 16 := by rw [hy7]; exact iG5.2.1 171 30 (0, 16) rfl
  show pj_X _ _ G5 9 [(0, .ref 171), (1, .int b), (2, .int hr)] [] _
  refine pj_X_of (fun r h => pj_R_to (G5, 12, [(0, .ref 171), (1, .int b), (2, .int hr)], [.int hr, .int b, .ref 171], 0, 0) 12 4 (fun _ => rfl) h) ?_
  have q8 : (pj_fi G5 171 30).toInt = y7.toInt := by rw [show pj_fi G5 171 30 = y7 from hy7.symm]
  refine pj_X_ca (vs := [.ref 171, .int b, .int hr]) rfl (fun _ => rfl) ⟨Nat.le_of_ble_eq_true rfl, Nat.le_of_ble_eq_true rfl, pj_T_rcv iG5 rfl⟩ ⟨rfl, rfl⟩ (pj_Y_up (by decide) (ct_221x G5 iG5 b hr)) ?_
  rintro _ G10 ⟨y9, rfl, iG10, jG10, ry9, fy9⟩
  rw [← fy9, pj_bd_e]
  have kG10 : pj_kpt kc_226x G0 G10 := pj_kpt_t kG5 (pj_kpt_s jG10 rfl)
  have q11 : (pj_fi G10 171 30).toInt = (pj_fi G5 171 30).toInt := by rw [jG10.1 (171, 30) (by decide)]
  obtain ⟨y12, hy12⟩ : ∃ z : Int32, z = pj_fi G10 171 30 := ⟨_, rfl⟩
  have ey12 : (pj_fi G10 171 30).toInt = y12.toInt := by rw [hy12]
  have ry12 : (0 : Int) ≤ y12.toInt ∧ y12.toInt ≤ 16 := by rw [hy12]; exact iG10.2.1 171 30 (0, 16) rfl
  show pj_X _ _ G10 15 [(0, .ref 171), (1, .int b), (2, .int hr)] [.int y9] _
  refine pj_X_of (fun r h => pj_R_to (G10, 17, [(3, .int y9), (0, .ref 171), (1, .int b), (2, .int hr)], [.ref 171], 0, 0) 17 3 (fun _ => rfl) h) ?_
  refine pj_X_of (fun r h => pj_T_gi iG10 rfl rfl h) ?_
  show pj_X _ _ G10 20 [(3, .int y9), (0, .ref 171), (1, .int b), (2, .int hr)] [.int (pj_fi G10 171 32)] _
  obtain ⟨y13, hy13⟩ : ∃ z : Int32, z = pj_fi G10 171 32 := ⟨_, rfl⟩
  refine pj_X_eqi hy13.symm ?_
  rw [← hy13, pj_nm_e]
  have ey13 : (pj_fi G10 171 32).toInt = y13.toInt := by rw [hy13]
  have ry13 : (0 : Int) ≤ y13.toInt ∧ y13.toInt ≤ 1 := by rw [hy13]; exact iG10.2.1 171 32 (0, 1) rfl
  cases b14 : pj_c1 .eq y13 0 with
  | true =>
    rw [pj_cT]
    have ub14 := pj_u0_eqT b14
    refine pj_X_of (fun r h => pj_R_ifT 31 rfl rfl b14 h) ?_
    refine pj_X_of (fun r h => pj_R_to (G10, 32, [(3, .int y9), (0, .ref 171), (1, .int b), (2, .int hr)], [.int y9], 0, 0) 32 2 (fun _ => rfl) h) ?_
    have q15 : (pj_fi G10 171 30).toInt = y12.toInt := by rw [show pj_fi G10 171 30 = y12 from hy12.symm]
    exact pj_X_rt rfl rfl ⟨_, rfl, iG10, kG10, pj_i32 _, by omega, rfl⟩
  | false =>
    rw [pj_cF]
    have ub14 := pj_u0_eqF b14
    refine pj_X_of (fun r h => pj_R_ifF rfl b14 h) ?_
    refine pj_X_of (fun r h => pj_R_to (G10, 25, [(3, .int y9), (0, .ref 171), (1, .int b), (2, .int hr)], [.int y9, .ref 171], 0, 0) 25 3 (fun _ => rfl) h) ?_
    have q16 : (pj_fi G10 171 30).toInt = y12.toInt := by rw [show pj_fi G10 171 30 = y12 from hy12.symm]
    refine pj_X_ca (vs := [.ref 171, .int y9]) rfl (fun _ => rfl) ⟨Nat.le_of_ble_eq_true rfl, Nat.le_of_ble_eq_true rfl, pj_T_rcv iG10 rfl⟩ ⟨rfl, rfl⟩ (pj_Y_up (by decide) (ct_215x G10 iG10 y9 (by omega))) ?_
    rintro _ G18 ⟨y17, rfl, iG18, jG18, ry17, ey17, fy17⟩
    rw [← fy17, pj_bd_e]
    have kG18 : pj_kpt kc_226x G0 G18 := pj_kpt_t kG10 (pj_kpt_s jG18 rfl)
    obtain ⟨y19, hy19⟩ : ∃ z : Int32, z = pj_fi G18 171 30 := ⟨_, rfl⟩
    have ey19 : (pj_fi G18 171 30).toInt = y19.toInt := by rw [hy19]
    have ry19 : (0 : Int) ≤ y19.toInt ∧ y19.toInt ≤ 16 := by rw [hy19]; exact iG18.2.1 171 30 (0, 16) rfl
    show pj_X _ _ G18 28 [(3, .int y9), (0, .ref 171), (1, .int b), (2, .int hr)] [.int y17] _
    refine pj_X_of (fun r h => pj_R_to (G18, 32, [(3, .int y9), (0, .ref 171), (1, .int b), (2, .int hr)], [.int y17], 0, 0) 32 2 (fun _ => rfl) h) ?_
    have q20 : (pj_fi G18 171 30).toInt = y19.toInt := by rw [show pj_fi G18 171 30 = y19 from hy19.symm]
    exact pj_X_rt rfl rfl ⟨_, rfl, iG18, kG18, pj_i32 _, by omega, rfl⟩
theorem fr_227x (G0 : pj_G) (hI : pj_Inv G0) (b : Int32) (hr : Int32) (p0_ : (pj_fi G0 171 30).toInt ≤ 15) : pj_Inv (F_227x G0 b hr).2 ∧ pj_kpt kc_226x G0 (F_227x G0 b hr).2 ∧ ((pj_fi (F_227x G0 b hr).2 171 30).toInt ≤ 15) := by
  obtain ⟨v, G', -, y, -, i, j, r, x, e⟩ := ct_226x G0 hI b hr p0_
  rw [← e]
  exact ⟨i, j, x⟩
def kc_227x : pj_KT := ([(171, 0), (171, 30)], [171, 179, 186], [179, 186])
noncomputable def F_228x (G0 : pj_G) (p : Int32) (c : Int32) : Int32 × pj_G := pj_nm (pj_wv G0 171 0 (.int (Int32.ofInt 0))) (fun G2 => pj_nm (F_215x G2) (fun G5 => pj_bd (F_223x G5 p c) (fun y9 G10 => pj_bd (F_217x G10 y9) (fun y14 G15 => (y14, G15)))))
theorem F_228x_e (G0 : pj_G) (p : Int32) (c : Int32) : F_228x G0 p c = pj_nm (pj_wv G0 171 0 (.int (Int32.ofInt 0))) (fun G2 => pj_nm (F_215x G2) (fun G5 => pj_bd (F_223x G5 p c) (fun y9 G10 => pj_bd (F_217x G10 y9) (fun y14 G15 => (y14, G15))))) := rfl
theorem ct_227x (G0 : pj_G) (hI : pj_Inv G0) (p : Int32) (c : Int32) (p0_ : (pj_fi G0 171 30).toInt ≤ 15) : pj_Y 4 227 [.ref 171, .int p, .int c] G0 (fun v' G' => ∃ y : Int32, v' = some (.int y) ∧ pj_Inv G' ∧ pj_kpt kc_227x G0 G' ∧ ((-2147483648 : Int) ≤ y.toInt ∧ y.toInt ≤ 2147483647) ∧ ((pj_fi G' 171 30).toInt ≤ 15) ∧ ((y, G') = F_228x G0 p c)) := by
  have c0_ : (Int32.ofInt 0).toInt = 0 := by decide
  refine pj_Y_X (M := pj_m227) rfl rfl (Nat.le_of_ble_eq_true rfl) ?_
  have hK : pj_kpt kc_227x G0 G0 := pj_kpt_r _ _
  show pj_X _ _ G0 0 [(0, .ref 171), (1, .int p), (2, .int c)] [] _
  rw [F_228x_e]
  obtain ⟨y1, hy1⟩ : ∃ z : Int32, z = pj_fi G0 171 30 := ⟨_, rfl⟩
  have ey1 : (pj_fi G0 171 30).toInt = y1.toInt := by rw [hy1]
  have ry1 : (0 : Int) ≤ y1.toInt ∧ y1.toInt ≤ 16 := by rw [hy1]; exact hI.2.1 171 30 (0, 16) rfl
  refine pj_X_of (fun r h => pj_R_to (G0, 2, [(0, .ref 171), (1, .int p), (2, .int c)], [.int (Int32.ofInt 0), .ref 171], 0, 0) 2 3 (fun _ => rfl) h) ?_
  refine pj_X_of (fun r h => pj_T_pf hI rfl rfl rfl h) ?_
  show pj_X _ _ (pj_wv G0 171 0 (.int (Int32.ofInt 0))) 5 [(0, .ref 171), (1, .int p), (2, .int c)] [] _
  obtain ⟨G2, hG2⟩ : ∃ H, H = pj_wv G0 171 0 (.int (Int32.ofInt 0)) := ⟨_, rfl⟩
  have iG2 : pj_Inv G2 := by rw [hG2]; exact pj_Inv_wi hI (ci := 12) rfl (fun q hq => by cases hq)
  have kG2 : pj_kpt kc_227x G0 G2 := by rw [hG2]; exact pj_kpt_v hK rfl
  rw [← hG2]
  rw [pj_nm_e]
  refine pj_X_of (fun r h => pj_R_to (G2, 6, [(0, .ref 171), (1, .int p), (2, .int c)], [.ref 171], 0, 0) 6 2 (fun _ => rfl) h) ?_
  have q3 : (pj_fi G2 171 30).toInt = y1.toInt := by rw [show pj_fi G2 171 30 = y1 from by rw [hG2, pj_fi_wv_ne _ _ _ _ _ _ (by decide)]; exact hy1.symm]
  refine pj_X_ca (vs := [.ref 171]) rfl (fun _ => rfl) ⟨Nat.le_of_ble_eq_true rfl, Nat.le_of_ble_eq_true rfl, pj_T_rcv iG2 rfl⟩ ⟨rfl, rfl⟩ (pj_Y_up (by decide) (ct_214x G2 iG2 (by omega))) ?_
  rintro _ G5 ⟨rfl, iG5, jG5, fy4⟩
  rw [← fy4, pj_nm_e]
  have kG5 : pj_kpt kc_227x G0 G5 := pj_kpt_t kG2 (pj_kpt_s jG5 rfl)
  have q6 : (pj_fi G5 171 30).toInt = (pj_fi G2 171 30).toInt := by rw [jG5.1 (171, 30) (by decide)]
  obtain ⟨y7, hy7⟩ : ∃ z : Int32, z = pj_fi G5 171 30 := ⟨_, rfl⟩
  have ey7 : (pj_fi G5 171 30).toInt = y7.toInt := by rw [hy7]
  have ry7 : (0 : Int) ≤ y7.toInt ∧ y7.toInt ≤ 16 := by rw [hy7]; exact iG5.2.1 171 30 (0, 16) rfl
  show pj_X _ _ G5 9 [(0, .ref 171), (1, .int p), (2, .int c)] [] _
  refine pj_X_of (fun r h => pj_R_to (G5, 13, [(0, .ref 171), (1, .int p), (2, .int c)], [.int c, .int p, .ref 171, .ref 171], 0, 0) 13 5 (fun _ => rfl) h) ?_
  have q8 : (pj_fi G5 171 30).toInt = y7.toInt := by rw [show pj_fi G5 171 30 = y7 from hy7.symm]
  refine pj_X_ca (vs := [.ref 171, .int p, .int c]) rfl (fun _ => rfl) ⟨Nat.le_of_ble_eq_true rfl, Nat.le_of_ble_eq_true rfl, pj_T_rcv iG5 rfl⟩ ⟨rfl, rfl⟩ (pj_Y_up (by decide) (ct_222x G5 iG5 p c)) ?_
  rintro _ G10 ⟨y9, rfl, iG10, jG10, ry9, fy9⟩
  rw [← fy9, pj_bd_e]
  have kG10 : pj_kpt kc_227x G0 G10 := pj_kpt_t kG5 (pj_kpt_s jG10 rfl)
  have q11 : (pj_fi G10 171 30).toInt = (pj_fi G5 171 30).toInt := by rw [jG10.1 (171, 30) (by decide)]
  obtain ⟨y12, hy12⟩ : ∃ z : Int32, z = pj_fi G10 171 30 := ⟨_, rfl⟩
  have ey12 : (pj_fi G10 171 30).toInt = y12.toInt := by rw [hy12]
  have ry12 : (0 : Int) ≤ y12.toInt ∧ y12.toInt ≤ 16 := by rw [hy12]; exact iG10.2.1 171 30 (0, 16) rfl
  show pj_X _ _ G10 16 [(0, .ref 171), (1, .int p), (2, .int c)] [.int y9, .ref 171] _
  have q13 : (pj_fi G10 171 30).toInt = y12.toInt := by rw [show pj_fi G10 171 30 = y12 from hy12.symm]
  refine pj_X_ca (vs := [.ref 171, .int y9]) rfl (fun _ => rfl) ⟨Nat.le_of_ble_eq_true rfl, Nat.le_of_ble_eq_true rfl, pj_T_rcv iG10 rfl⟩ ⟨rfl, rfl⟩ (pj_Y_up (by decide) (ct_216x G10 iG10 y9 (by omega))) ?_
  rintro _ G15 ⟨y14, rfl, iG15, jG15, ry14, ey14, fy14⟩
  rw [← fy14, pj_bd_e]
  have kG15 : pj_kpt kc_227x G0 G15 := pj_kpt_t kG10 (pj_kpt_s jG15 rfl)
  obtain ⟨y16, hy16⟩ : ∃ z : Int32, z = pj_fi G15 171 30 := ⟨_, rfl⟩
  have ey16 : (pj_fi G15 171 30).toInt = y16.toInt := by rw [hy16]
  have ry16 : (0 : Int) ≤ y16.toInt ∧ y16.toInt ≤ 16 := by rw [hy16]; exact iG15.2.1 171 30 (0, 16) rfl
  show pj_X _ _ G15 19 [(0, .ref 171), (1, .int p), (2, .int c)] [.int y14] _
  have q17 : (pj_fi G15 171 30).toInt = y16.toInt := by rw [show pj_fi G15 171 30 = y16 from hy16.symm]
  exact pj_X_rt rfl rfl ⟨_, rfl, iG15, kG15, pj_i32 _, by omega, rfl⟩
theorem fr_228x (G0 : pj_G) (hI : pj_Inv G0) (p : Int32) (c : Int32) (p0_ : (pj_fi G0 171 30).toInt ≤ 15) : pj_Inv (F_228x G0 p c).2 ∧ pj_kpt kc_227x G0 (F_228x G0 p c).2 ∧ ((pj_fi (F_228x G0 p c).2 171 30).toInt ≤ 15) := by
  obtain ⟨v, G', -, y, -, i, j, r, x, e⟩ := ct_227x G0 hI p c p0_
  rw [← e]
  exact ⟨i, j, x⟩
def kc_228x : pj_KT := ([(171, 0), (171, 1), (171, 30), (171, 33), (171, 34), (171, 35)], [171, 172, 179, 186], [179, 186])
noncomputable def L_229x (G0 : pj_G) (n : Int32) (fu : Nat) : Int32 → pj_G → Int32 × pj_G := Nat.rec (motive := fun _ => Int32 → pj_G → Int32 × pj_G) (fun _ G => (0, G)) (fun _ ih v2 G => cond (pj_c1 .ge v2 n) (pj_nm (pj_wv G 171 1 (.int (Int32.ofInt 0))) (fun G4 => pj_nm (pj_fi G4 171 33) (fun y5 => pj_nm (F_175x G4 y5.toInt64) (fun G10 => pj_nm (pj_fi G10 171 34) (fun y14 => pj_nm (F_175x G10 y14.toInt64) (fun G19 => pj_nm (pj_ai G19 179 ((Int8.ofInt 30).toInt32).toInt.toNat) (fun z23 => pj_bd (F_216x G19 z23) (fun y26 G27 => (y26, G27))))))))) (pj_nm (F_225x G) (fun G36 => pj_nm (v2 + Int32.ofInt 1) (fun z41 => ih z41 G36)))) fu
theorem L_229x_s0 (G0 : pj_G) (n : Int32) (fu : Nat) (v2 : Int32) (G : pj_G) : L_229x G0 n (fu + 1) v2 G = cond (pj_c1 .ge v2 n) (pj_nm (pj_wv G 171 1 (.int (Int32.ofInt 0))) (fun G4 => pj_nm (pj_fi G4 171 33) (fun y5 => pj_nm (F_175x G4 y5.toInt64) (fun G10 => pj_nm (pj_fi G10 171 34) (fun y14 => pj_nm (F_175x G10 y14.toInt64) (fun G19 => pj_nm (pj_ai G19 179 ((Int8.ofInt 30).toInt32).toInt.toNat) (fun z23 => pj_bd (F_216x G19 z23) (fun y26 G27 => (y26, G27))))))))) (pj_nm (F_225x G) (fun G36 => pj_nm (v2 + Int32.ofInt 1) (fun z41 => L_229x G0 n fu z41 G36))) := rfl
noncomputable def F_229x (G0 : pj_G) (n : Int32) : Int32 × pj_G := pj_nm (pj_wv G0 171 0 (.int (Int32.ofInt 0))) (fun G46 => pj_nm (F_171x G46 n.toInt64 (Int64.ofNat 0) (Int64.ofInt 99)) (fun y52 => cond (pj_c1 .ne y52 0) (pj_nm (F_215x G46) (fun G57 => pj_nm (F_224x G57) (fun G65 => L_229x G0 n 100 (Int32.ofInt 0) G65))) ((Int32.ofInt (-1), G46))))
theorem F_229x_e (G0 : pj_G) (n : Int32) : F_229x G0 n = pj_nm (pj_wv G0 171 0 (.int (Int32.ofInt 0))) (fun G46 => pj_nm (F_171x G46 n.toInt64 (Int64.ofNat 0) (Int64.ofInt 99)) (fun y52 => cond (pj_c1 .ne y52 0) (pj_nm (F_215x G46) (fun G57 => pj_nm (F_224x G57) (fun G65 => L_229x G0 n 100 (Int32.ofInt 0) G65))) ((Int32.ofInt (-1), G46)))) := rfl
theorem lp_ct_228x (G0 : pj_G) (hI0 : pj_Inv G0) (n : Int32) (p0_ : (pj_fi G0 171 30).toInt ≤ 15) : ∀ mn : Nat, (∀ (G : pj_G) (hI : pj_Inv G) (hK : pj_kpt kc_228x G0 G) (v2 : Int32), ((0 : Int) ≤ v2.toInt ∧ v2.toInt ≤ 99) → ((pj_fi G 171 30).toInt ≤ 15) → (0 ≤ n.toInt ∧ n.toInt ≤ 99) → 99 - v2.toInt < (mn : Int) → pj_X 3 pj_m228 G 29 [(0, .ref 171), (1, .int n), (2, .int v2)] [] (fun v' G' => ∃ y : Int32, v' = some (.int y) ∧ pj_Inv G' ∧ pj_kpt kc_228x G0 G' ∧ ((-2147483648 : Int) ≤ y.toInt ∧ y.toInt ≤ 2147483647) ∧ ((pj_fi G' 171 30).toInt ≤ 15) ∧ ((y, G') = L_229x G0 n mn v2 G))) := by
  have c0_ : ((Int8.ofInt 30).toInt32).toInt = 30 := by decide
  have c1_ : (Int32.ofInt (-1)).toInt = -1 := by decide
  have c2_ : (Int32.ofInt 0).toInt = 0 := by decide
  have c3_ : (Int32.ofInt 1).toInt = 1 := by decide
  intro mn
  induction mn with
  | zero =>
    intro G hI hK v2 rv2 x0_ x1_ hm
    exfalso
    omega
  | succ mn ih =>
    intro G hI hK v2 rv2 x0_ x1_ hm
    rw [L_229x_s0]
    obtain ⟨y1, hy1⟩ : ∃ z : Int32, z = pj_fi G 171 30 := ⟨_, rfl⟩
    have ey1 : (pj_fi G 171 30).toInt = y1.toInt := by rw [hy1]
    have ry1 : (0 : Int) ≤ y1.toInt ∧ y1.toInt ≤ 16 := by rw [hy1]; exact hI.2.1 171 30 (0, 16) rfl
    obtain ⟨y2, hy2⟩ : ∃ z : Int32, z = pj_fi G 171 1 := ⟨_, rfl⟩
    have ey2 : (pj_fi G 171 1).toInt = y2.toInt := by rw [hy2]
    have ry2 : (0 : Int) ≤ y2.toInt ∧ y2.toInt ≤ 24 := by rw [hy2]; exact hI.2.1 171 1 (0, 24) rfl
    refine pj_X_of (fun r h => pj_R_to (G, 31, [(0, .ref 171), (1, .int n), (2, .int v2)], [.int n, .int v2], 0, 0) 31 3 (fun _ => rfl) h) ?_
    cases b3 : pj_c1 .ge v2 n with
    | true =>
      rw [pj_cT]
      have ub3 := pj_u_geT b3
      refine pj_X_of (fun r h => pj_R_icT 44 rfl rfl b3 h) ?_
      refine pj_X_of (fun r h => pj_R_to (G, 46, [(0, .ref 171), (1, .int n), (2, .int v2)], [.int (Int32.ofInt 0), .ref 171], 0, 0) 46 3 (fun _ => rfl) h) ?_
      refine pj_X_of (fun r h => pj_T_pf hI rfl rfl rfl h) ?_
      show pj_X _ _ (pj_wv G 171 1 (.int (Int32.ofInt 0))) 49 [(0, .ref 171), (1, .int n), (2, .int v2)] [] _
      obtain ⟨G4, hG4⟩ : ∃ H, H = pj_wv G 171 1 (.int (Int32.ofInt 0)) := ⟨_, rfl⟩
      have iG4 : pj_Inv G4 := by rw [hG4]; exact pj_Inv_wi hI (ci := 12) rfl (fun q hq => by cases hq; exact ⟨by show (0 : Int) ≤ _; omega, by show _ ≤ (24 : Int); omega⟩)
      have kG4 : pj_kpt kc_228x G0 G4 := by rw [hG4]; exact pj_kpt_v hK rfl
      rw [← hG4]
      rw [pj_nm_e]
      refine pj_X_of (fun r h => pj_R_to (G4, 51, [(0, .ref 171), (1, .int n), (2, .int v2)], [.ref 171, .ref 171], 0, 0) 51 3 (fun _ => rfl) h) ?_
      refine pj_X_of (fun r h => pj_T_gi iG4 rfl rfl h) ?_
      show pj_X _ _ G4 54 [(0, .ref 171), (1, .int n), (2, .int v2)] [.int (pj_fi G4 171 33), .ref 171] _
      obtain ⟨y5, hy5⟩ : ∃ z : Int32, z = pj_fi G4 171 33 := ⟨_, rfl⟩
      refine pj_X_eqi hy5.symm ?_
      rw [← hy5, pj_nm_e]
      have ey5 : (pj_fi G4 171 33).toInt = y5.toInt := by rw [hy5]
      refine pj_X_of (fun r h => pj_R_to (G4, 55, [(0, .ref 171), (1, .int n), (2, .int v2)], [.long y5.toInt64, .ref 171], 0, 0) 55 2 (fun _ => rfl) h) ?_
      have q6 : (pj_fi G4 171 30).toInt = y1.toInt := by rw [show pj_fi G4 171 30 = y1 from by rw [hG4, pj_fi_wv_ne _ _ _ _ _ _ (by decide)]; exact hy1.symm]
      have q7 : (pj_fi G4 171 1).toInt = (Int32.ofInt 0).toInt := by rw [show pj_fi G4 171 1 = Int32.ofInt 0 from by rw [hG4]; exact pj_fi_wi hI.1 (ci := 12) rfl _]
      have lc8 : (y5.toInt64).toInt = y5.toInt := Int32.toInt_toInt64 _
      refine pj_X_ca (vs := [.ref 171, .long y5.toInt64]) rfl (fun _ => rfl) ⟨Nat.le_of_ble_eq_true rfl, Nat.le_of_ble_eq_true rfl, pj_T_rcv iG4 rfl⟩ ⟨rfl, rfl⟩ (pj_Y_up (by decide) (ct_174x G4 iG4 y5.toInt64 (by omega))) ?_
      rintro _ G10 ⟨rfl, iG10, jG10, eG10, fy9⟩
      replace eG10 := eG10 _ rfl
      rw [← fy9, pj_nm_e]
      have kG10 : pj_kpt kc_228x G0 G10 := pj_kpt_t kG4 (pj_kpt_s jG10 rfl)
      have q11 : (pj_fi G10 171 30).toInt = (pj_fi G4 171 30).toInt := by rw [jG10.1 (171, 30) (by decide)]
      obtain ⟨y12, hy12⟩ : ∃ z : Int32, z = pj_fi G10 171 30 := ⟨_, rfl⟩
      have ey12 : (pj_fi G10 171 30).toInt = y12.toInt := by rw [hy12]
      have ry12 : (0 : Int) ≤ y12.toInt ∧ y12.toInt ≤ 16 := by rw [hy12]; exact iG10.2.1 171 30 (0, 16) rfl
      obtain ⟨y13, hy13⟩ : ∃ z : Int32, z = pj_fi G10 171 1 := ⟨_, rfl⟩
      have ey13 : (pj_fi G10 171 1).toInt = y13.toInt := by rw [hy13]
      have ry13 : (0 : Int) ≤ y13.toInt ∧ y13.toInt ≤ 24 := by rw [hy13]; exact iG10.2.1 171 1 (0, 24) rfl
      show pj_X _ _ G10 58 [(0, .ref 171), (1, .int n), (2, .int v2)] [] _
      refine pj_X_of (fun r h => pj_R_to (G10, 60, [(0, .ref 171), (1, .int n), (2, .int v2)], [.ref 171, .ref 171], 0, 0) 60 3 (fun _ => rfl) h) ?_
      refine pj_X_of (fun r h => pj_T_gi iG10 rfl rfl h) ?_
      show pj_X _ _ G10 63 [(0, .ref 171), (1, .int n), (2, .int v2)] [.int (pj_fi G10 171 34), .ref 171] _
      obtain ⟨y14, hy14⟩ : ∃ z : Int32, z = pj_fi G10 171 34 := ⟨_, rfl⟩
      refine pj_X_eqi hy14.symm ?_
      rw [← hy14, pj_nm_e]
      have ey14 : (pj_fi G10 171 34).toInt = y14.toInt := by rw [hy14]
      refine pj_X_of (fun r h => pj_R_to (G10, 64, [(0, .ref 171), (1, .int n), (2, .int v2)], [.long y14.toInt64, .ref 171], 0, 0) 64 2 (fun _ => rfl) h) ?_
      have q15 : (pj_fi G10 171 30).toInt = y12.toInt := by rw [show pj_fi G10 171 30 = y12 from hy12.symm]
      have q16 : (pj_fi G10 171 1).toInt = y13.toInt := by rw [show pj_fi G10 171 1 = y13 from hy13.symm]
      have lc17 : (y14.toInt64).toInt = y14.toInt := Int32.toInt_toInt64 _
      refine pj_X_ca (vs := [.ref 171, .long y14.toInt64]) rfl (fun _ => rfl) ⟨Nat.le_of_ble_eq_true rfl, Nat.le_of_ble_eq_true rfl, pj_T_rcv iG10 rfl⟩ ⟨rfl, rfl⟩ (pj_Y_up (by decide) (ct_174x G10 iG10 y14.toInt64 (by omega))) ?_
      rintro _ G19 ⟨rfl, iG19, jG19, eG19, fy18⟩
      replace eG19 := eG19 _ rfl
      rw [← fy18, pj_nm_e]
      have kG19 : pj_kpt kc_228x G0 G19 := pj_kpt_t kG10 (pj_kpt_s jG19 rfl)
      have q20 : (pj_fi G19 171 30).toInt = (pj_fi G10 171 30).toInt := by rw [jG19.1 (171, 30) (by decide)]
      obtain ⟨y21, hy21⟩ : ∃ z : Int32, z = pj_fi G19 171 30 := ⟨_, rfl⟩
      have ey21 : (pj_fi G19 171 30).toInt = y21.toInt := by rw [hy21]
      have ry21 : (0 : Int) ≤ y21.toInt ∧ y21.toInt ≤ 16 := by rw [hy21]; exact iG19.2.1 171 30 (0, 16) rfl
      obtain ⟨y22, hy22⟩ : ∃ z : Int32, z = pj_fi G19 171 1 := ⟨_, rfl⟩
      have ey22 : (pj_fi G19 171 1).toInt = y22.toInt := by rw [hy22]
      have ry22 : (0 : Int) ≤ y22.toInt ∧ y22.toInt ≤ 24 := by rw [hy22]; exact iG19.2.1 171 1 (0, 24) rfl
      show pj_X _ _ G19 67 [(0, .ref 171), (1, .int n), (2, .int v2)] [] _
      refine pj_X_of (fun r h => pj_R_to (G19, 69, [(0, .ref 171), (1, .int n), (2, .int v2)], [.ref 171, .ref 171], 0, 0) 69 3 (fun _ => rfl) h) ?_
      refine pj_X_of (fun r h => pj_T_gr iG19 rfl rfl rfl h) ?_
      refine pj_X_of (fun r h => pj_R_to (G19, 74, [(0, .ref 171), (1, .int n), (2, .int v2)], [.int ((Int8.ofInt 30).toInt32), .ref 179, .ref 171], 0, 0) 74 2 (fun _ => rfl) h) ?_
      refine pj_X_of (fun r h => pj_T_il iG19 rfl rfl (by omega) (by omega) h) ?_
      show pj_X _ _ G19 75 [(0, .ref 171), (1, .int n), (2, .int v2)] [.int (pj_ai G19 179 ((Int8.ofInt 30).toInt32).toInt.toNat), .ref 171] _
      obtain ⟨z23, hz23⟩ : ∃ z : Int32, z = pj_ai G19 179 ((Int8.ofInt 30).toInt32).toInt.toNat := ⟨_, rfl⟩
      refine pj_X_eqi hz23.symm ?_
      rw [← hz23, pj_nm_e]
      have ez23 : (pj_ai G19 179 ((Int8.ofInt 30).toInt32).toInt.toNat).toInt = z23.toInt := by rw [hz23]
      have q24 : (pj_fi G19 171 30).toInt = y21.toInt := by rw [show pj_fi G19 171 30 = y21 from hy21.symm]
      have q25 : (pj_fi G19 171 1).toInt = y22.toInt := by rw [show pj_fi G19 171 1 = y22 from hy22.symm]
      refine pj_X_ca (vs := [.ref 171, .int z23]) rfl (fun _ => rfl) ⟨Nat.le_of_ble_eq_true rfl, Nat.le_of_ble_eq_true rfl, pj_T_rcv iG19 rfl⟩ ⟨rfl, rfl⟩ (pj_Y_up (by decide) (ct_215x G19 iG19 z23 (by omega))) ?_
      rintro _ G27 ⟨y26, rfl, iG27, jG27, ry26, ey26, fy26⟩
      rw [← fy26, pj_bd_e]
      have kG27 : pj_kpt kc_228x G0 G27 := pj_kpt_t kG19 (pj_kpt_s jG27 rfl)
      have q28 : (pj_fi G27 171 1).toInt = (pj_fi G19 171 1).toInt := by rw [jG27.1 (171, 1) (by decide)]
      obtain ⟨y29, hy29⟩ : ∃ z : Int32, z = pj_fi G27 171 30 := ⟨_, rfl⟩
      have ey29 : (pj_fi G27 171 30).toInt = y29.toInt := by rw [hy29]
      have ry29 : (0 : Int) ≤ y29.toInt ∧ y29.toInt ≤ 16 := by rw [hy29]; exact iG27.2.1 171 30 (0, 16) rfl
      obtain ⟨y30, hy30⟩ : ∃ z : Int32, z = pj_fi G27 171 1 := ⟨_, rfl⟩
      have ey30 : (pj_fi G27 171 1).toInt = y30.toInt := by rw [hy30]
      have ry30 : (0 : Int) ≤ y30.toInt ∧ y30.toInt ≤ 24 := by rw [hy30]; exact iG27.2.1 171 1 (0, 24) rfl
      show pj_X _ _ G27 78 [(0, .ref 171), (1, .int n), (2, .int v2)] [.int y26] _
      have q31 : (pj_fi G27 171 30).toInt = y29.toInt := by rw [show pj_fi G27 171 30 = y29 from hy29.symm]
      have q32 : (pj_fi G27 171 1).toInt = y30.toInt := by rw [show pj_fi G27 171 1 = y30 from hy30.symm]
      exact pj_X_rt rfl rfl ⟨_, rfl, iG27, kG27, pj_i32 _, by omega, rfl⟩
    | false =>
      rw [pj_cF]
      have ub3 := pj_u_geF b3
      refine pj_X_of (fun r h => pj_R_icF rfl b3 h) ?_
      refine pj_X_of (fun r h => pj_R_to (G, 35, [(0, .ref 171), (1, .int n), (2, .int v2)], [.ref 171], 0, 0) 35 2 (fun _ => rfl) h) ?_
      have q33 : (pj_fi G 171 30).toInt = y1.toInt := by rw [show pj_fi G 171 30 = y1 from hy1.symm]
      have q34 : (pj_fi G 171 1).toInt = y2.toInt := by rw [show pj_fi G 171 1 = y2 from hy2.symm]
      refine pj_X_ca (vs := [.ref 171]) rfl (fun _ => rfl) ⟨Nat.le_of_ble_eq_true rfl, Nat.le_of_ble_eq_true rfl, pj_T_rcv hI rfl⟩ ⟨rfl, rfl⟩ (pj_Y_up (by decide) (ct_224x G hI)) ?_
      rintro _ G36 ⟨rfl, iG36, jG36, fy35⟩
      rw [← fy35, pj_nm_e]
      have kG36 : pj_kpt kc_228x G0 G36 := pj_kpt_t hK (pj_kpt_s jG36 rfl)
      have q37 : (pj_fi G36 171 30).toInt = (pj_fi G 171 30).toInt := by rw [jG36.1 (171, 30) (by decide)]
      have q38 : (pj_fi G36 171 1).toInt = (pj_fi G 171 1).toInt := by rw [jG36.1 (171, 1) (by decide)]
      obtain ⟨y39, hy39⟩ : ∃ z : Int32, z = pj_fi G36 171 30 := ⟨_, rfl⟩
      have ey39 : (pj_fi G36 171 30).toInt = y39.toInt := by rw [hy39]
      have ry39 : (0 : Int) ≤ y39.toInt ∧ y39.toInt ≤ 16 := by rw [hy39]; exact iG36.2.1 171 30 (0, 16) rfl
      obtain ⟨y40, hy40⟩ : ∃ z : Int32, z = pj_fi G36 171 1 := ⟨_, rfl⟩
      have ey40 : (pj_fi G36 171 1).toInt = y40.toInt := by rw [hy40]
      have ry40 : (0 : Int) ≤ y40.toInt ∧ y40.toInt ≤ 24 := by rw [hy40]; exact iG36.2.1 171 1 (0, 24) rfl
      show pj_X _ _ G36 38 [(0, .ref 171), (1, .int n), (2, .int v2)] [] _
      refine pj_X_of (fun r h => pj_R_to (G36, 41, [(2, .int (v2 + Int32.ofInt 1)), (0, .ref 171), (1, .int n)], [], 0, 0) 41 2 (fun _ => rfl) h) ?_
      obtain ⟨z41, hz41⟩ : ∃ z : Int32, z = v2 + Int32.ofInt 1 := ⟨_, rfl⟩
      rw [← hz41]
      rw [pj_nm_e]
      have fz41_0 : z41.toInt = v2.toInt + (Int32.ofInt 1).toInt := by rw [hz41]; exact pj_addI (by have := pj_i32 v2; have := pj_i32 (Int32.ofInt 1); omega) (by have := pj_i32 v2; have := pj_i32 (Int32.ofInt 1); omega)
      refine pj_X_of (fun r h => pj_R_to (G36, 29, [(2, .int z41), (0, .ref 171), (1, .int n)], [], 0, 0) 29 2 (fun _ => rfl) h) ?_
      have q42 : (pj_fi G36 171 30).toInt = y39.toInt := by rw [show pj_fi G36 171 30 = y39 from hy39.symm]
      have q43 : (pj_fi G36 171 1).toInt = y40.toInt := by rw [show pj_fi G36 171 1 = y40 from hy40.symm]
      exact pj_X_sub [(0, .ref 171), (1, .int n), (2, .int z41)] (show List.Nodup [0, 1, 2] by decide) ⟨rfl, rfl, rfl, trivial⟩ (ih G36 iG36 kG36 z41 ⟨by omega, by omega⟩ (by omega) (by omega) (by omega))
theorem ct_228x (G0 : pj_G) (hI : pj_Inv G0) (n : Int32) (p0_ : (pj_fi G0 171 30).toInt ≤ 15) : pj_Y 4 228 [.ref 171, .int n] G0 (fun v' G' => ∃ y : Int32, v' = some (.int y) ∧ pj_Inv G' ∧ pj_kpt kc_228x G0 G' ∧ ((-2147483648 : Int) ≤ y.toInt ∧ y.toInt ≤ 2147483647) ∧ ((pj_fi G' 171 30).toInt ≤ 15) ∧ ((y, G') = F_229x G0 n)) := by
  have c0_ : ((Int8.ofInt 30).toInt32).toInt = 30 := by decide
  have c1_ : (Int32.ofInt (-1)).toInt = -1 := by decide
  have c2_ : (Int32.ofInt 0).toInt = 0 := by decide
  have c3_ : (Int32.ofInt 1).toInt = 1 := by decide
  refine pj_Y_X (M := pj_m228) rfl rfl (Nat.le_of_ble_eq_true rfl) ?_
  have hK : pj_kpt kc_228x G0 G0 := pj_kpt_r _ _
  show pj_X _ _ G0 0 [(0, .ref 171), (1, .int n)] [] _
  rw [F_229x_e]
  obtain ⟨y44, hy44⟩ : ∃ z : Int32, z = pj_fi G0 171 30 := ⟨_, rfl⟩
  have ey44 : (pj_fi G0 171 30).toInt = y44.toInt := by rw [hy44]
  have ry44 : (0 : Int) ≤ y44.toInt ∧ y44.toInt ≤ 16 := by rw [hy44]; exact hI.2.1 171 30 (0, 16) rfl
  obtain ⟨y45, hy45⟩ : ∃ z : Int32, z = pj_fi G0 171 1 := ⟨_, rfl⟩
  have ey45 : (pj_fi G0 171 1).toInt = y45.toInt := by rw [hy45]
  have ry45 : (0 : Int) ≤ y45.toInt ∧ y45.toInt ≤ 24 := by rw [hy45]; exact hI.2.1 171 1 (0, 24) rfl
  refine pj_X_of (fun r h => pj_R_to (G0, 2, [(0, .ref 171), (1, .int n)], [.int (Int32.ofInt 0), .ref 171], 0, 0) 2 3 (fun _ => rfl) h) ?_
  refine pj_X_of (fun r h => pj_T_pf hI rfl rfl rfl h) ?_
  show pj_X _ _ (pj_wv G0 171 0 (.int (Int32.ofInt 0))) 5 [(0, .ref 171), (1, .int n)] [] _
  obtain ⟨G46, hG46⟩ : ∃ H, H = pj_wv G0 171 0 (.int (Int32.ofInt 0)) := ⟨_, rfl⟩
  have iG46 : pj_Inv G46 := by rw [hG46]; exact pj_Inv_wi hI (ci := 12) rfl (fun q hq => by cases hq)
  have kG46 : pj_kpt kc_228x G0 G46 := by rw [hG46]; exact pj_kpt_v hK rfl
  rw [← hG46]
  rw [pj_nm_e]
  refine pj_X_of (fun r h => pj_R_to (G46, 11, [(0, .ref 171), (1, .int n)], [.long (Int64.ofInt 99), .long (Int64.ofNat 0), .long n.toInt64], 0, 0) 11 5 (fun _ => rfl) h) ?_
  have q47 : (pj_fi G46 171 30).toInt = y44.toInt := by rw [show pj_fi G46 171 30 = y44 from by rw [hG46, pj_fi_wv_ne _ _ _ _ _ _ (by decide)]; exact hy44.symm]
  have q48 : (pj_fi G46 171 1).toInt = y45.toInt := by rw [show pj_fi G46 171 1 = y45 from by rw [hG46, pj_fi_wv_ne _ _ _ _ _ _ (by decide)]; exact hy45.symm]
  have lc49 : (n.toInt64).toInt = n.toInt := Int32.toInt_toInt64 _
  have lc50 : (Int64.ofNat 0).toInt = 0 := by decide
  have lc51 : (Int64.ofInt 99).toInt = 99 := by decide
  refine pj_X_ca (vs := [.long n.toInt64, .long (Int64.ofNat 0), .long (Int64.ofInt 99)]) rfl (fun _ => rfl) ⟨Nat.le_of_ble_eq_true rfl, Nat.le_of_ble_eq_true rfl, rfl⟩ ⟨rfl, rfl⟩ (pj_Y_up (by decide) (ct_170x G46 iG46 n.toInt64 (Int64.ofNat 0) (Int64.ofInt 99))) ?_
  rintro _ _ ⟨y52, rfl, rfl, ry52, ey52, fy52⟩
  rw [← fy52, pj_nm_e]
  show pj_X _ _ G46 14 [(0, .ref 171), (1, .int n)] [.int y52] _
  cases b53 : pj_c1 .ne y52 0 with
  | true =>
    rw [pj_cT]
    have ub53 := pj_u0_neT b53
    refine pj_X_of (fun r h => pj_R_ifT 19 rfl rfl b53 h) ?_
    refine pj_X_of (fun r h => pj_R_to (G46, 20, [(0, .ref 171), (1, .int n)], [.ref 171], 0, 0) 20 2 (fun _ => rfl) h) ?_
    have q54 : (pj_fi G46 171 30).toInt = y44.toInt := by rw [show pj_fi G46 171 30 = y44 from by rw [hG46, pj_fi_wv_ne _ _ _ _ _ _ (by decide)]; exact hy44.symm]
    have q55 : (pj_fi G46 171 1).toInt = y45.toInt := by rw [show pj_fi G46 171 1 = y45 from by rw [hG46, pj_fi_wv_ne _ _ _ _ _ _ (by decide)]; exact hy45.symm]
    refine pj_X_ca (vs := [.ref 171]) rfl (fun _ => rfl) ⟨Nat.le_of_ble_eq_true rfl, Nat.le_of_ble_eq_true rfl, pj_T_rcv iG46 rfl⟩ ⟨rfl, rfl⟩ (pj_Y_up (by decide) (ct_214x G46 iG46 (by omega))) ?_
    rintro _ G57 ⟨rfl, iG57, jG57, fy56⟩
    rw [← fy56, pj_nm_e]
    have kG57 : pj_kpt kc_228x G0 G57 := pj_kpt_t kG46 (pj_kpt_s jG57 rfl)
    have q58 : (pj_fi G57 171 30).toInt = (pj_fi G46 171 30).toInt := by rw [jG57.1 (171, 30) (by decide)]
    have q59 : (pj_fi G57 171 1).toInt = (pj_fi G46 171 1).toInt := by rw [jG57.1 (171, 1) (by decide)]
    obtain ⟨y60, hy60⟩ : ∃ z : Int32, z = pj_fi G57 171 30 := ⟨_, rfl⟩
    have ey60 : (pj_fi G57 171 30).toInt = y60.toInt := by rw [hy60]
    have ry60 : (0 : Int) ≤ y60.toInt ∧ y60.toInt ≤ 16 := by rw [hy60]; exact iG57.2.1 171 30 (0, 16) rfl
    obtain ⟨y61, hy61⟩ : ∃ z : Int32, z = pj_fi G57 171 1 := ⟨_, rfl⟩
    have ey61 : (pj_fi G57 171 1).toInt = y61.toInt := by rw [hy61]
    have ry61 : (0 : Int) ≤ y61.toInt ∧ y61.toInt ≤ 24 := by rw [hy61]; exact iG57.2.1 171 1 (0, 24) rfl
    show pj_X _ _ G57 23 [(0, .ref 171), (1, .int n)] [] _
    refine pj_X_of (fun r h => pj_R_to (G57, 24, [(0, .ref 171), (1, .int n)], [.ref 171], 0, 0) 24 2 (fun _ => rfl) h) ?_
    have q62 : (pj_fi G57 171 30).toInt = y60.toInt := by rw [show pj_fi G57 171 30 = y60 from hy60.symm]
    have q63 : (pj_fi G57 171 1).toInt = y61.toInt := by rw [show pj_fi G57 171 1 = y61 from hy61.symm]
    refine pj_X_ca (vs := [.ref 171]) rfl (fun _ => rfl) ⟨Nat.le_of_ble_eq_true rfl, Nat.le_of_ble_eq_true rfl, pj_T_rcv iG57 rfl⟩ ⟨rfl, rfl⟩ (pj_Y_up (by decide) (ct_223x G57 iG57)) ?_
    rintro _ G65 ⟨rfl, iG65, jG65, fy64⟩
    rw [← fy64, pj_nm_e]
    have kG65 : pj_kpt kc_228x G0 G65 := pj_kpt_t kG57 (pj_kpt_s jG65 rfl)
    have q66 : (pj_fi G65 171 30).toInt = (pj_fi G57 171 30).toInt := by rw [jG65.1 (171, 30) (by decide)]
    have q67 : (pj_fi G65 171 1).toInt = (pj_fi G57 171 1).toInt := by rw [jG65.1 (171, 1) (by decide)]
    obtain ⟨y68, hy68⟩ : ∃ z : Int32, z = pj_fi G65 171 30 := ⟨_, rfl⟩
    have ey68 : (pj_fi G65 171 30).toInt = y68.toInt := by rw [hy68]
    have ry68 : (0 : Int) ≤ y68.toInt ∧ y68.toInt ≤ 16 := by rw [hy68]; exact iG65.2.1 171 30 (0, 16) rfl
    obtain ⟨y69, hy69⟩ : ∃ z : Int32, z = pj_fi G65 171 1 := ⟨_, rfl⟩
    have ey69 : (pj_fi G65 171 1).toInt = y69.toInt := by rw [hy69]
    have ry69 : (0 : Int) ≤ y69.toInt ∧ y69.toInt ≤ 24 := by rw [hy69]; exact iG65.2.1 171 1 (0, 24) rfl
    show pj_X _ _ G65 27 [(0, .ref 171), (1, .int n)] [] _
    refine pj_X_of (fun r h => pj_R_to (G65, 29, [(2, .int (Int32.ofInt 0)), (0, .ref 171), (1, .int n)], [], 0, 0) 29 3 (fun _ => rfl) h) ?_
    have q70 : (pj_fi G65 171 30).toInt = y68.toInt := by rw [show pj_fi G65 171 30 = y68 from hy68.symm]
    have q71 : (pj_fi G65 171 1).toInt = y69.toInt := by rw [show pj_fi G65 171 1 = y69 from hy69.symm]
    exact pj_X_sub [(0, .ref 171), (1, .int n), (2, .int (Int32.ofInt 0))] (show List.Nodup [0, 1, 2] by decide) ⟨rfl, rfl, rfl, trivial⟩ ((lp_ct_228x G0 hI n  p0_ 100) G65 iG65 kG65 (Int32.ofInt 0) ⟨by omega, by omega⟩ (by omega) (by omega) (by omega))
  | false =>
    rw [pj_cF]
    have ub53 := pj_u0_neF b53
    refine pj_X_of (fun r h => pj_R_ifF rfl b53 h) ?_
    refine pj_X_of (fun r h => pj_R_to (G46, 18, [(0, .ref 171), (1, .int n)], [.int (Int32.ofInt (-1))], 0, 0) 18 2 (fun _ => rfl) h) ?_
    have q72 : (pj_fi G46 171 30).toInt = y44.toInt := by rw [show pj_fi G46 171 30 = y44 from by rw [hG46, pj_fi_wv_ne _ _ _ _ _ _ (by decide)]; exact hy44.symm]
    have q73 : (pj_fi G46 171 1).toInt = y45.toInt := by rw [show pj_fi G46 171 1 = y45 from by rw [hG46, pj_fi_wv_ne _ _ _ _ _ _ (by decide)]; exact hy45.symm]
    exact pj_X_rt rfl rfl ⟨_, rfl, iG46, kG46, pj_i32 _, by omega, rfl⟩
theorem fr_229x (G0 : pj_G) (hI : pj_Inv G0) (n : Int32) (p0_ : (pj_fi G0 171 30).toInt ≤ 15) : pj_Inv (F_229x G0 n).2 ∧ pj_kpt kc_228x G0 (F_229x G0 n).2 ∧ ((pj_fi (F_229x G0 n).2 171 30).toInt ≤ 15) := by
  obtain ⟨v, G', -, y, -, i, j, r, x, e⟩ := ct_228x G0 hI n p0_
  rw [← e]
  exact ⟨i, j, x⟩
