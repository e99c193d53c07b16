noncomputable def L_185_s11x (G0 : pj_G) (fu : Nat) : Int32 → Int32 := Nat.rec (motive := fun _ => Int32 → Int32) (fun _ => 0) (fun _ ih v2 => pj_nm (F_289_s11x G0) (fun y5 => cond (pj_c1 .ge v2 y5) (Int32.ofInt (-1)) (pj_nm (pj_fi G0 171 17) (fun y1 => pj_nm (pj_fi G0 171 18) (fun y2 => cond (pj_c1 .ge y1 y2) (Int32.ofInt (-1)) (pj_nm (F_290_s11x G0 v2) (fun y14 => pj_nm (pj_ai G0 180 y1.toInt.toNat) (fun z15 => cond (pj_c1 .ne y14 z15) (pj_nm (v2 + Int32.ofInt 1) (fun z17 => ih z17)) (v2))))))))) fu
theorem L_185_s11x_s0 (G0 : pj_G) (fu : Nat) (v2 : Int32) : L_185_s11x G0 (fu + 1) v2 = pj_nm (F_289_s11x G0) (fun y5 => cond (pj_c1 .ge v2 y5) (Int32.ofInt (-1)) (pj_nm (pj_fi G0 171 17) (fun y1 => pj_nm (pj_fi G0 171 18) (fun y2 => cond (pj_c1 .ge y1 y2) (Int32.ofInt (-1)) (pj_nm (F_290_s11x G0 v2) (fun y14 => pj_nm (pj_ai G0 180 y1.toInt.toNat) (fun z15 => cond (pj_c1 .ne y14 z15) (pj_nm (v2 + Int32.ofInt 1) (fun z17 => L_185_s11x G0 fu z17)) (v2)))))))) := rfl
noncomputable def F_185_s11x (G0 : pj_G) : Int32 := L_185_s11x G0 8 (Int32.ofInt 0)
theorem F_185_s11x_e (G0 : pj_G) : F_185_s11x G0 = L_185_s11x G0 8 (Int32.ofInt 0) := rfl
theorem lp_ct_184_s11x (G0 : pj_G) (hI : pj_Inv G0) : ∀ mn : Nat, (∀ (v2 : Int32), ((0 : Int) ≤ v2.toInt ∧ v2.toInt ≤ 7) → (0 < v2.toInt → ¬ (pj_ai G0 180 (pj_fi G0 171 17).toInt.toNat).toInt = 100) → (1 < v2.toInt → ¬ (pj_ai G0 180 (pj_fi G0 171 17).toInt.toNat).toInt = 117) → (2 < v2.toInt → ¬ (pj_ai G0 180 (pj_fi G0 171 17).toInt.toNat).toInt = 108) → (3 < v2.toInt → ¬ (pj_ai G0 180 (pj_fi G0 171 17).toInt.toNat).toInt = 115) → (4 < v2.toInt → ¬ (pj_ai G0 180 (pj_fi G0 171 17).toInt.toNat).toInt = 119) → (5 < v2.toInt → ¬ (pj_ai G0 180 (pj_fi G0 171 17).toInt.toNat).toInt = 98) → (6 < v2.toInt → ¬ (pj_ai G0 180 (pj_fi G0 171 17).toInt.toNat).toInt = 110) → 7 - v2.toInt < (mn : Int) → pj_X 14 pj_m184 G0 2 [(0, .ref 171), (1, .retAddr 11), (2, .int v2)] [] (fun v' G' => ∃ y : Int32, v' = some (.int y) ∧ G0 = G' ∧ ((-1 : Int) ≤ y.toInt ∧ y.toInt ≤ 6) ∧ (∀ H, G0 = H → ((0 ≤ y.toInt → (pj_fi H 171 17).toInt < (pj_fi H 171 18).toInt) ∧ ((((pj_fi H 171 17).toInt < (pj_fi H 171 18).toInt) ∧ (pj_ai H 180 (pj_fi H 171 17).toInt.toNat).toInt = 100 → y.toInt = 0) ∧ (((pj_fi H 171 17).toInt < (pj_fi H 171 18).toInt) ∧ (pj_ai H 180 (pj_fi H 171 17).toInt.toNat).toInt = 117 → y.toInt = 1) ∧ (((pj_fi H 171 17).toInt < (pj_fi H 171 18).toInt) ∧ (pj_ai H 180 (pj_fi H 171 17).toInt.toNat).toInt = 108 → y.toInt = 2) ∧ (((pj_fi H 171 17).toInt < (pj_fi H 171 18).toInt) ∧ (pj_ai H 180 (pj_fi H 171 17).toInt.toNat).toInt = 115 → y.toInt = 3) ∧ (((pj_fi H 171 17).toInt < (pj_fi H 171 18).toInt) ∧ (pj_ai H 180 (pj_fi H 171 17).toInt.toNat).toInt = 119 → y.toInt = 4) ∧ (((pj_fi H 171 17).toInt < (pj_fi H 171 18).toInt) ∧ (pj_ai H 180 (pj_fi H 171 17).toInt.toNat).toInt = 98 → y.toInt = 5) ∧ (((pj_fi H 171 17).toInt < (pj_fi H 171 18).toInt) ∧ (pj_ai H 180 (pj_fi H 171 17).toInt.toNat).toInt = 110 → y.toInt = 6) ∧ (¬ (((pj_fi H 171 17).toInt < (pj_fi H 171 18).toInt) ∧ ((pj_ai H 180 (pj_fi H 171 17).toInt.toNat).toInt = 100 ∨ (pj_ai H 180 (pj_fi H 171 17).toInt.toNat).toInt = 117 ∨ (pj_ai H 180 (pj_fi H 171 17).toInt.toNat).toInt = 108 ∨ (pj_ai H 180 (pj_fi H 171 17).toInt.toNat).toInt = 115 ∨ (pj_ai H 180 (pj_fi H 171 17).toInt.toNat).toInt = 119 ∨ (pj_ai H 180 (pj_fi H 171 17).toInt.toNat).toInt = 98 ∨ (pj_ai H 180 (pj_fi H 171 17).toInt.toNat).toInt = 110)) → y.toInt = -1)))) ∧ (y = L_185_s11x G0 mn v2))) := by
  have c0_ : (Int32.ofInt (-1)).toInt = -1 := by decide
  have c1_ : (Int32.ofInt 0).toInt = 0 := by decide
  have c2_ : (Int32.ofInt 1).toInt = 1 := by decide
  have hK : pj_kpt ([], [], []) G0 G0 := pj_kpt_r _ _
  intro mn
  induction mn with
  | zero =>
    intro v2 rv2 x0_ x1_ x2_ x3_ x4_ x5_ x6_ hm
    exfalso
    omega
  | succ mn ih =>
    intro v2 rv2 x0_ x1_ x2_ x3_ x4_ x5_ x6_ hm
    rw [L_185_s11x_s0]
    obtain ⟨y1, hy1⟩ : ∃ z : Int32, z = pj_fi G0 171 17 := ⟨_, rfl⟩
    have ey1 : (pj_fi G0 171 17).toInt = y1.toInt := by rw [hy1]
    have ry1 : (0 : Int) ≤ y1.toInt ∧ y1.toInt ≤ 80 := by rw [hy1]; exact hI.2.1 171 17 (0, 80) rfl
    obtain ⟨y2, hy2⟩ : ∃ z : Int32, z = pj_fi G0 171 18 := ⟨_, rfl⟩
    have ey2 : (pj_fi G0 171 18).toInt = y2.toInt := by rw [hy2]
    have ry2 : (0 : Int) ≤ y2.toInt ∧ y2.toInt ≤ 80 := by rw [hy2]; exact hI.2.1 171 18 (0, 80) rfl
    refine pj_X_of (fun r h => pj_R_to (G0, 4, [(0, .ref 171), (1, .retAddr 11), (2, .int v2)], [.retAddr 11, .int v2], 0, 0) 4 3 (fun _ => rfl) h) ?_
    have q3 : (pj_fi G0 171 17).toInt = y1.toInt := by rw [show pj_fi G0 171 17 = y1 from hy1.symm]
    have q4 : (pj_fi G0 171 18).toInt = y2.toInt := by rw [show pj_fi G0 171 18 = y2 from hy2.symm]
    refine pj_X_ca (vs := [.retAddr 11]) rfl (fun _ => rfl) ⟨Nat.le_of_ble_eq_true rfl, Nat.le_of_ble_eq_true rfl, rfl⟩ ⟨rfl, rfl⟩ (pj_Y_up (by decide) (ct_288_s11x G0 hI)) ?_
    rintro _ _ ⟨y5, rfl, rfl, ry5, fy5⟩
    rw [← fy5, pj_nm_e]
    show pj_X _ _ G0 7 [(0, .ref 171), (1, .retAddr 11), (2, .int v2)] [.int y5, .int v2] _
    cases b6 : pj_c1 .ge v2 y5 with
    | true =>
      rw [pj_cT]
      have ub6 := pj_u_geT b6
      refine pj_X_of (fun r h => pj_R_icT 46 rfl rfl b6 h) ?_
      refine pj_X_of (fun r h => pj_R_to (G0, 47, [(0, .ref 171), (1, .retAddr 11), (2, .int v2)], [.int (Int32.ofInt (-1))], 0, 0) 47 2 (fun _ => rfl) h) ?_
      have q7 : (pj_fi G0 171 17).toInt = y1.toInt := by rw [show pj_fi G0 171 17 = y1 from hy1.symm]
      have q8 : (pj_fi G0 171 18).toInt = y2.toInt := by rw [show pj_fi G0 171 18 = y2 from hy2.symm]
      exact pj_X_rt rfl rfl ⟨_, rfl, rfl, ⟨by omega, by omega⟩, (fun H hH => by subst hH; exact (⟨by omega, by omega⟩)), rfl⟩
    | false =>
      rw [pj_cF]
      have ub6 := pj_u_geF b6
      refine pj_X_of (fun r h => pj_R_icF rfl b6 h) ?_
      refine pj_X_of (fun r h => pj_R_to (G0, 11, [(0, .ref 171), (1, .retAddr 11), (2, .int v2)], [.ref 171], 0, 0) 11 2 (fun _ => rfl) h) ?_
      refine pj_X_of (fun r h => pj_T_gi hI rfl rfl h) ?_
      show pj_X _ _ G0 14 [(0, .ref 171), (1, .retAddr 11), (2, .int v2)] [.int (pj_fi G0 171 17)] _
      rw [← hy1, pj_nm_e]
      refine pj_X_of (fun r h => pj_R_to (G0, 15, [(0, .ref 171), (1, .retAddr 11), (2, .int v2)], [.ref 171, .int y1], 0, 0) 15 2 (fun _ => rfl) h) ?_
      refine pj_X_of (fun r h => pj_T_gi hI rfl rfl h) ?_
      show pj_X _ _ G0 18 [(0, .ref 171), (1, .retAddr 11), (2, .int v2)] [.int (pj_fi G0 171 18), .int y1] _
      rw [← hy2, pj_nm_e]
      cases b9 : pj_c1 .ge y1 y2 with
      | true =>
        rw [pj_cT]
        have ub9 := pj_u_geT b9
        refine pj_X_of (fun r h => pj_R_icT 46 rfl rfl b9 h) ?_
        refine pj_X_of (fun r h => pj_R_to (G0, 47, [(0, .ref 171), (1, .retAddr 11), (2, .int v2)], [.int (Int32.ofInt (-1))], 0, 0) 47 2 (fun _ => rfl) h) ?_
        have q10 : (pj_fi G0 171 17).toInt = y1.toInt := by rw [show pj_fi G0 171 17 = y1 from hy1.symm]
        have q11 : (pj_fi G0 171 18).toInt = y2.toInt := by rw [show pj_fi G0 171 18 = y2 from hy2.symm]
        exact pj_X_rt rfl rfl ⟨_, rfl, rfl, ⟨by omega, by omega⟩, (fun H hH => by subst hH; exact (⟨by omega, by omega⟩)), rfl⟩
      | false =>
        rw [pj_cF]
        have ub9 := pj_u_geF b9
        refine pj_X_of (fun r h => pj_R_icF rfl b9 h) ?_
        refine pj_X_of (fun r h => pj_R_to (G0, 23, [(0, .ref 171), (1, .retAddr 11), (2, .int v2)], [.int v2, .retAddr 11], 0, 0) 23 3 (fun _ => rfl) h) ?_
        have q12 : (pj_fi G0 171 17).toInt = y1.toInt := by rw [show pj_fi G0 171 17 = y1 from hy1.symm]
        have q13 : (pj_fi G0 171 18).toInt = y2.toInt := by rw [show pj_fi G0 171 18 = y2 from hy2.symm]
        refine pj_X_ca (vs := [.retAddr 11, .int v2]) rfl (fun _ => rfl) ⟨Nat.le_of_ble_eq_true rfl, Nat.le_of_ble_eq_true rfl, rfl⟩ ⟨rfl, rfl⟩ (pj_Y_up (by decide) (ct_289_s11x G0 hI v2 ⟨by omega, by omega⟩)) ?_
        rintro _ _ ⟨y14, rfl, rfl, ry14, ey14, fy14⟩
        rw [← fy14, pj_nm_e]
        show pj_X _ _ G0 26 [(0, .ref 171), (1, .retAddr 11), (2, .int v2)] [.int y14] _
        refine pj_X_of (fun r h => pj_R_to (G0, 27, [(0, .ref 171), (1, .retAddr 11), (2, .int v2)], [.ref 171, .int y14], 0, 0) 27 2 (fun _ => rfl) h) ?_
        refine pj_X_of (fun r h => pj_T_gr hI rfl rfl rfl h) ?_
        refine pj_X_of (fun r h => pj_R_to (G0, 31, [(0, .ref 171), (1, .retAddr 11), (2, .int v2)], [.ref 171, .ref 180, .int y14], 0, 0) 31 2 (fun _ => rfl) h) ?_
        refine pj_X_of (fun r h => pj_T_gi hI rfl rfl h) ?_
        show pj_X _ _ G0 34 [(0, .ref 171), (1, .retAddr 11), (2, .int v2)] [.int (pj_fi G0 171 17), .ref 180, .int y14] _
        refine pj_X_eqi (show pj_fi G0 171 17 = y1 from hy1.symm) ?_
        refine pj_X_of (fun r h => pj_T_il hI rfl rfl (by omega) (by omega) h) ?_
        show pj_X _ _ G0 35 [(0, .ref 171), (1, .retAddr 11), (2, .int v2)] [.int (pj_ai G0 180 y1.toInt.toNat), .int y14] _
        obtain ⟨z15, hz15⟩ : ∃ z : Int32, z = pj_ai G0 180 y1.toInt.toNat := ⟨_, rfl⟩
        refine pj_X_eqi hz15.symm ?_
        rw [← hz15, pj_nm_e]
        have ez15 : (pj_ai G0 180 y1.toInt.toNat).toInt = z15.toInt := by rw [hz15]
        have fz15_0 : (0 : Int) ≤ z15.toInt ∧ z15.toInt ≤ 255 ∧ (z15.toInt ≤ 0 ∨ 0 ≤ z15.toInt) := by rw [hz15]; exact hI.2.2.1 180 (80, 0, 255, 0, 0) rfl _ (by show _ < 80; omega)
        have gz15 : (pj_ai G0 180 (pj_fi G0 171 17).toInt.toNat).toInt = z15.toInt := by rw [show pj_fi G0 171 17 = y1 from hy1.symm, hz15]
        cases b16 : pj_c1 .ne y14 z15 with
        | true =>
          rw [pj_cT]
          have ub16 := pj_u_neT b16
          refine pj_X_of (fun r h => pj_R_icT 40 rfl rfl b16 h) ?_
          refine pj_X_of (fun r h => pj_R_to (G0, 43, [(2, .int (v2 + Int32.ofInt 1)), (0, .ref 171), (1, .retAddr 11)], [], 0, 0) 43 2 (fun _ => rfl) h) ?_
          obtain ⟨z17, hz17⟩ : ∃ z : Int32, z = v2 + Int32.ofInt 1 := ⟨_, rfl⟩
          rw [← hz17]
          rw [pj_nm_e]
          have fz17_0 : z17.toInt = v2.toInt + (Int32.ofInt 1).toInt := by rw [hz17]; exact pj_addI (by have := pj_i32 v2; have := pj_i32 (Int32.ofInt 1); omega) (by have := pj_i32 v2; have := pj_i32 (Int32.ofInt 1); omega)
          refine pj_X_of (fun r h => pj_R_to (G0, 2, [(2, .int z17), (0, .ref 171), (1, .retAddr 11)], [], 0, 0) 2 2 (fun _ => rfl) h) ?_
          have q18 : (pj_fi G0 171 17).toInt = y1.toInt := by rw [show pj_fi G0 171 17 = y1 from hy1.symm]
          have q19 : (pj_fi G0 171 18).toInt = y2.toInt := by rw [show pj_fi G0 171 18 = y2 from hy2.symm]
          exact pj_X_sub [(0, .ref 171), (1, .retAddr 11), (2, .int z17)] (show List.Nodup [0, 1, 2] by decide) ⟨rfl, rfl, rfl, trivial⟩ (ih z17 ⟨by omega, by omega⟩ (by omega) (by omega) (by omega) (by omega) (by omega) (by omega) (by omega) (by omega))
        | false =>
          rw [pj_cF]
          have ub16 := pj_u_neF b16
          refine pj_X_of (fun r h => pj_R_icF rfl b16 h) ?_
          refine pj_X_of (fun r h => pj_R_to (G0, 39, [(0, .ref 171), (1, .retAddr 11), (2, .int v2)], [.int v2], 0, 0) 39 2 (fun _ => rfl) h) ?_
          have q20 : (pj_fi G0 171 17).toInt = y1.toInt := by rw [show pj_fi G0 171 17 = y1 from hy1.symm]
          have q21 : (pj_fi G0 171 18).toInt = y2.toInt := by rw [show pj_fi G0 171 18 = y2 from hy2.symm]
          exact pj_X_rt rfl rfl ⟨_, rfl, rfl, ⟨by omega, by omega⟩, (fun H hH => by subst hH; exact (⟨by omega, by omega⟩)), rfl⟩
theorem ct_184_s11x (G0 : pj_G) (hI : pj_Inv G0) : pj_Y 15 184 [.ref 171, .retAddr 11] G0 (fun v' G' => ∃ y : Int32, v' = some (.int y) ∧ G0 = G' ∧ ((-1 : Int) ≤ y.toInt ∧ y.toInt ≤ 6) ∧ (∀ H, G0 = H → ((0 ≤ y.toInt → (pj_fi H 171 17).toInt < (pj_fi H 171 18).toInt) ∧ ((((pj_fi H 171 17).toInt < (pj_fi H 171 18).toInt) ∧ (pj_ai H 180 (pj_fi H 171 17).toInt.toNat).toInt = 100 → y.toInt = 0) ∧ (((pj_fi H 171 17).toInt < (pj_fi H 171 18).toInt) ∧ (pj_ai H 180 (pj_fi H 171 17).toInt.toNat).toInt = 117 → y.toInt = 1) ∧ (((pj_fi H 171 17).toInt < (pj_fi H 171 18).toInt) ∧ (pj_ai H 180 (pj_fi H 171 17).toInt.toNat).toInt = 108 → y.toInt = 2) ∧ (((pj_fi H 171 17).toInt < (pj_fi H 171 18).toInt) ∧ (pj_ai H 180 (pj_fi H 171 17).toInt.toNat).toInt = 115 → y.toInt = 3) ∧ (((pj_fi H 171 17).toInt < (pj_fi H 171 18).toInt) ∧ (pj_ai H 180 (pj_fi H 171 17).toInt.toNat).toInt = 119 → y.toInt = 4) ∧ (((pj_fi H 171 17).toInt < (pj_fi H 171 18).toInt) ∧ (pj_ai H 180 (pj_fi H 171 17).toInt.toNat).toInt = 98 → y.toInt = 5) ∧ (((pj_fi H 171 17).toInt < (pj_fi H 171 18).toInt) ∧ (pj_ai H 180 (pj_fi H 171 17).toInt.toNat).toInt = 110 → y.toInt = 6) ∧ (¬ (((pj_fi H 171 17).toInt < (pj_fi H 171 18).toInt) ∧ ((pj_ai H 180 (pj_fi H 171 17).toInt.toNat).toInt = 100 ∨ (pj_ai H 180 (pj_fi H 171 17).toInt.toNat).toInt = 117 ∨ (pj_ai H 180 (pj_fi H 171 17).toInt.toNat).toInt = 108 ∨ (pj_ai H 180 (pj_fi H 171 17).toInt.toNat).toInt = 115 ∨ (pj_ai H 180 (pj_fi H 171 17).toInt.toNat).toInt = 119 ∨ (pj_ai H 180 (pj_fi H 171 17).toInt.toNat).toInt = 98 ∨ (pj_ai H 180 (pj_fi H 171 17).toInt.toNat).toInt = 110)) → y.toInt = -1)))) ∧ (y = F_185_s11x G0)) := by
  have c0_ : (Int32.ofInt (-1)).toInt = -1 := by decide
  have c1_ : (Int32.ofInt 0).toInt = 0 := by decide
  have c2_ : (Int32.ofInt 1).toInt = 1 := by decide
  refine pj_Y_X (M := pj_m184) rfl rfl (Nat.le_of_ble_eq_true rfl) ?_
  have hK : pj_kpt ([], [], []) G0 G0 := pj_kpt_r _ _
  show pj_X _ _ G0 0 [(0, .ref 171), (1, .retAddr 11)] [] _
  rw [F_185_s11x_e]
  obtain ⟨y22, hy22⟩ : ∃ z : Int32, z = pj_fi G0 171 17 := ⟨_, rfl⟩
  have ey22 : (pj_fi G0 171 17).toInt = y22.toInt := by rw [hy22]
  have ry22 : (0 : Int) ≤ y22.toInt ∧ y22.toInt ≤ 80 := by rw [hy22]; exact hI.2.1 171 17 (0, 80) rfl
  obtain ⟨y23, hy23⟩ : ∃ z : Int32, z = pj_fi G0 171 18 := ⟨_, rfl⟩
  have ey23 : (pj_fi G0 171 18).toInt = y23.toInt := by rw [hy23]
  have ry23 : (0 : Int) ≤ y23.toInt ∧ y23.toInt ≤ 80 := by rw [hy23]; exact hI.2.1 171 18 (0, 80) rfl
  refine pj_X_of (fun r h => pj_R_to (G0, 2, [(2, .int (Int32.ofInt 0)), (0, .ref 171), (1, .retAddr 11)], [], 0, 0) 2 3 (fun _ => rfl) h) ?_
  have q24 : (pj_fi G0 171 17).toInt = y22.toInt := by rw [show pj_fi G0 171 17 = y22 from hy22.symm]
  have q25 : (pj_fi G0 171 18).toInt = y23.toInt := by rw [show pj_fi G0 171 18 = y23 from hy23.symm]
  exact pj_X_sub [(0, .ref 171), (1, .retAddr 11), (2, .int (Int32.ofInt 0))] (show List.Nodup [0, 1, 2] by decide) ⟨rfl, rfl, rfl, trivial⟩ ((lp_ct_184_s11x G0 hI   8) (Int32.ofInt 0) ⟨by omega, by omega⟩ (by omega) (by omega) (by omega) (by omega) (by omega) (by omega) (by omega) (by omega))
theorem fr_185_s11x (G0 : pj_G) (hI : pj_Inv G0) : ((-1 : Int) ≤ (F_185_s11x G0).toInt ∧ (F_185_s11x G0).toInt ≤ 6) ∧ ((0 ≤ (F_185_s11x G0).toInt → (pj_fi G0 171 17).toInt < (pj_fi G0 171 18).toInt) ∧ ((((pj_fi G0 171 17).toInt < (pj_fi G0 171 18).toInt) ∧ (pj_ai G0 180 (pj_fi G0 171 17).toInt.toNat).toInt = 100 → (F_185_s11x G0).toInt = 0) ∧ (((pj_fi G0 171 17).toInt < (pj_fi G0 171 18).toInt) ∧ (pj_ai G0 180 (pj_fi G0 171 17).toInt.toNat).toInt = 117 → (F_185_s11x G0).toInt = 1) ∧ (((pj_fi G0 171 17).toInt < (pj_fi G0 171 18).toInt) ∧ (pj_ai G0 180 (pj_fi G0 171 17).toInt.toNat).toInt = 108 → (F_185_s11x G0).toInt = 2) ∧ (((pj_fi G0 171 17).toInt < (pj_fi G0 171 18).toInt) ∧ (pj_ai G0 180 (pj_fi G0 171 17).toInt.toNat).toInt = 115 → (F_185_s11x G0).toInt = 3) ∧ (((pj_fi G0 171 17).toInt < (pj_fi G0 171 18).toInt) ∧ (pj_ai G0 180 (pj_fi G0 171 17).toInt.toNat).toInt = 119 → (F_185_s11x G0).toInt = 4) ∧ (((pj_fi G0 171 17).toInt < (pj_fi G0 171 18).toInt) ∧ (pj_ai G0 180 (pj_fi G0 171 17).toInt.toNat).toInt = 98 → (F_185_s11x G0).toInt = 5) ∧ (((pj_fi G0 171 17).toInt < (pj_fi G0 171 18).toInt) ∧ (pj_ai G0 180 (pj_fi G0 171 17).toInt.toNat).toInt = 110 → (F_185_s11x G0).toInt = 6) ∧ (¬ (((pj_fi G0 171 17).toInt < (pj_fi G0 171 18).toInt) ∧ ((pj_ai G0 180 (pj_fi G0 171 17).toInt.toNat).toInt = 100 ∨ (pj_ai G0 180 (pj_fi G0 171 17).toInt.toNat).toInt = 117 ∨ (pj_ai G0 180 (pj_fi G0 171 17).toInt.toNat).toInt = 108 ∨ (pj_ai G0 180 (pj_fi G0 171 17).toInt.toNat).toInt = 115 ∨ (pj_ai G0 180 (pj_fi G0 171 17).toInt.toNat).toInt = 119 ∨ (pj_ai G0 180 (pj_fi G0 171 17).toInt.toNat).toInt = 98 ∨ (pj_ai G0 180 (pj_fi G0 171 17).toInt.toNat).toInt = 110)) → (F_185_s11x G0).toInt = -1))) := by
  obtain ⟨v, G', -, y, -, rfl, r, x, e⟩ := ct_184_s11x G0 hI 
  rw [← e]
  exact ⟨r, x _ rfl⟩
def kc_185_s11x : pj_KT := ([(171, 17)], [171], [])
noncomputable def F_186_s11x (G0 : pj_G) : Int32 × pj_G := pj_nm (F_185_s11x G0) (fun y5 => pj_nm (pj_fi G0 171 17) (fun y1 => cond (pj_c1 .lt y5 0) (pj_nm (F_173x G0 (Int32.ofInt 0)) (fun y9 => pj_nm (y1 + y9) (fun z10 => pj_nm (pj_wv G0 171 17 (.int z10)) (fun G11 => (y5, G11))))) (pj_nm (F_173x G0 (Int32.ofInt 1)) (fun y16 => pj_nm (y1 + y16) (fun z17 => pj_nm (pj_wv G0 171 17 (.int z17)) (fun G18 => (y5, G18)))))))
theorem F_186_s11x_e (G0 : pj_G) : F_186_s11x G0 = pj_nm (F_185_s11x G0) (fun y5 => pj_nm (pj_fi G0 171 17) (fun y1 => cond (pj_c1 .lt y5 0) (pj_nm (F_173x G0 (Int32.ofInt 0)) (fun y9 => pj_nm (y1 + y9) (fun z10 => pj_nm (pj_wv G0 171 17 (.int z10)) (fun G11 => (y5, G11))))) (pj_nm (F_173x G0 (Int32.ofInt 1)) (fun y16 => pj_nm (y1 + y16) (fun z17 => pj_nm (pj_wv G0 171 17 (.int z17)) (fun G18 => (y5, G18))))))) := rfl
theorem ct_185_s11x (G0 : pj_G) (hI : pj_Inv G0) : pj_Y 16 185 [.ref 171, .retAddr 11] G0 (fun v' G' => ∃ y : Int32, v' = some (.int y) ∧ pj_Inv G' ∧ pj_kpt kc_185_s11x G0 G' ∧ ((-1 : Int) ≤ y.toInt ∧ y.toInt ≤ 6) ∧ (∀ H, G0 = H → (((0 ≤ y.toInt → (pj_fi G' 171 17).toInt = (pj_fi H 171 17).toInt + 1 ∧ (pj_fi H 171 17).toInt < (pj_fi H 171 18).toInt) ∧ (y.toInt < 0 → (pj_fi G' 171 17).toInt = (pj_fi H 171 17).toInt)) ∧ ((((pj_fi H 171 17).toInt < (pj_fi H 171 18).toInt) ∧ (pj_ai H 180 (pj_fi H 171 17).toInt.toNat).toInt = 100 → y.toInt = 0 ∧ (pj_fi G' 171 17).toInt = (pj_fi H 171 17).toInt + 1) ∧ (((pj_fi H 171 17).toInt < (pj_fi H 171 18).toInt) ∧ (pj_ai H 180 (pj_fi H 171 17).toInt.toNat).toInt = 117 → y.toInt = 1 ∧ (pj_fi G' 171 17).toInt = (pj_fi H 171 17).toInt + 1) ∧ (((pj_fi H 171 17).toInt < (pj_fi H 171 18).toInt) ∧ (pj_ai H 180 (pj_fi H 171 17).toInt.toNat).toInt = 108 → y.toInt = 2 ∧ (pj_fi G' 171 17).toInt = (pj_fi H 171 17).toInt + 1) ∧ (((pj_fi H 171 17).toInt < (pj_fi H 171 18).toInt) ∧ (pj_ai H 180 (pj_fi H 171 17).toInt.toNat).toInt = 115 → y.toInt = 3 ∧ (pj_fi G' 171 17).toInt = (pj_fi H 171 17).toInt + 1) ∧ (((pj_fi H 171 17).toInt < (pj_fi H 171 18).toInt) ∧ (pj_ai H 180 (pj_fi H 171 17).toInt.toNat).toInt = 119 → y.toInt = 4 ∧ (pj_fi G' 171 17).toInt = (pj_fi H 171 17).toInt + 1) ∧ (((pj_fi H 171 17).toInt < (pj_fi H 171 18).toInt) ∧ (pj_ai H 180 (pj_fi H 171 17).toInt.toNat).toInt = 98 → y.toInt = 5 ∧ (pj_fi G' 171 17).toInt = (pj_fi H 171 17).toInt + 1) ∧ (((pj_fi H 171 17).toInt < (pj_fi H 171 18).toInt) ∧ (pj_ai H 180 (pj_fi H 171 17).toInt.toNat).toInt = 110 → y.toInt = 6 ∧ (pj_fi G' 171 17).toInt = (pj_fi H 171 17).toInt + 1) ∧ (¬ (((pj_fi H 171 17).toInt < (pj_fi H 171 18).toInt) ∧ ((pj_ai H 180 (pj_fi H 171 17).toInt.toNat).toInt = 100 ∨ (pj_ai H 180 (pj_fi H 171 17).toInt.toNat).toInt = 117 ∨ (pj_ai H 180 (pj_fi H 171 17).toInt.toNat).toInt = 108 ∨ (pj_ai H 180 (pj_fi H 171 17).toInt.toNat).toInt = 115 ∨ (pj_ai H 180 (pj_fi H 171 17).toInt.toNat).toInt = 119 ∨ (pj_ai H 180 (pj_fi H 171 17).toInt.toNat).toInt = 98 ∨ (pj_ai H 180 (pj_fi H 171 17).toInt.toNat).toInt = 110)) → y.toInt = -1 ∧ (pj_fi G' 171 17).toInt = (pj_fi H 171 17).toInt)))) ∧ ((y, G') = F_186_s11x G0)) := by
  have c0_ : (Int32.ofInt 0).toInt = 0 := by decide
  have c1_ : (Int32.ofInt 1).toInt = 1 := by decide
  refine pj_Y_X (M := pj_m185) rfl rfl (Nat.le_of_ble_eq_true rfl) ?_
  have hK : pj_kpt kc_185_s11x G0 G0 := pj_kpt_r _ _
  show pj_X _ _ G0 0 [(0, .ref 171), (1, .retAddr 11)] [] _
  rw [F_186_s11x_e]
  obtain ⟨y1, hy1⟩ : ∃ z : Int32, z = pj_fi G0 171 17 := ⟨_, rfl⟩
  have ey1 : (pj_fi G0 171 17).toInt = y1.toInt := by rw [hy1]
  have ry1 : (0 : Int) ≤ y1.toInt ∧ y1.toInt ≤ 80 := by rw [hy1]; exact hI.2.1 171 17 (0, 80) rfl
  obtain ⟨y2, hy2⟩ : ∃ z : Int32, z = pj_fi G0 171 18 := ⟨_, rfl⟩
  have ey2 : (pj_fi G0 171 18).toInt = y2.toInt := by rw [hy2]
  have ry2 : (0 : Int) ≤ y2.toInt ∧ y2.toInt ≤ 80 := by rw [hy2]; exact hI.2.1 171 18 (0, 80) rfl
  refine pj_X_of (fun r h => pj_R_to (G0, 2, [(0, .ref 171), (1, .retAddr 11)], [.retAddr 11, .ref 171], 0, 0) 2 3 (fun _ => rfl) h) ?_
  have q3 : (pj_fi G0 171 17).toInt = y1.toInt := by rw [show pj_fi G0 171 17 = y1 from hy1.symm]
  have q4 : (pj_fi G0 171 18).toInt = y2.toInt := by rw [show pj_fi G0 171 18 = y2 from hy2.symm]
  refine pj_X_ca (vs := [.ref 171, .retAddr 11]) rfl (fun _ => rfl) ⟨Nat.le_of_ble_eq_true rfl, Nat.le_of_ble_eq_true rfl, pj_T_rcv hI rfl⟩ ⟨rfl, rfl⟩ (pj_Y_up (by decide) (ct_184_s11x G0 hI)) ?_
  rintro _ _ ⟨y5, rfl, rfl, ry5, ey5, fy5⟩
  replace ey5 := ey5 _ rfl
  rw [← fy5, pj_nm_e]
  show pj_X _ _ G0 5 [(0, .ref 171), (1, .retAddr 11)] [.int y5] _
  refine pj_X_of (fun r h => pj_R_to (G0, 8, [(2, .int y5), (0, .ref 171), (1, .retAddr 11)], [.ref 171, .ref 171], 0, 0) 8 4 (fun _ => rfl) h) ?_
  refine pj_X_of (fun r h => pj_T_gi hI rfl rfl h) ?_
  show pj_X _ _ G0 11 [(2, .int y5), (0, .ref 171), (1, .retAddr 11)] [.int (pj_fi G0 171 17), .ref 171] _
  rw [← hy1, pj_nm_e]
  refine pj_X_of (fun r h => pj_R_to (G0, 12, [(2, .int y5), (0, .ref 171), (1, .retAddr 11)], [.int y5, .int y1, .ref 171], 0, 0) 12 2 (fun _ => rfl) h) ?_
  cases b6 : pj_c1 .lt y5 0 with
  | true =>
    rw [pj_cT]
    have ub6 := pj_u0_ltT b6
    refine pj_X_of (fun r h => pj_R_ifT 19 rfl rfl b6 h) ?_
    refine pj_X_of (fun r h => pj_R_to (G0, 20, [(2, .int y5), (0, .ref 171), (1, .retAddr 11)], [.int (Int32.ofInt 0), .int y1, .ref 171], 0, 0) 20 2 (fun _ => rfl) h) ?_
    have q7 : (pj_fi G0 171 17).toInt = y1.toInt := by rw [show pj_fi G0 171 17 = y1 from hy1.symm]
    have q8 : (pj_fi G0 171 18).toInt = y2.toInt := by rw [show pj_fi G0 171 18 = y2 from hy2.symm]
    refine pj_X_ca (vs := [.int (Int32.ofInt 0)]) rfl (fun _ => rfl) ⟨Nat.le_of_ble_eq_true rfl, Nat.le_of_ble_eq_true rfl, rfl⟩ ⟨rfl, rfl⟩ (pj_Y_up (by decide) (ct_172x G0 hI (Int32.ofInt 0) ⟨by omega, by omega⟩)) ?_
    rintro _ _ ⟨y9, rfl, rfl, ry9, ey9, fy9⟩
    rw [← fy9, pj_nm_e]
    show pj_X _ _ G0 23 [(2, .int y5), (0, .ref 171), (1, .retAddr 11)] [.int y9, .int y1, .ref 171] _
    refine pj_X_of (fun r h => pj_R_to (G0, 24, [(2, .int y5), (0, .ref 171), (1, .retAddr 11)], [.int (y1 + y9), .ref 171], 0, 0) 24 2 (fun _ => rfl) h) ?_
    obtain ⟨z10, hz10⟩ : ∃ z : Int32, z = y1 + y9 := ⟨_, rfl⟩
    refine pj_X_eqi hz10.symm ?_
    rw [← hz10, pj_nm_e]
    have fz10_0 : z10.toInt = y1.toInt + y9.toInt := by rw [hz10]; exact pj_addI (by have := pj_i32 y1; have := pj_i32 y9; omega) (by have := pj_i32 y1; have := pj_i32 y9; omega)
    refine pj_X_of (fun r h => pj_T_pf hI rfl rfl rfl h) ?_
    show pj_X _ _ (pj_wv G0 171 17 (.int z10)) 27 [(2, .int y5), (0, .ref 171), (1, .retAddr 11)] [] _
    obtain ⟨G11, hG11⟩ : ∃ H, H = pj_wv G0 171 17 (.int z10) := ⟨_, rfl⟩
    have iG11 : pj_Inv G11 := by rw [hG11]; exact pj_Inv_wi hI (ci := 12) rfl (fun q hq => by cases hq; exact ⟨by show (0 : Int) ≤ _; omega, by show _ ≤ (80 : Int); omega⟩)
    have kG11 : pj_kpt kc_185_s11x G0 G11 := by rw [hG11]; exact pj_kpt_v hK rfl
    rw [← hG11]
    rw [pj_nm_e]
    refine pj_X_of (fun r h => pj_R_to (G11, 28, [(2, .int y5), (0, .ref 171), (1, .retAddr 11)], [.int y5], 0, 0) 28 2 (fun _ => rfl) h) ?_
    have q12 : (pj_fi G11 171 17).toInt = z10.toInt := by rw [show pj_fi G11 171 17 = z10 from by rw [hG11]; exact pj_fi_wi hI.1 (ci := 12) rfl _]
    have q13 : (pj_fi G11 171 18).toInt = y2.toInt := by rw [show pj_fi G11 171 18 = y2 from by rw [hG11, pj_fi_wv_ne _ _ _ _ _ _ (by decide)]; exact hy2.symm]
    exact pj_X_rt rfl rfl ⟨_, rfl, iG11, kG11, ⟨by omega, by omega⟩, (fun H hH => by subst hH; exact (⟨by omega, by omega⟩)), rfl⟩
  | false =>
    rw [pj_cF]
    have ub6 := pj_u0_ltF b6
    refine pj_X_of (fun r h => pj_R_ifF rfl b6 h) ?_
    refine pj_X_of (fun r h => pj_R_to (G0, 20, [(2, .int y5), (0, .ref 171), (1, .retAddr 11)], [.int (Int32.ofInt 1), .int y1, .ref 171], 0, 0) 20 3 (fun _ => rfl) h) ?_
    have q14 : (pj_fi G0 171 17).toInt = y1.toInt := by rw [show pj_fi G0 171 17 = y1 from hy1.symm]
    have q15 : (pj_fi G0 171 18).toInt = y2.toInt := by rw [show pj_fi G0 171 18 = y2 from hy2.symm]
    refine pj_X_ca (vs := [.int (Int32.ofInt 1)]) rfl (fun _ => rfl) ⟨Nat.le_of_ble_eq_true rfl, Nat.le_of_ble_eq_true rfl, rfl⟩ ⟨rfl, rfl⟩ (pj_Y_up (by decide) (ct_172x G0 hI (Int32.ofInt 1) ⟨by omega, by omega⟩)) ?_
    rintro _ _ ⟨y16, rfl, rfl, ry16, ey16, fy16⟩
    rw [← fy16, pj_nm_e]
    show pj_X _ _ G0 23 [(2, .int y5), (0, .ref 171), (1, .retAddr 11)] [.int y16, .int y1, .ref 171] _
    refine pj_X_of (fun r h => pj_R_to (G0, 24, [(2, .int y5), (0, .ref 171), (1, .retAddr 11)], [.int (y1 + y16), .ref 171], 0, 0) 24 2 (fun _ => rfl) h) ?_
    obtain ⟨z17, hz17⟩ : ∃ z : Int32, z = y1 + y16 := ⟨_, rfl⟩
    refine pj_X_eqi hz17.symm ?_
    rw [← hz17, pj_nm_e]
    have fz17_0 : z17.toInt = y1.toInt + y16.toInt := by rw [hz17]; exact pj_addI (by have := pj_i32 y1; have := pj_i32 y16; omega) (by have := pj_i32 y1; have := pj_i32 y16; omega)
    refine pj_X_of (fun r h => pj_T_pf hI rfl rfl rfl h) ?_
    show pj_X _ _ (pj_wv G0 171 17 (.int z17)) 27 [(2, .int y5), (0, .ref 171), (1, .retAddr 11)] [] _
    obtain ⟨G18, hG18⟩ : ∃ H, H = pj_wv G0 171 17 (.int z17) := ⟨_, rfl⟩
    have iG18 : pj_Inv G18 := by rw [hG18]; exact pj_Inv_wi hI (ci := 12) rfl (fun q hq => by cases hq; exact ⟨by show (0 : Int) ≤ _; omega, by show _ ≤ (80 : Int); omega⟩)
    have kG18 : pj_kpt kc_185_s11x G0 G18 := by rw [hG18]; exact pj_kpt_v hK rfl
    rw [← hG18]
    rw [pj_nm_e]
    refine pj_X_of (fun r h => pj_R_to (G18, 28, [(2, .int y5), (0, .ref 171), (1, .retAddr 11)], [.int y5], 0, 0) 28 2 (fun _ => rfl) h) ?_
    have q19 : (pj_fi G18 171 17).toInt = z17.toInt := by rw [show pj_fi G18 171 17 = z17 from by rw [hG18]; exact pj_fi_wi hI.1 (ci := 12) rfl _]
    have q20 : (pj_fi G18 171 18).toInt = y2.toInt := by rw [show pj_fi G18 171 18 = y2 from by rw [hG18, pj_fi_wv_ne _ _ _ _ _ _ (by decide)]; exact hy2.symm]
    exact pj_X_rt rfl rfl ⟨_, rfl, iG18, kG18, ⟨by omega, by omega⟩, (fun H hH => by subst hH; exact (⟨by omega, by omega⟩)), rfl⟩
theorem fr_186_s11x (G0 : pj_G) (hI : pj_Inv G0) : pj_Inv (F_186_s11x G0).2 ∧ pj_kpt kc_185_s11x G0 (F_186_s11x G0).2 ∧ ((-1 : Int) ≤ (F_186_s11x G0).1.toInt ∧ (F_186_s11x G0).1.toInt ≤ 6) ∧ (((0 ≤ (F_186_s11x G0).1.toInt → (pj_fi (F_186_s11x G0).2 171 17).toInt = (pj_fi G0 171 17).toInt + 1 ∧ (pj_fi G0 171 17).toInt < (pj_fi G0 171 18).toInt) ∧ ((F_186_s11x G0).1.toInt < 0 → (pj_fi (F_186_s11x G0).2 171 17).toInt = (pj_fi G0 171 17).toInt)) ∧ ((((pj_fi G0 171 17).toInt < (pj_fi G0 171 18).toInt) ∧ (pj_ai G0 180 (pj_fi G0 171 17).toInt.toNat).toInt = 100 → (F_186_s11x G0).1.toInt = 0 ∧ (pj_fi (F_186_s11x G0).2 171 17).toInt = (pj_fi G0 171 17).toInt + 1) ∧ (((pj_fi G0 171 17).toInt < (pj_fi G0 171 18).toInt) ∧ (pj_ai G0 180 (pj_fi G0 171 17).toInt.toNat).toInt = 117 → (F_186_s11x G0).1.toInt = 1 ∧ (pj_fi (F_186_s11x G0).2 171 17).toInt = (pj_fi G0 171 17).toInt + 1) ∧ (((pj_fi G0 171 17).toInt < (pj_fi G0 171 18).toInt) ∧ (pj_ai G0 180 (pj_fi G0 171 17).toInt.toNat).toInt = 108 → (F_186_s11x G0).1.toInt = 2 ∧ (pj_fi (F_186_s11x G0).2 171 17).toInt = (pj_fi G0 171 17).toInt + 1) ∧ (((pj_fi G0 171 17).toInt < (pj_fi G0 171 18).toInt) ∧ (pj_ai G0 180 (pj_fi G0 171 17).toInt.toNat).toInt = 115 → (F_186_s11x G0).1.toInt = 3 ∧ (pj_fi (F_186_s11x G0).2 171 17).toInt = (pj_fi G0 171 17).toInt + 1) ∧ (((pj_fi G0 171 17).toInt < (pj_fi G0 171 18).toInt) ∧ (pj_ai G0 180 (pj_fi G0 171 17).toInt.toNat).toInt = 119 → (F_186_s11x G0).1.toInt = 4 ∧ (pj_fi (F_186_s11x G0).2 171 17).toInt = (pj_fi G0 171 17).toInt + 1) ∧ (((pj_fi G0 171 17).toInt < (pj_fi G0 171 18).toInt) ∧ (pj_ai G0 180 (pj_fi G0 171 17).toInt.toNat).toInt = 98 → (F_186_s11x G0).1.toInt = 5 ∧ (pj_fi (F_186_s11x G0).2 171 17).toInt = (pj_fi G0 171 17).toInt + 1) ∧ (((pj_fi G0 171 17).toInt < (pj_fi G0 171 18).toInt) ∧ (pj_ai G0 180 (pj_fi G0 171 17).toInt.toNat).toInt = 110 → (F_186_s11x G0).1.toInt = 6 ∧ (pj_fi (F_186_s11x G0).2 171 17).toInt = (pj_fi G0 171 17).toInt + 1) ∧ (¬ (((pj_fi G0 171 17).toInt < (pj_fi G0 171 18).toInt) ∧ ((pj_ai G0 180 (pj_fi G0 171 17).toInt.toNat).toInt = 100 ∨ (pj_ai G0 180 (pj_fi G0 171 17).toInt.toNat).toInt = 117 ∨ (pj_ai G0 180 (pj_fi G0 171 17).toInt.toNat).toInt = 108 ∨ (pj_ai G0 180 (pj_fi G0 171 17).toInt.toNat).toInt = 115 ∨ (pj_ai G0 180 (pj_fi G0 171 17).toInt.toNat).toInt = 119 ∨ (pj_ai G0 180 (pj_fi G0 171 17).toInt.toNat).toInt = 98 ∨ (pj_ai G0 180 (pj_fi G0 171 17).toInt.toNat).toInt = 110)) → (F_186_s11x G0).1.toInt = -1 ∧ (pj_fi (F_186_s11x G0).2 171 17).toInt = (pj_fi G0 171 17).toInt))) := by
  obtain ⟨v, G', -, y, -, i, j, r, x, e⟩ := ct_185_s11x G0 hI 
  rw [← e]
  exact ⟨i, j, r, x _ rfl⟩
noncomputable def L_185_s12x (G0 : pj_G) (fu : Nat) : Int32 → Int32 := Nat.rec (motive := fun _ => Int32 → Int32) (fun _ => 0) (fun _ ih v2 => pj_nm (F_289_s12x G0) (fun y5 => cond (pj_c1 .ge v2 y5) (Int32.ofInt (-1)) (pj_nm (pj_fi G0 171 17) (fun y1 => pj_nm (pj_fi G0 171 18) (fun y2 => cond (pj_c1 .ge y1 y2) (Int32.ofInt (-1)) (pj_nm (F_290_s12x G0 v2) (fun y14 => pj_nm (pj_ai G0 180 y1.toInt.toNat) (fun z15 => cond (pj_c1 .ne y14 z15) (pj_nm (v2 + Int32.ofInt 1) (fun z17 => ih z17)) (v2))))))))) fu
theorem L_185_s12x_s0 (G0 : pj_G) (fu : Nat) (v2 : Int32) : L_185_s12x G0 (fu + 1) v2 = pj_nm (F_289_s12x G0) (fun y5 => cond (pj_c1 .ge v2 y5) (Int32.ofInt (-1)) (pj_nm (pj_fi G0 171 17) (fun y1 => pj_nm (pj_fi G0 171 18) (fun y2 => cond (pj_c1 .ge y1 y2) (Int32.ofInt (-1)) (pj_nm (F_290_s12x G0 v2) (fun y14 => pj_nm (pj_ai G0 180 y1.toInt.toNat) (fun z15 => cond (pj_c1 .ne y14 z15) (pj_nm (v2 + Int32.ofInt 1) (fun z17 => L_185_s12x G0 fu z17)) (v2)))))))) := rfl
noncomputable def F_185_s12x (G0 : pj_G) : Int32 := L_185_s12x G0 4 (Int32.ofInt 0)
theorem F_185_s12x_e (G0 : pj_G) : F_185_s12x G0 = L_185_s12x G0 4 (Int32.ofInt 0) := rfl
theorem lp_ct_184_s12x (G0 : pj_G) (hI : pj_Inv G0) : ∀ mn : Nat, (∀ (v2 : Int32), ((0 : Int) ≤ v2.toInt ∧ v2.toInt ≤ 3) → (0 < v2.toInt → ¬ (pj_ai G0 180 (pj_fi G0 171 17).toInt.toNat).toInt = 60) → (1 < v2.toInt → ¬ (pj_ai G0 180 (pj_fi G0 171 17).toInt.toNat).toInt = 62) → (2 < v2.toInt → ¬ (pj_ai G0 180 (pj_fi G0 171 17).toInt.toNat).toInt = 61) → 3 - v2.toInt < (mn : Int) → pj_X 14 pj_m184 G0 2 [(0, .ref 171), (1, .retAddr 12), (2, .int v2)] [] (fun v' G' => ∃ y : Int32, v' = some (.int y) ∧ G0 = G' ∧ ((-1 : Int) ≤ y.toInt ∧ y.toInt ≤ 2) ∧ (∀ H, G0 = H → ((0 ≤ y.toInt → (pj_fi H 171 17).toInt < (pj_fi H 171 18).toInt) ∧ ((((pj_fi H 171 17).toInt < (pj_fi H 171 18).toInt) ∧ (pj_ai H 180 (pj_fi H 171 17).toInt.toNat).toInt = 60 → y.toInt = 0) ∧ (((pj_fi H 171 17).toInt < (pj_fi H 171 18).toInt) ∧ (pj_ai H 180 (pj_fi H 171 17).toInt.toNat).toInt = 62 → y.toInt = 1) ∧ (((pj_fi H 171 17).toInt < (pj_fi H 171 18).toInt) ∧ (pj_ai H 180 (pj_fi H 171 17).toInt.toNat).toInt = 61 → y.toInt = 2) ∧ (¬ (((pj_fi H 171 17).toInt < (pj_fi H 171 18).toInt) ∧ ((pj_ai H 180 (pj_fi H 171 17).toInt.toNat).toInt = 60 ∨ (pj_ai H 180 (pj_fi H 171 17).toInt.toNat).toInt = 62 ∨ (pj_ai H 180 (pj_fi H 171 17).toInt.toNat).toInt = 61)) → y.toInt = -1)))) ∧ (y = L_185_s12x G0 mn v2))) := by
  have c0_ : (Int32.ofInt (-1)).toInt = -1 := by decide
  have c1_ : (Int32.ofInt 0).toInt = 0 := by decide
  have c2_ : (Int32.ofInt 1).toInt = 1 := by decide
  have hK : pj_kpt ([], [], []) G0 G0 := pj_kpt_r _ _
  intro mn
  induction mn with
  | zero =>
    intro v2 rv2 x0_ x1_ x2_ hm
    exfalso
    omega
  | succ mn ih =>
    intro v2 rv2 x0_ x1_ x2_ hm
    rw [L_185_s12x_s0]
    obtain ⟨y1, hy1⟩ : ∃ z : Int32, z = pj_fi G0 171 17 := ⟨_, rfl⟩
    have ey1 : (pj_fi G0 171 17).toInt = y1.toInt := by rw [hy1]
    have ry1 : (0 : Int) ≤ y1.toInt ∧ y1.toInt ≤ 80 := by rw [hy1]; exact hI.2.1 171 17 (0, 80) rfl
    obtain ⟨y2, hy2⟩ : ∃ z : Int32, z = pj_fi G0 171 18 := ⟨_, rfl⟩
    have ey2 : (pj_fi G0 171 18).toInt = y2.toInt := by rw [hy2]
    have ry2 : (0 : Int) ≤ y2.toInt ∧ y2.toInt ≤ 80 := by rw [hy2]; exact hI.2.1 171 18 (0, 80) rfl
    refine pj_X_of (fun r h => pj_R_to (G0, 4, [(0, .ref 171), (1, .retAddr 12), (2, .int v2)], [.retAddr 12, .int v2], 0, 0) 4 3 (fun _ => rfl) h) ?_
    have q3 : (pj_fi G0 171 17).toInt = y1.toInt := by rw [show pj_fi G0 171 17 = y1 from hy1.symm]
    have q4 : (pj_fi G0 171 18).toInt = y2.toInt := by rw [show pj_fi G0 171 18 = y2 from hy2.symm]
    refine pj_X_ca (vs := [.retAddr 12]) rfl (fun _ => rfl) ⟨Nat.le_of_ble_eq_true rfl, Nat.le_of_ble_eq_true rfl, rfl⟩ ⟨rfl, rfl⟩ (pj_Y_up (by decide) (ct_288_s12x G0 hI)) ?_
    rintro _ _ ⟨y5, rfl, rfl, ry5, fy5⟩
    rw [← fy5, pj_nm_e]
    show pj_X _ _ G0 7 [(0, .ref 171), (1, .retAddr 12), (2, .int v2)] [.int y5, .int v2] _
    cases b6 : pj_c1 .ge v2 y5 with
    | true =>
      rw [pj_cT]
      have ub6 := pj_u_geT b6
      refine pj_X_of (fun r h => pj_R_icT 46 rfl rfl b6 h) ?_
      refine pj_X_of (fun r h => pj_R_to (G0, 47, [(0, .ref 171), (1, .retAddr 12), (2, .int v2)], [.int (Int32.ofInt (-1))], 0, 0) 47 2 (fun _ => rfl) h) ?_
      have q7 : (pj_fi G0 171 17).toInt = y1.toInt := by rw [show pj_fi G0 171 17 = y1 from hy1.symm]
      have q8 : (pj_fi G0 171 18).toInt = y2.toInt := by rw [show pj_fi G0 171 18 = y2 from hy2.symm]
      exact pj_X_rt rfl rfl ⟨_, rfl, rfl, ⟨by omega, by omega⟩, (fun H hH => by subst hH; exact (⟨by omega, by omega⟩)), rfl⟩
    | false =>
      rw [pj_cF]
      have ub6 := pj_u_geF b6
      refine pj_X_of (fun r h => pj_R_icF rfl b6 h) ?_
      refine pj_X_of (fun r h => pj_R_to (G0, 11, [(0, .ref 171), (1, .retAddr 12), (2, .int v2)], [.ref 171], 0, 0) 11 2 (fun _ => rfl) h) ?_
      refine pj_X_of (fun r h => pj_T_gi hI rfl rfl h) ?_
      show pj_X _ _ G0 14 [(0, .ref 171), (1, .retAddr 12), (2, .int v2)] [.int (pj_fi G0 171 17)] _
      rw [← hy1, pj_nm_e]
      refine pj_X_of (fun r h => pj_R_to (G0, 15, [(0, .ref 171), (1, .retAddr 12), (2, .int v2)], [.ref 171, .int y1], 0, 0) 15 2 (fun _ => rfl) h) ?_
      refine pj_X_of (fun r h => pj_T_gi hI rfl rfl h) ?_
      show pj_X _ _ G0 18 [(0, .ref 171), (1, .retAddr 12), (2, .int v2)] [.int (pj_fi G0 171 18), .int y1] _
      rw [← hy2, pj_nm_e]
      cases b9 : pj_c1 .ge y1 y2 with
      | true =>
        rw [pj_cT]
        have ub9 := pj_u_geT b9
        refine pj_X_of (fun r h => pj_R_icT 46 rfl rfl b9 h) ?_
        refine pj_X_of (fun r h => pj_R_to (G0, 47, [(0, .ref 171), (1, .retAddr 12), (2, .int v2)], [.int (Int32.ofInt (-1))], 0, 0) 47 2 (fun _ => rfl) h) ?_
        have q10 : (pj_fi G0 171 17).toInt = y1.toInt := by rw [show pj_fi G0 171 17 = y1 from hy1.symm]
        have q11 : (pj_fi G0 171 18).toInt = y2.toInt := by rw [show pj_fi G0 171 18 = y2 from hy2.symm]
        exact pj_X_rt rfl rfl ⟨_, rfl, rfl, ⟨by omega, by omega⟩, (fun H hH => by subst hH; exact (⟨by omega, by omega⟩)), rfl⟩
      | false =>
        rw [pj_cF]
        have ub9 := pj_u_geF b9
        refine pj_X_of (fun r h => pj_R_icF rfl b9 h) ?_
        refine pj_X_of (fun r h => pj_R_to (G0, 23, [(0, .ref 171), (1, .retAddr 12), (2, .int v2)], [.int v2, .retAddr 12], 0, 0) 23 3 (fun _ => rfl) h) ?_
        have q12 : (pj_fi G0 171 17).toInt = y1.toInt := by rw [show pj_fi G0 171 17 = y1 from hy1.symm]
        have q13 : (pj_fi G0 171 18).toInt = y2.toInt := by rw [show pj_fi G0 171 18 = y2 from hy2.symm]
        refine pj_X_ca (vs := [.retAddr 12, .int v2]) rfl (fun _ => rfl) ⟨Nat.le_of_ble_eq_true rfl, Nat.le_of_ble_eq_true rfl, rfl⟩ ⟨rfl, rfl⟩ (pj_Y_up (by decide) (ct_289_s12x G0 hI v2 ⟨by omega, by omega⟩)) ?_
        rintro _ _ ⟨y14, rfl, rfl, ry14, ey14, fy14⟩
        rw [← fy14, pj_nm_e]
        show pj_X _ _ G0 26 [(0, .ref 171), (1, .retAddr 12), (2, .int v2)] [.int y14] _
        refine pj_X_of (fun r h => pj_R_to (G0, 27, [(0, .ref 171), (1, .retAddr 12), (2, .int v2)], [.ref 171, .int y14], 0, 0) 27 2 (fun _ => rfl) h) ?_
        refine pj_X_of (fun r h => pj_T_gr hI rfl rfl rfl h) ?_
        refine pj_X_of (fun r h => pj_R_to (G0, 31, [(0, .ref 171), (1, .retAddr 12), (2, .int v2)], [.ref 171, .ref 180, .int y14], 0, 0) 31 2 (fun _ => rfl) h) ?_
        refine pj_X_of (fun r h => pj_T_gi hI rfl rfl h) ?_
        show pj_X _ _ G0 34 [(0, .ref 171), (1, .retAddr 12), (2, .int v2)] [.int (pj_fi G0 171 17), .ref 180, .int y14] _
        refine pj_X_eqi (show pj_fi G0 171 17 = y1 from hy1.symm) ?_
        refine pj_X_of (fun r h => pj_T_il hI rfl rfl (by omega) (by omega) h) ?_
        show pj_X _ _ G0 35 [(0, .ref 171), (1, .retAddr 12), (2, .int v2)] [.int (pj_ai G0 180 y1.toInt.toNat), .int y14] _
        obtain ⟨z15, hz15⟩ : ∃ z : Int32, z = pj_ai G0 180 y1.toInt.toNat := ⟨_, rfl⟩
        refine pj_X_eqi hz15.symm ?_
        rw [← hz15, pj_nm_e]
        have ez15 : (pj_ai G0 180 y1.toInt.toNat).toInt = z15.toInt := by rw [hz15]
        have fz15_0 : (0 : Int) ≤ z15.toInt ∧ z15.toInt ≤ 255 ∧ (z15.toInt ≤ 0 ∨ 0 ≤ z15.toInt) := by rw [hz15]; exact hI.2.2.1 180 (80, 0, 255, 0, 0) rfl _ (by show _ < 80; omega)
        have gz15 : (pj_ai G0 180 (pj_fi G0 171 17).toInt.toNat).toInt = z15.toInt := by rw [show pj_fi G0 171 17 = y1 from hy1.symm, hz15]
        cases b16 : pj_c1 .ne y14 z15 with
        | true =>
          rw [pj_cT]
          have ub16 := pj_u_neT b16
          refine pj_X_of (fun r h => pj_R_icT 40 rfl rfl b16 h) ?_
          refine pj_X_of (fun r h => pj_R_to (G0, 43, [(2, .int (v2 + Int32.ofInt 1)), (0, .ref 171), (1, .retAddr 12)], [], 0, 0) 43 2 (fun _ => rfl) h) ?_
          obtain ⟨z17, hz17⟩ : ∃ z : Int32, z = v2 + Int32.ofInt 1 := ⟨_, rfl⟩
          rw [← hz17]
          rw [pj_nm_e]
          have fz17_0 : z17.toInt = v2.toInt + (Int32.ofInt 1).toInt := by rw [hz17]; exact pj_addI (by have := pj_i32 v2; have := pj_i32 (Int32.ofInt 1); omega) (by have := pj_i32 v2; have := pj_i32 (Int32.ofInt 1); omega)
          refine pj_X_of (fun r h => pj_R_to (G0, 2, [(2, .int z17), (0, .ref 171), (1, .retAddr 12)], [], 0, 0) 2 2 (fun _ => rfl) h) ?_
          have q18 : (pj_fi G0 171 17).toInt = y1.toInt := by rw [show pj_fi G0 171 17 = y1 from hy1.symm]
          have q19 : (pj_fi G0 171 18).toInt = y2.toInt := by rw [show pj_fi G0 171 18 = y2 from hy2.symm]
          exact pj_X_sub [(0, .ref 171), (1, .retAddr 12), (2, .int z17)] (show List.Nodup [0, 1, 2] by decide) ⟨rfl, rfl, rfl, trivial⟩ (ih z17 ⟨by omega, by omega⟩ (by omega) (by omega) (by omega) (by omega))
        | false =>
          rw [pj_cF]
          have ub16 := pj_u_neF b16
          refine pj_X_of (fun r h => pj_R_icF rfl b16 h) ?_
          refine pj_X_of (fun r h => pj_R_to (G0, 39, [(0, .ref 171), (1, .retAddr 12), (2, .int v2)], [.int v2], 0, 0) 39 2 (fun _ => rfl) h) ?_
          have q20 : (pj_fi G0 171 17).toInt = y1.toInt := by rw [show pj_fi G0 171 17 = y1 from hy1.symm]
          have q21 : (pj_fi G0 171 18).toInt = y2.toInt := by rw [show pj_fi G0 171 18 = y2 from hy2.symm]
          exact pj_X_rt rfl rfl ⟨_, rfl, rfl, ⟨by omega, by omega⟩, (fun H hH => by subst hH; exact (⟨by omega, by omega⟩)), rfl⟩
theorem ct_184_s12x (G0 : pj_G) (hI : pj_Inv G0) : pj_Y 15 184 [.ref 171, .retAddr 12] G0 (fun v' G' => ∃ y : Int32, v' = some (.int y) ∧ G0 = G' ∧ ((-1 : Int) ≤ y.toInt ∧ y.toInt ≤ 2) ∧ (∀ H, G0 = H → ((0 ≤ y.toInt → (pj_fi H 171 17).toInt < (pj_fi H 171 18).toInt) ∧ ((((pj_fi H 171 17).toInt < (pj_fi H 171 18).toInt) ∧ (pj_ai H 180 (pj_fi H 171 17).toInt.toNat).toInt = 60 → y.toInt = 0) ∧ (((pj_fi H 171 17).toInt < (pj_fi H 171 18).toInt) ∧ (pj_ai H 180 (pj_fi H 171 17).toInt.toNat).toInt = 62 → y.toInt = 1) ∧ (((pj_fi H 171 17).toInt < (pj_fi H 171 18).toInt) ∧ (pj_ai H 180 (pj_fi H 171 17).toInt.toNat).toInt = 61 → y.toInt = 2) ∧ (¬ (((pj_fi H 171 17).toInt < (pj_fi H 171 18).toInt) ∧ ((pj_ai H 180 (pj_fi H 171 17).toInt.toNat).toInt = 60 ∨ (pj_ai H 180 (pj_fi H 171 17).toInt.toNat).toInt = 62 ∨ (pj_ai H 180 (pj_fi H 171 17).toInt.toNat).toInt = 61)) → y.toInt = -1)))) ∧ (y = F_185_s12x G0)) := by
  have c0_ : (Int32.ofInt (-1)).toInt = -1 := by decide
  have c1_ : (Int32.ofInt 0).toInt = 0 := by decide
  have c2_ : (Int32.ofInt 1).toInt = 1 := by decide
  refine pj_Y_X (M := pj_m184) rfl rfl (Nat.le_of_ble_eq_true rfl) ?_
  have hK : pj_kpt ([], [], []) G0 G0 := pj_kpt_r _ _
  show pj_X _ _ G0 0 [(0, .ref 171), (1, .retAddr 12)] [] _
  rw [F_185_s12x_e]
  obtain ⟨y22, hy22⟩ : ∃ z : Int32, z = pj_fi G0 171 17 := ⟨_, rfl⟩
  have ey22 : (pj_fi G0 171 17).toInt = y22.toInt := by rw [hy22]
  have ry22 : (0 : Int) ≤ y22.toInt ∧ y22.toInt ≤ 80 := by rw [hy22]; exact hI.2.1 171 17 (0, 80) rfl
  obtain ⟨y23, hy23⟩ : ∃ z : Int32, z = pj_fi G0 171 18 := ⟨_, rfl⟩
  have ey23 : (pj_fi G0 171 18).toInt = y23.toInt := by rw [hy23]
  have ry23 : (0 : Int) ≤ y23.toInt ∧ y23.toInt ≤ 80 := by rw [hy23]; exact hI.2.1 171 18 (0, 80) rfl
  refine pj_X_of (fun r h => pj_R_to (G0, 2, [(2, .int (Int32.ofInt 0)), (0, .ref 171), (1, .retAddr 12)], [], 0, 0) 2 3 (fun _ => rfl) h) ?_
  have q24 : (pj_fi G0 171 17).toInt = y22.toInt := by rw [show pj_fi G0 171 17 = y22 from hy22.symm]
  have q25 : (pj_fi G0 171 18).toInt = y23.toInt := by rw [show pj_fi G0 171 18 = y23 from hy23.symm]
  exact pj_X_sub [(0, .ref 171), (1, .retAddr 12), (2, .int (Int32.ofInt 0))] (show List.Nodup [0, 1, 2] by decide) ⟨rfl, rfl, rfl, trivial⟩ ((lp_ct_184_s12x G0 hI   4) (Int32.ofInt 0) ⟨by omega, by omega⟩ (by omega) (by omega) (by omega) (by omega))
theorem fr_185_s12x (G0 : pj_G) (hI : pj_Inv G0) : ((-1 : Int) ≤ (F_185_s12x G0).toInt ∧ (F_185_s12x G0).toInt ≤ 2) ∧ ((0 ≤ (F_185_s12x G0).toInt → (pj_fi G0 171 17).toInt < (pj_fi G0 171 18).toInt) ∧ ((((pj_fi G0 171 17).toInt < (pj_fi G0 171 18).toInt) ∧ (pj_ai G0 180 (pj_fi G0 171 17).toInt.toNat).toInt = 60 → (F_185_s12x G0).toInt = 0) ∧ (((pj_fi G0 171 17).toInt < (pj_fi G0 171 18).toInt) ∧ (pj_ai G0 180 (pj_fi G0 171 17).toInt.toNat).toInt = 62 → (F_185_s12x G0).toInt = 1) ∧ (((pj_fi G0 171 17).toInt < (pj_fi G0 171 18).toInt) ∧ (pj_ai G0 180 (pj_fi G0 171 17).toInt.toNat).toInt = 61 → (F_185_s12x G0).toInt = 2) ∧ (¬ (((pj_fi G0 171 17).toInt < (pj_fi G0 171 18).toInt) ∧ ((pj_ai G0 180 (pj_fi G0 171 17).toInt.toNat).toInt = 60 ∨ (pj_ai G0 180 (pj_fi G0 171 17).toInt.toNat).toInt = 62 ∨ (pj_ai G0 180 (pj_fi G0 171 17).toInt.toNat).toInt = 61)) → (F_185_s12x G0).toInt = -1))) := by
  obtain ⟨v, G', -, y, -, rfl, r, x, e⟩ := ct_184_s12x G0 hI 
  rw [← e]
  exact ⟨r, x _ rfl⟩
def kc_185_s12x : pj_KT := ([(171, 17)], [171], [])
noncomputable def F_186_s12x (G0 : pj_G) : Int32 × pj_G := pj_nm (F_185_s12x G0) (fun y5 => pj_nm (pj_fi G0 171 17) (fun y1 => cond (pj_c1 .lt y5 0) (pj_nm (F_173x G0 (Int32.ofInt 0)) (fun y9 => pj_nm (y1 + y9) (fun z10 => pj_nm (pj_wv G0 171 17 (.int z10)) (fun G11 => (y5, G11))))) (pj_nm (F_173x G0 (Int32.ofInt 1)) (fun y16 => pj_nm (y1 + y16) (fun z17 => pj_nm (pj_wv G0 171 17 (.int z17)) (fun G18 => (y5, G18)))))))
theorem F_186_s12x_e (G0 : pj_G) : F_186_s12x G0 = pj_nm (F_185_s12x G0) (fun y5 => pj_nm (pj_fi G0 171 17) (fun y1 => cond (pj_c1 .lt y5 0) (pj_nm (F_173x G0 (Int32.ofInt 0)) (fun y9 => pj_nm (y1 + y9) (fun z10 => pj_nm (pj_wv G0 171 17 (.int z10)) (fun G11 => (y5, G11))))) (pj_nm (F_173x G0 (Int32.ofInt 1)) (fun y16 => pj_nm (y1 + y16) (fun z17 => pj_nm (pj_wv G0 171 17 (.int z17)) (fun G18 => (y5, G18))))))) := rfl
theorem ct_185_s12x (G0 : pj_G) (hI : pj_Inv G0) : pj_Y 16 185 [.ref 171, .retAddr 12] G0 (fun v' G' => ∃ y : Int32, v' = some (.int y) ∧ pj_Inv G' ∧ pj_kpt kc_185_s12x G0 G' ∧ ((-1 : Int) ≤ y.toInt ∧ y.toInt ≤ 2) ∧ (∀ H, G0 = H → (((0 ≤ y.toInt → (pj_fi G' 171 17).toInt = (pj_fi H 171 17).toInt + 1 ∧ (pj_fi H 171 17).toInt < (pj_fi H 171 18).toInt) ∧ (y.toInt < 0 → (pj_fi G' 171 17).toInt = (pj_fi H 171 17).toInt)) ∧ ((((pj_fi H 171 17).toInt < (pj_fi H 171 18).toInt) ∧ (pj_ai H 180 (pj_fi H 171 17).toInt.toNat).toInt = 60 → y.toInt = 0 ∧ (pj_fi G' 171 17).toInt = (pj_fi H 171 17).toInt + 1) ∧ (((pj_fi H 171 17).toInt < (pj_fi H 171 18).toInt) ∧ (pj_ai H 180 (pj_fi H 171 17).toInt.toNat).toInt = 62 → y.toInt = 1 ∧ (pj_fi G' 171 17).toInt = (pj_fi H 171 17).toInt + 1) ∧ (((pj_fi H 171 17).toInt < (pj_fi H 171 18).toInt) ∧ (pj_ai H 180 (pj_fi H 171 17).toInt.toNat).toInt = 61 → y.toInt = 2 ∧ (pj_fi G' 171 17).toInt = (pj_fi H 171 17).toInt + 1) ∧ (¬ (((pj_fi H 171 17).toInt < (pj_fi H 171 18).toInt) ∧ ((pj_ai H 180 (pj_fi H 171 17).toInt.toNat).toInt = 60 ∨ (pj_ai H 180 (pj_fi H 171 17).toInt.toNat).toInt = 62 ∨ (pj_ai H 180 (pj_fi H 171 17).toInt.toNat).toInt = 61)) → y.toInt = -1 ∧ (pj_fi G' 171 17).toInt = (pj_fi H 171 17).toInt)))) ∧ ((y, G') = F_186_s12x G0)) := by
  have c0_ : (Int32.ofInt 0).toInt = 0 := by decide
  have c1_ : (Int32.ofInt 1).toInt = 1 := by decide
  refine pj_Y_X (M := pj_m185) rfl rfl (Nat.le_of_ble_eq_true rfl) ?_
  have hK : pj_kpt kc_185_s12x G0 G0 := pj_kpt_r _ _
  show pj_X _ _ G0 0 [(0, .ref 171), (1, .retAddr 12)] [] _
  rw [F_186_s12x_e]
  obtain ⟨y1, hy1⟩ : ∃ z : Int32, z = pj_fi G0 171 17 := ⟨_, rfl⟩
  have ey1 : (pj_fi G0 171 17).toInt = y1.toInt := by rw [hy1]
  have ry1 : (0 : Int) ≤ y1.toInt ∧ y1.toInt ≤ 80 := by rw [hy1]; exact hI.2.1 171 17 (0, 80) rfl
  obtain ⟨y2, hy2⟩ : ∃ z : Int32, z = pj_fi G0 171 18 := ⟨_, rfl⟩
  have ey2 : (pj_fi G0 171 18).toInt = y2.toInt := by rw [hy2]
  have ry2 : (0 : Int) ≤ y2.toInt ∧ y2.toInt ≤ 80 := by rw [hy2]; exact hI.2.1 171 18 (0, 80) rfl
  refine pj_X_of (fun r h => pj_R_to (G0, 2, [(0, .ref 171), (1, .retAddr 12)], [.retAddr 12, .ref 171], 0, 0) 2 3 (fun _ => rfl) h) ?_
  have q3 : (pj_fi G0 171 17).toInt = y1.toInt := by rw [show pj_fi G0 171 17 = y1 from hy1.symm]
  have q4 : (pj_fi G0 171 18).toInt = y2.toInt := by rw [show pj_fi G0 171 18 = y2 from hy2.symm]
  refine pj_X_ca (vs := [.ref 171, .retAddr 12]) rfl (fun _ => rfl) ⟨Nat.le_of_ble_eq_true rfl, Nat.le_of_ble_eq_true rfl, pj_T_rcv hI rfl⟩ ⟨rfl, rfl⟩ (pj_Y_up (by decide) (ct_184_s12x G0 hI)) ?_
  rintro _ _ ⟨y5, rfl, rfl, ry5, ey5, fy5⟩
  replace ey5 := ey5 _ rfl
  rw [← fy5, pj_nm_e]
  show pj_X _ _ G0 5 [(0, .ref 171), (1, .retAddr 12)] [.int y5] _
  refine pj_X_of (fun r h => pj_R_to (G0, 8, [(2, .int y5), (0, .ref 171), (1, .retAddr 12)], [.ref 171, .ref 171], 0, 0) 8 4 (fun _ => rfl) h) ?_
  refine pj_X_of (fun r h => pj_T_gi hI rfl rfl h) ?_
  show pj_X _ _ G0 11 [(2, .int y5), (0, .ref 171), (1, .retAddr 12)] [.int (pj_fi G0 171 17), .ref 171] _
  rw [← hy1, pj_nm_e]
  refine pj_X_of (fun r h => pj_R_to (G0, 12, [(2, .int y5), (0, .ref 171), (1, .retAddr 12)], [.int y5, .int y1, .ref 171], 0, 0) 12 2 (fun _ => rfl) h) ?_
  cases b6 : pj_c1 .lt y5 0 with
  | true =>
    rw [pj_cT]
    have ub6 := pj_u0_ltT b6
    refine pj_X_of (fun r h => pj_R_ifT 19 rfl rfl b6 h) ?_
    refine pj_X_of (fun r h => pj_R_to (G0, 20, [(2, .int y5), (0, .ref 171), (1, .retAddr 12)], [.int (Int32.ofInt 0), .int y1, .ref 171], 0, 0) 20 2 (fun _ => rfl) h) ?_
    have q7 : (pj_fi G0 171 17).toInt = y1.toInt := by rw [show pj_fi G0 171 17 = y1 from hy1.symm]
    have q8 : (pj_fi G0 171 18).toInt = y2.toInt := by rw [show pj_fi G0 171 18 = y2 from hy2.symm]
    refine pj_X_ca (vs := [.int (Int32.ofInt 0)]) rfl (fun _ => rfl) ⟨Nat.le_of_ble_eq_true rfl, Nat.le_of_ble_eq_true rfl, rfl⟩ ⟨rfl, rfl⟩ (pj_Y_up (by decide) (ct_172x G0 hI (Int32.ofInt 0) ⟨by omega, by omega⟩)) ?_
    rintro _ _ ⟨y9, rfl, rfl, ry9, ey9, fy9⟩
    rw [← fy9, pj_nm_e]
    show pj_X _ _ G0 23 [(2, .int y5), (0, .ref 171), (1, .retAddr 12)] [.int y9, .int y1, .ref 171] _
    refine pj_X_of (fun r h => pj_R_to (G0, 24, [(2, .int y5), (0, .ref 171), (1, .retAddr 12)], [.int (y1 + y9), .ref 171], 0, 0) 24 2 (fun _ => rfl) h) ?_
    obtain ⟨z10, hz10⟩ : ∃ z : Int32, z = y1 + y9 := ⟨_, rfl⟩
    refine pj_X_eqi hz10.symm ?_
    rw [← hz10, pj_nm_e]
    have fz10_0 : z10.toInt = y1.toInt + y9.toInt := by rw [hz10]; exact pj_addI (by have := pj_i32 y1; have := pj_i32 y9; omega) (by have := pj_i32 y1; have := pj_i32 y9; omega)
    refine pj_X_of (fun r h => pj_T_pf hI rfl rfl rfl h) ?_
    show pj_X _ _ (pj_wv G0 171 17 (.int z10)) 27 [(2, .int y5), (0, .ref 171), (1, .retAddr 12)] [] _
    obtain ⟨G11, hG11⟩ : ∃ H, H = pj_wv G0 171 17 (.int z10) := ⟨_, rfl⟩
    have iG11 : pj_Inv G11 := by rw [hG11]; exact pj_Inv_wi hI (ci := 12) rfl (fun q hq => by cases hq; exact ⟨by show (0 : Int) ≤ _; omega, by show _ ≤ (80 : Int); omega⟩)
    have kG11 : pj_kpt kc_185_s12x G0 G11 := by rw [hG11]; exact pj_kpt_v hK rfl
    rw [← hG11]
    rw [pj_nm_e]
    refine pj_X_of (fun r h => pj_R_to (G11, 28, [(2, .int y5), (0, .ref 171), (1, .retAddr 12)], [.int y5], 0, 0) 28 2 (fun _ => rfl) h) ?_
    have q12 : (pj_fi G11 171 17).toInt = z10.toInt := by rw [show pj_fi G11 171 17 = z10 from by rw [hG11]; exact pj_fi_wi hI.1 (ci := 12) rfl _]
    have q13 : (pj_fi G11 171 18).toInt = y2.toInt := by rw [show pj_fi G11 171 18 = y2 from by rw [hG11, pj_fi_wv_ne _ _ _ _ _ _ (by decide)]; exact hy2.symm]
    exact pj_X_rt rfl rfl ⟨_, rfl, iG11, kG11, ⟨by omega, by omega⟩, (fun H hH => by subst hH; exact (⟨by omega, by omega⟩)), rfl⟩
  | false =>
    rw [pj_cF]
    have ub6 := pj_u0_ltF b6
    refine pj_X_of (fun r h => pj_R_ifF rfl b6 h) ?_
    refine pj_X_of (fun r h => pj_R_to (G0, 20, [(2, .int y5), (0, .ref 171), (1, .retAddr 12)], [.int (Int32.ofInt 1), .int y1, .ref 171], 0, 0) 20 3 (fun _ => rfl) h) ?_
    have q14 : (pj_fi G0 171 17).toInt = y1.toInt := by rw [show pj_fi G0 171 17 = y1 from hy1.symm]
    have q15 : (pj_fi G0 171 18).toInt = y2.toInt := by rw [show pj_fi G0 171 18 = y2 from hy2.symm]
    refine pj_X_ca (vs := [.int (Int32.ofInt 1)]) rfl (fun _ => rfl) ⟨Nat.le_of_ble_eq_true rfl, Nat.le_of_ble_eq_true rfl, rfl⟩ ⟨rfl, rfl⟩ (pj_Y_up (by decide) (ct_172x G0 hI (Int32.ofInt 1) ⟨by omega, by omega⟩)) ?_
    rintro _ _ ⟨y16, rfl, rfl, ry16, ey16, fy16⟩
    rw [← fy16, pj_nm_e]
    show pj_X _ _ G0 23 [(2, .int y5), (0, .ref 171), (1, .retAddr 12)] [.int y16, .int y1, .ref 171] _
    refine pj_X_of (fun r h => pj_R_to (G0, 24, [(2, .int y5), (0, .ref 171), (1, .retAddr 12)], [.int (y1 + y16), .ref 171], 0, 0) 24 2 (fun _ => rfl) h) ?_
    obtain ⟨z17, hz17⟩ : ∃ z : Int32, z = y1 + y16 := ⟨_, rfl⟩
    refine pj_X_eqi hz17.symm ?_
    rw [← hz17, pj_nm_e]
    have fz17_0 : z17.toInt = y1.toInt + y16.toInt := by rw [hz17]; exact pj_addI (by have := pj_i32 y1; have := pj_i32 y16; omega) (by have := pj_i32 y1; have := pj_i32 y16; omega)
    refine pj_X_of (fun r h => pj_T_pf hI rfl rfl rfl h) ?_
    show pj_X _ _ (pj_wv G0 171 17 (.int z17)) 27 [(2, .int y5), (0, .ref 171), (1, .retAddr 12)] [] _
    obtain ⟨G18, hG18⟩ : ∃ H, H = pj_wv G0 171 17 (.int z17) := ⟨_, rfl⟩
    have iG18 : pj_Inv G18 := by rw [hG18]; exact pj_Inv_wi hI (ci := 12) rfl (fun q hq => by cases hq; exact ⟨by show (0 : Int) ≤ _; omega, by show _ ≤ (80 : Int); omega⟩)
    have kG18 : pj_kpt kc_185_s12x G0 G18 := by rw [hG18]; exact pj_kpt_v hK rfl
    rw [← hG18]
    rw [pj_nm_e]
    refine pj_X_of (fun r h => pj_R_to (G18, 28, [(2, .int y5), (0, .ref 171), (1, .retAddr 12)], [.int y5], 0, 0) 28 2 (fun _ => rfl) h) ?_
    have q19 : (pj_fi G18 171 17).toInt = z17.toInt := by rw [show pj_fi G18 171 17 = z17 from by rw [hG18]; exact pj_fi_wi hI.1 (ci := 12) rfl _]
    have q20 : (pj_fi G18 171 18).toInt = y2.toInt := by rw [show pj_fi G18 171 18 = y2 from by rw [hG18, pj_fi_wv_ne _ _ _ _ _ _ (by decide)]; exact hy2.symm]
    exact pj_X_rt rfl rfl ⟨_, rfl, iG18, kG18, ⟨by omega, by omega⟩, (fun H hH => by subst hH; exact (⟨by omega, by omega⟩)), rfl⟩
theorem fr_186_s12x (G0 : pj_G) (hI : pj_Inv G0) : pj_Inv (F_186_s12x G0).2 ∧ pj_kpt kc_185_s12x G0 (F_186_s12x G0).2 ∧ ((-1 : Int) ≤ (F_186_s12x G0).1.toInt ∧ (F_186_s12x G0).1.toInt ≤ 2) ∧ (((0 ≤ (F_186_s12x G0).1.toInt → (pj_fi (F_186_s12x G0).2 171 17).toInt = (pj_fi G0 171 17).toInt + 1 ∧ (pj_fi G0 171 17).toInt < (pj_fi G0 171 18).toInt) ∧ ((F_186_s12x G0).1.toInt < 0 → (pj_fi (F_186_s12x G0).2 171 17).toInt = (pj_fi G0 171 17).toInt)) ∧ ((((pj_fi G0 171 17).toInt < (pj_fi G0 171 18).toInt) ∧ (pj_ai G0 180 (pj_fi G0 171 17).toInt.toNat).toInt = 60 → (F_186_s12x G0).1.toInt = 0 ∧ (pj_fi (F_186_s12x G0).2 171 17).toInt = (pj_fi G0 171 17).toInt + 1) ∧ (((pj_fi G0 171 17).toInt < (pj_fi G0 171 18).toInt) ∧ (pj_ai G0 180 (pj_fi G0 171 17).toInt.toNat).toInt = 62 → (F_186_s12x G0).1.toInt = 1 ∧ (pj_fi (F_186_s12x G0).2 171 17).toInt = (pj_fi G0 171 17).toInt + 1) ∧ (((pj_fi G0 171 17).toInt < (pj_fi G0 171 18).toInt) ∧ (pj_ai G0 180 (pj_fi G0 171 17).toInt.toNat).toInt = 61 → (F_186_s12x G0).1.toInt = 2 ∧ (pj_fi (F_186_s12x G0).2 171 17).toInt = (pj_fi G0 171 17).toInt + 1) ∧ (¬ (((pj_fi G0 171 17).toInt < (pj_fi G0 171 18).toInt) ∧ ((pj_ai G0 180 (pj_fi G0 171 17).toInt.toNat).toInt = 60 ∨ (pj_ai G0 180 (pj_fi G0 171 17).toInt.toNat).toInt = 62 ∨ (pj_ai G0 180 (pj_fi G0 171 17).toInt.toNat).toInt = 61)) → (F_186_s12x G0).1.toInt = -1 ∧ (pj_fi (F_186_s12x G0).2 171 17).toInt = (pj_fi G0 171 17).toInt))) := by
  obtain ⟨v, G', -, y, -, i, j, r, x, e⟩ := ct_185_s12x G0 hI 
  rw [← e]
  exact ⟨i, j, r, x _ rfl⟩
noncomputable def L_185_s13x (G0 : pj_G) (fu : Nat) : Int32 → Int32 := Nat.rec (motive := fun _ => Int32 → Int32) (fun _ => 0) (fun _ ih v2 => pj_nm (F_289_s13x G0) (fun y5 => cond (pj_c1 .ge v2 y5) (Int32.ofInt (-1)) (pj_nm (pj_fi G0 171 17) (fun y1 => pj_nm (pj_fi G0 171 18) (fun y2 => cond (pj_c1 .ge y1 y2) (Int32.ofInt (-1)) (pj_nm (F_290_s13x G0 v2) (fun y14 => pj_nm (pj_ai G0 180 y1.toInt.toNat) (fun z15 => cond (pj_c1 .ne y14 z15) (pj_nm (v2 + Int32.ofInt 1) (fun z17 => ih z17)) (v2))))))))) fu
theorem L_185_s13x_s0 (G0 : pj_G) (fu : Nat) (v2 : Int32) : L_185_s13x G0 (fu + 1) v2 = pj_nm (F_289_s13x G0) (fun y5 => cond (pj_c1 .ge v2 y5) (Int32.ofInt (-1)) (pj_nm (pj_fi G0 171 17) (fun y1 => pj_nm (pj_fi G0 171 18) (fun y2 => cond (pj_c1 .ge y1 y2) (Int32.ofInt (-1)) (pj_nm (F_290_s13x G0 v2) (fun y14 => pj_nm (pj_ai G0 180 y1.toInt.toNat) (fun z15 => cond (pj_c1 .ne y14 z15) (pj_nm (v2 + Int32.ofInt 1) (fun z17 => L_185_s13x G0 fu z17)) (v2)))))))) := rfl
noncomputable def F_185_s13x (G0 : pj_G) : Int32 := L_185_s13x G0 3 (Int32.ofInt 0)
theorem F_185_s13x_e (G0 : pj_G) : F_185_s13x G0 = L_185_s13x G0 3 (Int32.ofInt 0) := rfl
theorem lp_ct_184_s13x (G0 : pj_G) (hI : pj_Inv G0) : ∀ mn : Nat, (∀ (v2 : Int32), ((0 : Int) ≤ v2.toInt ∧ v2.toInt ≤ 2) → (0 < v2.toInt → ¬ (pj_ai G0 180 (pj_fi G0 171 17).toInt.toNat).toInt = 43) → (1 < v2.toInt → ¬ (pj_ai G0 180 (pj_fi G0 171 17).toInt.toNat).toInt = 45) → 2 - v2.toInt < (mn : Int) → pj_X 14 pj_m184 G0 2 [(0, .ref 171), (1, .retAddr 13), (2, .int v2)] [] (fun v' G' => ∃ y : Int32, v' = some (.int y) ∧ G0 = G' ∧ ((-1 : Int) ≤ y.toInt ∧ y.toInt ≤ 1) ∧ (∀ H, G0 = H → ((0 ≤ y.toInt → (pj_fi H 171 17).toInt < (pj_fi H 171 18).toInt) ∧ ((((pj_fi H 171 17).toInt < (pj_fi H 171 18).toInt) ∧ (pj_ai H 180 (pj_fi H 171 17).toInt.toNat).toInt = 43 → y.toInt = 0) ∧ (((pj_fi H 171 17).toInt < (pj_fi H 171 18).toInt) ∧ (pj_ai H 180 (pj_fi H 171 17).toInt.toNat).toInt = 45 → y.toInt = 1) ∧ (¬ (((pj_fi H 171 17).toInt < (pj_fi H 171 18).toInt) ∧ ((pj_ai H 180 (pj_fi H 171 17).toInt.toNat).toInt = 43 ∨ (pj_ai H 180 (pj_fi H 171 17).toInt.toNat).toInt = 45)) → y.toInt = -1)))) ∧ (y = L_185_s13x G0 mn v2))) := by
  have c0_ : (Int32.ofInt (-1)).toInt = -1 := by decide
  have c1_ : (Int32.ofInt 0).toInt = 0 := by decide
  have c2_ : (Int32.ofInt 1).toInt = 1 := by decide
  have hK : pj_kpt ([], [], []) G0 G0 := pj_kpt_r _ _
  intro mn
  induction mn with
  | zero =>
    intro v2 rv2 x0_ x1_ hm
    exfalso
    omega
  | succ mn ih =>
    intro v2 rv2 x0_ x1_ hm
    rw [L_185_s13x_s0]
    obtain ⟨y1, hy1⟩ : ∃ z : Int32, z = pj_fi G0 171 17 := ⟨_, rfl⟩
    have ey1 : (pj_fi G0 171 17).toInt = y1.toInt := by rw [hy1]
    have ry1 : (0 : Int) ≤ y1.toInt ∧ y1.toInt ≤ 80 := by rw [hy1]; exact hI.2.1 171 17 (0, 80) rfl
    obtain ⟨y2, hy2⟩ : ∃ z : Int32, z = pj_fi G0 171 18 := ⟨_, rfl⟩
    have ey2 : (pj_fi G0 171 18).toInt = y2.toInt := by rw [hy2]
    have ry2 : (0 : Int) ≤ y2.toInt ∧ y2.toInt ≤ 80 := by rw [hy2]; exact hI.2.1 171 18 (0, 80) rfl
    refine pj_X_of (fun r h => pj_R_to (G0, 4, [(0, .ref 171), (1, .retAddr 13), (2, .int v2)], [.retAddr 13, .int v2], 0, 0) 4 3 (fun _ => rfl) h) ?_
    have q3 : (pj_fi G0 171 17).toInt = y1.toInt := by rw [show pj_fi G0 171 17 = y1 from hy1.symm]
    have q4 : (pj_fi G0 171 18).toInt = y2.toInt := by rw [show pj_fi G0 171 18 = y2 from hy2.symm]
    refine pj_X_ca (vs := [.retAddr 13]) rfl (fun _ => rfl) ⟨Nat.le_of_ble_eq_true rfl, Nat.le_of_ble_eq_true rfl, rfl⟩ ⟨rfl, rfl⟩ (pj_Y_up (by decide) (ct_288_s13x G0 hI)) ?_
    rintro _ _ ⟨y5, rfl, rfl, ry5, fy5⟩
    rw [← fy5, pj_nm_e]
    show pj_X _ _ G0 7 [(0, .ref 171), (1, .retAddr 13), (2, .int v2)] [.int y5, .int v2] _
    cases b6 : pj_c1 .ge v2 y5 with
    | true =>
      rw [pj_cT]
      have ub6 := pj_u_geT b6
      refine pj_X_of (fun r h => pj_R_icT 46 rfl rfl b6 h) ?_
      refine pj_X_of (fun r h => pj_R_to (G0, 47, [(0, .ref 171), (1, .retAddr 13), (2, .int v2)], [.int (Int32.ofInt (-1))], 0, 0) 47 2 (fun _ => rfl) h) ?_
      have q7 : (pj_fi G0 171 17).toInt = y1.toInt := by rw [show pj_fi G0 171 17 = y1 from hy1.symm]
      have q8 : (pj_fi G0 171 18).toInt = y2.toInt := by rw [show pj_fi G0 171 18 = y2 from hy2.symm]
      exact pj_X_rt rfl rfl ⟨_, rfl, rfl, ⟨by omega, by omega⟩, (fun H hH => by subst hH; exact (⟨by omega, by omega⟩)), rfl⟩
    | false =>
      rw [pj_cF]
      have ub6 := pj_u_geF b6
      refine pj_X_of (fun r h => pj_R_icF rfl b6 h) ?_
      refine pj_X_of (fun r h => pj_R_to (G0, 11, [(0, .ref 171), (1, .retAddr 13), (2, .int v2)], [.ref 171], 0, 0) 11 2 (fun _ => rfl) h) ?_
      refine pj_X_of (fun r h => pj_T_gi hI rfl rfl h) ?_
      show pj_X _ _ G0 14 [(0, .ref 171), (1, .retAddr 13), (2, .int v2)] [.int (pj_fi G0 171 17)] _
      rw [← hy1, pj_nm_e]
      refine pj_X_of (fun r h => pj_R_to (G0, 15, [(0, .ref 171), (1, .retAddr 13), (2, .int v2)], [.ref 171, .int y1], 0, 0) 15 2 (fun _ => rfl) h) ?_
      refine pj_X_of (fun r h => pj_T_gi hI rfl rfl h) ?_
      show pj_X _ _ G0 18 [(0, .ref 171), (1, .retAddr 13), (2, .int v2)] [.int (pj_fi G0 171 18), .int y1] _
      rw [← hy2, pj_nm_e]
      cases b9 : pj_c1 .ge y1 y2 with
      | true =>
        rw [pj_cT]
        have ub9 := pj_u_geT b9
        refine pj_X_of (fun r h => pj_R_icT 46 rfl rfl b9 h) ?_
        refine pj_X_of (fun r h => pj_R_to (G0, 47, [(0, .ref 171), (1, .retAddr 13), (2, .int v2)], [.int (Int32.ofInt (-1))], 0, 0) 47 2 (fun _ => rfl) h) ?_
        have q10 : (pj_fi G0 171 17).toInt = y1.toInt := by rw [show pj_fi G0 171 17 = y1 from hy1.symm]
        have q11 : (pj_fi G0 171 18).toInt = y2.toInt := by rw [show pj_fi G0 171 18 = y2 from hy2.symm]
        exact pj_X_rt rfl rfl ⟨_, rfl, rfl, ⟨by omega, by omega⟩, (fun H hH => by subst hH; exact (⟨by omega, by omega⟩)), rfl⟩
      | false =>
        rw [pj_cF]
        have ub9 := pj_u_geF b9
        refine pj_X_of (fun r h => pj_R_icF rfl b9 h) ?_
        refine pj_X_of (fun r h => pj_R_to (G0, 23, [(0, .ref 171), (1, .retAddr 13), (2, .int v2)], [.int v2, .retAddr 13], 0, 0) 23 3 (fun _ => rfl) h) ?_
        have q12 : (pj_fi G0 171 17).toInt = y1.toInt := by rw [show pj_fi G0 171 17 = y1 from hy1.symm]
        have q13 : (pj_fi G0 171 18).toInt = y2.toInt := by rw [show pj_fi G0 171 18 = y2 from hy2.symm]
        refine pj_X_ca (vs := [.retAddr 13, .int v2]) rfl (fun _ => rfl) ⟨Nat.le_of_ble_eq_true rfl, Nat.le_of_ble_eq_true rfl, rfl⟩ ⟨rfl, rfl⟩ (pj_Y_up (by decide) (ct_289_s13x G0 hI v2 ⟨by omega, by omega⟩)) ?_
        rintro _ _ ⟨y14, rfl, rfl, ry14, ey14, fy14⟩
        rw [← fy14, pj_nm_e]
        show pj_X _ _ G0 26 [(0, .ref 171), (1, .retAddr 13), (2, .int v2)] [.int y14] _
        refine pj_X_of (fun r h => pj_R_to (G0, 27, [(0, .ref 171), (1, .retAddr 13), (2, .int v2)], [.ref 171, .int y14], 0, 0) 27 2 (fun _ => rfl) h) ?_
        refine pj_X_of (fun r h => pj_T_gr hI rfl rfl rfl h) ?_
        refine pj_X_of (fun r h => pj_R_to (G0, 31, [(0, .ref 171), (1, .retAddr 13), (2, .int v2)], [.ref 171, .ref 180, .int y14], 0, 0) 31 2 (fun _ => rfl) h) ?_
        refine pj_X_of (fun r h => pj_T_gi hI rfl rfl h) ?_
        show pj_X _ _ G0 34 [(0, .ref 171), (1, .retAddr 13), (2, .int v2)] [.int (pj_fi G0 171 17), .ref 180, .int y14] _
        refine pj_X_eqi (show pj_fi G0 171 17 = y1 from hy1.symm) ?_
        refine pj_X_of (fun r h => pj_T_il hI rfl rfl (by omega) (by omega) h) ?_
        show pj_X _ _ G0 35 [(0, .ref 171), (1, .retAddr 13), (2, .int v2)] [.int (pj_ai G0 180 y1.toInt.toNat), .int y14] _
        obtain ⟨z15, hz15⟩ : ∃ z : Int32, z = pj_ai G0 180 y1.toInt.toNat := ⟨_, rfl⟩
        refine pj_X_eqi hz15.symm ?_
        rw [← hz15, pj_nm_e]
        have ez15 : (pj_ai G0 180 y1.toInt.toNat).toInt = z15.toInt := by rw [hz15]
        have fz15_0 : (0 : Int) ≤ z15.toInt ∧ z15.toInt ≤ 255 ∧ (z15.toInt ≤ 0 ∨ 0 ≤ z15.toInt) := by rw [hz15]; exact hI.2.2.1 180 (80, 0, 255, 0, 0) rfl _ (by show _ < 80; omega)
        have gz15 : (pj_ai G0 180 (pj_fi G0 171 17).toInt.toNat).toInt = z15.toInt := by rw [show pj_fi G0 171 17 = y1 from hy1.symm, hz15]
        cases b16 : pj_c1 .ne y14 z15 with
        | true =>
          rw [pj_cT]
          have ub16 := pj_u_neT b16
          refine pj_X_of (fun r h => pj_R_icT 40 rfl rfl b16 h) ?_
          refine pj_X_of (fun r h => pj_R_to (G0, 43, [(2, .int (v2 + Int32.ofInt 1)), (0, .ref 171), (1, .retAddr 13)], [], 0, 0) 43 2 (fun _ => rfl) h) ?_
          obtain ⟨z17, hz17⟩ : ∃ z : Int32, z = v2 + Int32.ofInt 1 := ⟨_, rfl⟩
          rw [← hz17]
          rw [pj_nm_e]
          have fz17_0 : z17.toInt = v2.toInt + (Int32.ofInt 1).toInt := by rw [hz17]; exact pj_addI (by have := pj_i32 v2; have := pj_i32 (Int32.ofInt 1); omega) (by have := pj_i32 v2; have := pj_i32 (Int32.ofInt 1); omega)
          refine pj_X_of (fun r h => pj_R_to (G0, 2, [(2, .int z17), (0, .ref 171), (1, .retAddr 13)], [], 0, 0) 2 2 (fun _ => rfl) h) ?_
          have q18 : (pj_fi G0 171 17).toInt = y1.toInt := by rw [show pj_fi G0 171 17 = y1 from hy1.symm]
          have q19 : (pj_fi G0 171 18).toInt = y2.toInt := by rw [show pj_fi G0 171 18 = y2 from hy2.symm]
          exact pj_X_sub [(0, .ref 171), (1, .retAddr 13), (2, .int z17)] (show List.Nodup [0, 1, 2] by decide) ⟨rfl, rfl, rfl, trivial⟩ (ih z17 ⟨by omega, by omega⟩ (by omega) (by omega) (by omega))
        | false =>
          rw [pj_cF]
          have ub16 := pj_u_neF b16
          refine pj_X_of (fun r h => pj_R_icF rfl b16 h) ?_
          refine pj_X_of (fun r h => pj_R_to (G0, 39, [(0, .ref 171), (1, .retAddr 13), (2, .int v2)], [.int v2], 0, 0) 39 2 (fun _ => rfl) h) ?_
          have q20 : (pj_fi G0 171 17).toInt = y1.toInt := by rw [show pj_fi G0 171 17 = y1 from hy1.symm]
          have q21 : (pj_fi G0 171 18).toInt = y2.toInt := by rw [show pj_fi G0 171 18 = y2 from hy2.symm]
          exact pj_X_rt rfl rfl ⟨_, rfl, rfl, ⟨by omega, by omega⟩, (fun H hH => by subst hH; exact (⟨by omega, by omega⟩)), rfl⟩
theorem ct_184_s13x (G0 : pj_G) (hI : pj_Inv G0) : pj_Y 15 184 [.ref 171, .retAddr 13] G0 (fun v' G' => ∃ y : Int32, v' = some (.int y) ∧ G0 = G' ∧ ((-1 : Int) ≤ y.toInt ∧ y.toInt ≤ 1) ∧ (∀ H, G0 = H → ((0 ≤ y.toInt → (pj_fi H 171 17).toInt < (pj_fi H 171 18).toInt) ∧ ((((pj_fi H 171 17).toInt < (pj_fi H 171 18).toInt) ∧ (pj_ai H 180 (pj_fi H 171 17).toInt.toNat).toInt = 43 → y.toInt = 0) ∧ (((pj_fi H 171 17).toInt < (pj_fi H 171 18).toInt) ∧ (pj_ai H 180 (pj_fi H 171 17).toInt.toNat).toInt = 45 → y.toInt = 1) ∧ (¬ (((pj_fi H 171 17).toInt < (pj_fi H 171 18).toInt) ∧ ((pj_ai H 180 (pj_fi H 171 17).toInt.toNat).toInt = 43 ∨ (pj_ai H 180 (pj_fi H 171 17).toInt.toNat).toInt = 45)) → y.toInt = -1)))) ∧ (y = F_185_s13x G0)) := by
  have c0_ : (Int32.ofInt (-1)).toInt = -1 := by decide
  have c1_ : (Int32.ofInt 0).toInt = 0 := by decide
  have c2_ : (Int32.ofInt 1).toInt = 1 := by decide
  refine pj_Y_X (M := pj_m184) rfl rfl (Nat.le_of_ble_eq_true rfl) ?_
  have hK : pj_kpt ([], [], []) G0 G0 := pj_kpt_r _ _
  show pj_X _ _ G0 0 [(0, .ref 171), (1, .retAddr 13)] [] _
  rw [F_185_s13x_e]
  obtain ⟨y22, hy22⟩ : ∃ z : Int32, z = pj_fi G0 171 17 := ⟨_, rfl⟩
  have ey22 : (pj_fi G0 171 17).toInt = y22.toInt := by rw [hy22]
  have ry22 : (0 : Int) ≤ y22.toInt ∧ y22.toInt ≤ 80 := by rw [hy22]; exact hI.2.1 171 17 (0, 80) rfl
  obtain ⟨y23, hy23⟩ : ∃ z : Int32, z = pj_fi G0 171 18 := ⟨_, rfl⟩
  have ey23 : (pj_fi G0 171 18).toInt = y23.toInt := by rw [hy23]
  have ry23 : (0 : Int) ≤ y23.toInt ∧ y23.toInt ≤ 80 := by rw [hy23]; exact hI.2.1 171 18 (0, 80) rfl
  refine pj_X_of (fun r h => pj_R_to (G0, 2, [(2, .int (Int32.ofInt 0)), (0, .ref 171), (1, .retAddr 13)], [], 0, 0) 2 3 (fun _ => rfl) h) ?_
  have q24 : (pj_fi G0 171 17).toInt = y22.toInt := by rw [show pj_fi G0 171 17 = y22 from hy22.symm]
  have q25 : (pj_fi G0 171 18).toInt = y23.toInt := by rw [show pj_fi G0 171 18 = y23 from hy23.symm]
  exact pj_X_sub [(0, .ref 171), (1, .retAddr 13), (2, .int (Int32.ofInt 0))] (show List.Nodup [0, 1, 2] by decide) ⟨rfl, rfl, rfl, trivial⟩ ((lp_ct_184_s13x G0 hI   3) (Int32.ofInt 0) ⟨by omega, by omega⟩ (by omega) (by omega) (by omega))
theorem fr_185_s13x (G0 : pj_G) (hI : pj_Inv G0) : ((-1 : Int) ≤ (F_185_s13x G0).toInt ∧ (F_185_s13x G0).toInt ≤ 1) ∧ ((0 ≤ (F_185_s13x G0).toInt → (pj_fi G0 171 17).toInt < (pj_fi G0 171 18).toInt) ∧ ((((pj_fi G0 171 17).toInt < (pj_fi G0 171 18).toInt) ∧ (pj_ai G0 180 (pj_fi G0 171 17).toInt.toNat).toInt = 43 → (F_185_s13x G0).toInt = 0) ∧ (((pj_fi G0 171 17).toInt < (pj_fi G0 171 18).toInt) ∧ (pj_ai G0 180 (pj_fi G0 171 17).toInt.toNat).toInt = 45 → (F_185_s13x G0).toInt = 1) ∧ (¬ (((pj_fi G0 171 17).toInt < (pj_fi G0 171 18).toInt) ∧ ((pj_ai G0 180 (pj_fi G0 171 17).toInt.toNat).toInt = 43 ∨ (pj_ai G0 180 (pj_fi G0 171 17).toInt.toNat).toInt = 45)) → (F_185_s13x G0).toInt = -1))) := by
  obtain ⟨v, G', -, y, -, rfl, r, x, e⟩ := ct_184_s13x G0 hI 
  rw [← e]
  exact ⟨r, x _ rfl⟩
def kc_185_s13x : pj_KT := ([(171, 17)], [171], [])
noncomputable def F_186_s13x (G0 : pj_G) : Int32 × pj_G := pj_nm (F_185_s13x G0) (fun y5 => pj_nm (pj_fi G0 171 17) (fun y1 => cond (pj_c1 .lt y5 0) (pj_nm (F_173x G0 (Int32.ofInt 0)) (fun y9 => pj_nm (y1 + y9) (fun z10 => pj_nm (pj_wv G0 171 17 (.int z10)) (fun G11 => (y5, G11))))) (pj_nm (F_173x G0 (Int32.ofInt 1)) (fun y16 => pj_nm (y1 + y16) (fun z17 => pj_nm (pj_wv G0 171 17 (.int z17)) (fun G18 => (y5, G18)))))))
theorem F_186_s13x_e (G0 : pj_G) : F_186_s13x G0 = pj_nm (F_185_s13x G0) (fun y5 => pj_nm (pj_fi G0 171 17) (fun y1 => cond (pj_c1 .lt y5 0) (pj_nm (F_173x G0 (Int32.ofInt 0)) (fun y9 => pj_nm (y1 + y9) (fun z10 => pj_nm (pj_wv G0 171 17 (.int z10)) (fun G11 => (y5, G11))))) (pj_nm (F_173x G0 (Int32.ofInt 1)) (fun y16 => pj_nm (y1 + y16) (fun z17 => pj_nm (pj_wv G0 171 17 (.int z17)) (fun G18 => (y5, G18))))))) := rfl
theorem ct_185_s13x (G0 : pj_G) (hI : pj_Inv G0) : pj_Y 16 185 [.ref 171, .retAddr 13] G0 (fun v' G' => ∃ y : Int32, v' = some (.int y) ∧ pj_Inv G' ∧ pj_kpt kc_185_s13x G0 G' ∧ ((-1 : Int) ≤ y.toInt ∧ y.toInt ≤ 1) ∧ (∀ H, G0 = H → (((0 ≤ y.toInt → (pj_fi G' 171 17).toInt = (pj_fi H 171 17).toInt + 1 ∧ (pj_fi H 171 17).toInt < (pj_fi H 171 18).toInt) ∧ (y.toInt < 0 → (pj_fi G' 171 17).toInt = (pj_fi H 171 17).toInt)) ∧ ((((pj_fi H 171 17).toInt < (pj_fi H 171 18).toInt) ∧ (pj_ai H 180 (pj_fi H 171 17).toInt.toNat).toInt = 43 → y.toInt = 0 ∧ (pj_fi G' 171 17).toInt = (pj_fi H 171 17).toInt + 1) ∧ (((pj_fi H 171 17).toInt < (pj_fi H 171 18).toInt) ∧ (pj_ai H 180 (pj_fi H 171 17).toInt.toNat).toInt = 45 → y.toInt = 1 ∧ (pj_fi G' 171 17).toInt = (pj_fi H 171 17).toInt + 1) ∧ (¬ (((pj_fi H 171 17).toInt < (pj_fi H 171 18).toInt) ∧ ((pj_ai H 180 (pj_fi H 171 17).toInt.toNat).toInt = 43 ∨ (pj_ai H 180 (pj_fi H 171 17).toInt.toNat).toInt = 45)) → y.toInt = -1 ∧ (pj_fi G' 171 17).toInt = (pj_fi H 171 17).toInt)))) ∧ ((y, G') = F_186_s13x G0)) := by
  have c0_ : (Int32.ofInt 0).toInt = 0 := by decide
  have c1_ : (Int32.ofInt 1).toInt = 1 := by decide
  refine pj_Y_X (M := pj_m185) rfl rfl (Nat.le_of_ble_eq_true rfl) ?_
  have hK : pj_kpt kc_185_s13x G0 G0 := pj_kpt_r _ _
  show pj_X _ _ G0 0 [(0, .ref 171), (1, .retAddr 13)] [] _
  rw [F_186_s13x_e]
  obtain ⟨y1, hy1⟩ : ∃ z : Int32, z = pj_fi G0 171 17 := ⟨_, rfl⟩
  have ey1 : (pj_fi G0 171 17).toInt = y1.toInt := by rw [hy1]
  have ry1 : (0 : Int) ≤ y1.toInt ∧ y1.toInt ≤ 80 := by rw [hy1]; exact hI.2.1 171 17 (0, 80) rfl
  obtain ⟨y2, hy2⟩ : ∃ z : Int32, z = pj_fi G0 171 18 := ⟨_, rfl⟩
  have ey2 : (pj_fi G0 171 18).toInt = y2.toInt := by rw [hy2]
  have ry2 : (0 : Int) ≤ y2.toInt ∧ y2.toInt ≤ 80 := by rw [hy2]; exact hI.2.1 171 18 (0, 80) rfl
  refine pj_X_of (fun r h => pj_R_to (G0, 2, [(0, .ref 171), (1, .retAddr 13)], [.retAddr 13, .ref 171], 0, 0) 2 3 (fun _ => rfl) h) ?_
  have q3 : (pj_fi G0 171 17).toInt = y1.toInt := by rw [show pj_fi G0 171 17 = y1 from hy1.symm]
  have q4 : (pj_fi G0 171 18).toInt = y2.toInt := by rw [show pj_fi G0 171 18 = y2 from hy2.symm]
  refine pj_X_ca (vs := [.ref 171, .retAddr 13]) rfl (fun _ => rfl) ⟨Nat.le_of_ble_eq_true rfl, Nat.le_of_ble_eq_true rfl, pj_T_rcv hI rfl⟩ ⟨rfl, rfl⟩ (pj_Y_up (by decide) (ct_184_s13x G0 hI)) ?_
  rintro _ _ ⟨y5, rfl, rfl, ry5, ey5, fy5⟩
  replace ey5 := ey5 _ rfl
  rw [← fy5, pj_nm_e]
  show pj_X _ _ G0 5 [(0, .ref 171), (1, .retAddr 13)] [.int y5] _
  refine pj_X_of (fun r h => pj_R_to (G0, 8, [(2, .int y5), (0, .ref 171), (1, .retAddr 13)], [.ref 171, .ref 171], 0, 0) 8 4 (fun _ => rfl) h) ?_
  refine pj_X_of (fun r h => pj_T_gi hI rfl rfl h) ?_
  show pj_X _ _ G0 11 [(2, .int y5), (0, .ref 171), (1, .retAddr 13)] [.int (pj_fi G0 171 17), .ref 171] _
  rw [← hy1, pj_nm_e]
  refine pj_X_of (fun r h => pj_R_to (G0, 12, [(2, .int y5), (0, .ref 171), (1, .retAddr 13)], [.int y5, .int y1, .ref 171], 0, 0) 12 2 (fun _ => rfl) h) ?_
  cases b6 : pj_c1 .lt y5 0 with
  | true =>
    rw [pj_cT]
    have ub6 := pj_u0_ltT b6
    refine pj_X_of (fun r h => pj_R_ifT 19 rfl rfl b6 h) ?_
    refine pj_X_of (fun r h => pj_R_to (G0, 20, [(2, .int y5), (0, .ref 171), (1, .retAddr 13)], [.int (Int32.ofInt 0), .int y1, .ref 171], 0, 0) 20 2 (fun _ => rfl) h) ?_
    have q7 : (pj_fi G0 171 17).toInt = y1.toInt := by rw [show pj_fi G0 171 17 = y1 from hy1.symm]
    have q8 : (pj_fi G0 171 18).toInt = y2.toInt := by rw [show pj_fi G0 171 18 = y2 from hy2.symm]
    refine pj_X_ca (vs := [.int (Int32.ofInt 0)]) rfl (fun _ => rfl) ⟨Nat.le_of_ble_eq_true rfl, Nat.le_of_ble_eq_true rfl, rfl⟩ ⟨rfl, rfl⟩ (pj_Y_up (by decide) (ct_172x G0 hI (Int32.ofInt 0) ⟨by omega, by omega⟩)) ?_
    rintro _ _ ⟨y9, rfl, rfl, ry9, ey9, fy9⟩
    rw [← fy9, pj_nm_e]
    show pj_X _ _ G0 23 [(2, .int y5), (0, .ref 171), (1, .retAddr 13)] [.int y9, .int y1, .ref 171] _
    refine pj_X_of (fun r h => pj_R_to (G0, 24, [(2, .int y5), (0, .ref 171), (1, .retAddr 13)], [.int (y1 + y9), .ref 171], 0, 0) 24 2 (fun _ => rfl) h) ?_
    obtain ⟨z10, hz10⟩ : ∃ z : Int32, z = y1 + y9 := ⟨_, rfl⟩
    refine pj_X_eqi hz10.symm ?_
    rw [← hz10, pj_nm_e]
    have fz10_0 : z10.toInt = y1.toInt + y9.toInt := by rw [hz10]; exact pj_addI (by have := pj_i32 y1; have := pj_i32 y9; omega) (by have := pj_i32 y1; have := pj_i32 y9; omega)
    refine pj_X_of (fun r h => pj_T_pf hI rfl rfl rfl h) ?_
    show pj_X _ _ (pj_wv G0 171 17 (.int z10)) 27 [(2, .int y5), (0, .ref 171), (1, .retAddr 13)] [] _
    obtain ⟨G11, hG11⟩ : ∃ H, H = pj_wv G0 171 17 (.int z10) := ⟨_, rfl⟩
    have iG11 : pj_Inv G11 := by rw [hG11]; exact pj_Inv_wi hI (ci := 12) rfl (fun q hq => by cases hq; exact ⟨by show (0 : Int) ≤ _; omega, by show _ ≤ (80 : Int); omega⟩)
    have kG11 : pj_kpt kc_185_s13x G0 G11 := by rw [hG11]; exact pj_kpt_v hK rfl
    rw [← hG11]
    rw [pj_nm_e]
    refine pj_X_of (fun r h => pj_R_to (G11, 28, [(2, .int y5), (0, .ref 171), (1, .retAddr 13)], [.int y5], 0, 0) 28 2 (fun _ => rfl) h) ?_
    have q12 : (pj_fi G11 171 17).toInt = z10.toInt := by rw [show pj_fi G11 171 17 = z10 from by rw [hG11]; exact pj_fi_wi hI.1 (ci := 12) rfl _]
    have q13 : (pj_fi G11 171 18).toInt = y2.toInt := by rw [show pj_fi G11 171 18 = y2 from by rw [hG11, pj_fi_wv_ne _ _ _ _ _ _ (by decide)]; exact hy2.symm]
    exact pj_X_rt rfl rfl ⟨_, rfl, iG11, kG11, ⟨by omega, by omega⟩, (fun H hH => by subst hH; exact (⟨by omega, by omega⟩)), rfl⟩
  | false =>
    rw [pj_cF]
    have ub6 := pj_u0_ltF b6
    refine pj_X_of (fun r h => pj_R_ifF rfl b6 h) ?_
    refine pj_X_of (fun r h => pj_R_to (G0, 20, [(2, .int y5), (0, .ref 171), (1, .retAddr 13)], [.int (Int32.ofInt 1), .int y1, .ref 171], 0, 0) 20 3 (fun _ => rfl) h) ?_
    have q14 : (pj_fi G0 171 17).toInt = y1.toInt := by rw [show pj_fi G0 171 17 = y1 from hy1.symm]
    have q15 : (pj_fi G0 171 18).toInt = y2.toInt := by rw [show pj_fi G0 171 18 = y2 from hy2.symm]
    refine pj_X_ca (vs := [.int (Int32.ofInt 1)]) rfl (fun _ => rfl) ⟨Nat.le_of_ble_eq_true rfl, Nat.le_of_ble_eq_true rfl, rfl⟩ ⟨rfl, rfl⟩ (pj_Y_up (by decide) (ct_172x G0 hI (Int32.ofInt 1) ⟨by omega, by omega⟩)) ?_
    rintro _ _ ⟨y16, rfl, rfl, ry16, ey16, fy16⟩
    rw [← fy16, pj_nm_e]
    show pj_X _ _ G0 23 [(2, .int y5), (0, .ref 171), (1, .retAddr 13)] [.int y16, .int y1, .ref 171] _
    refine pj_X_of (fun r h => pj_R_to (G0, 24, [(2, .int y5), (0, .ref 171), (1, .retAddr 13)], [.int (y1 + y16), .ref 171], 0, 0) 24 2 (fun _ => rfl) h) ?_
    obtain ⟨z17, hz17⟩ : ∃ z : Int32, z = y1 + y16 := ⟨_, rfl⟩
    refine pj_X_eqi hz17.symm ?_
    rw [← hz17, pj_nm_e]
    have fz17_0 : z17.toInt = y1.toInt + y16.toInt := by rw [hz17]; exact pj_addI (by have := pj_i32 y1; have := pj_i32 y16; omega) (by have := pj_i32 y1; have := pj_i32 y16; omega)
    refine pj_X_of (fun r h => pj_T_pf hI rfl rfl rfl h) ?_
    show pj_X _ _ (pj_wv G0 171 17 (.int z17)) 27 [(2, .int y5), (0, .ref 171), (1, .retAddr 13)] [] _
    obtain ⟨G18, hG18⟩ : ∃ H, H = pj_wv G0 171 17 (.int z17) := ⟨_, rfl⟩
    have iG18 : pj_Inv G18 := by rw [hG18]; exact pj_Inv_wi hI (ci := 12) rfl (fun q hq => by cases hq; exact ⟨by show (0 : Int) ≤ _; omega, by show _ ≤ (80 : Int); omega⟩)
    have kG18 : pj_kpt kc_185_s13x G0 G18 := by rw [hG18]; exact pj_kpt_v hK rfl
    rw [← hG18]
    rw [pj_nm_e]
    refine pj_X_of (fun r h => pj_R_to (G18, 28, [(2, .int y5), (0, .ref 171), (1, .retAddr 13)], [.int y5], 0, 0) 28 2 (fun _ => rfl) h) ?_
    have q19 : (pj_fi G18 171 17).toInt = z17.toInt := by rw [show pj_fi G18 171 17 = z17 from by rw [hG18]; exact pj_fi_wi hI.1 (ci := 12) rfl _]
    have q20 : (pj_fi G18 171 18).toInt = y2.toInt := by rw [show pj_fi G18 171 18 = y2 from by rw [hG18, pj_fi_wv_ne _ _ _ _ _ _ (by decide)]; exact hy2.symm]
    exact pj_X_rt rfl rfl ⟨_, rfl, iG18, kG18, ⟨by omega, by omega⟩, (fun H hH => by subst hH; exact (⟨by omega, by omega⟩)), rfl⟩
theorem fr_186_s13x (G0 : pj_G) (hI : pj_Inv G0) : pj_Inv (F_186_s13x G0).2 ∧ pj_kpt kc_185_s13x G0 (F_186_s13x G0).2 ∧ ((-1 : Int) ≤ (F_186_s13x G0).1.toInt ∧ (F_186_s13x G0).1.toInt ≤ 1) ∧ (((0 ≤ (F_186_s13x G0).1.toInt → (pj_fi (F_186_s13x G0).2 171 17).toInt = (pj_fi G0 171 17).toInt + 1 ∧ (pj_fi G0 171 17).toInt < (pj_fi G0 171 18).toInt) ∧ ((F_186_s13x G0).1.toInt < 0 → (pj_fi (F_186_s13x G0).2 171 17).toInt = (pj_fi G0 171 17).toInt)) ∧ ((((pj_fi G0 171 17).toInt < (pj_fi G0 171 18).toInt) ∧ (pj_ai G0 180 (pj_fi G0 171 17).toInt.toNat).toInt = 43 → (F_186_s13x G0).1.toInt = 0 ∧ (pj_fi (F_186_s13x G0).2 171 17).toInt = (pj_fi G0 171 17).toInt + 1) ∧ (((pj_fi G0 171 17).toInt < (pj_fi G0 171 18).toInt) ∧ (pj_ai G0 180 (pj_fi G0 171 17).toInt.toNat).toInt = 45 → (F_186_s13x G0).1.toInt = 1 ∧ (pj_fi (F_186_s13x G0).2 171 17).toInt = (pj_fi G0 171 17).toInt + 1) ∧ (¬ (((pj_fi G0 171 17).toInt < (pj_fi G0 171 18).toInt) ∧ ((pj_ai G0 180 (pj_fi G0 171 17).toInt.toNat).toInt = 43 ∨ (pj_ai G0 180 (pj_fi G0 171 17).toInt.toNat).toInt = 45)) → (F_186_s13x G0).1.toInt = -1 ∧ (pj_fi (F_186_s13x G0).2 171 17).toInt = (pj_fi G0 171 17).toInt))) := by
  obtain ⟨v, G', -, y, -, i, j, r, x, e⟩ := ct_185_s13x G0 hI 
  rw [← e]
  exact ⟨i, j, r, x _ rfl⟩
noncomputable def L_185_s14x (G0 : pj_G) (fu : Nat) : Int32 → Int32 := Nat.rec (motive := fun _ => Int32 → Int32) (fun _ => 0) (fun _ ih v2 => pj_nm (F_289_s14x G0) (fun y5 => cond (pj_c1 .ge v2 y5) (Int32.ofInt (-1)) (pj_nm (pj_fi G0 171 17) (fun y1 => pj_nm (pj_fi G0 171 18) (fun y2 => cond (pj_c1 .ge y1 y2) (Int32.ofInt (-1)) (pj_nm (F_290_s14x G0 v2) (fun y14 => pj_nm (pj_ai G0 180 y1.toInt.toNat) (fun z15 => cond (pj_c1 .ne y14 z15) (pj_nm (v2 + Int32.ofInt 1) (fun z17 => ih z17)) (v2))))))))) fu
theorem L_185_s14x_s0 (G0 : pj_G) (fu : Nat) (v2 : Int32) : L_185_s14x G0 (fu + 1) v2 = pj_nm (F_289_s14x G0) (fun y5 => cond (pj_c1 .ge v2 y5) (Int32.ofInt (-1)) (pj_nm (pj_fi G0 171 17) (fun y1 => pj_nm (pj_fi G0 171 18) (fun y2 => cond (pj_c1 .ge y1 y2) (Int32.ofInt (-1)) (pj_nm (F_290_s14x G0 v2) (fun y14 => pj_nm (pj_ai G0 180 y1.toInt.toNat) (fun z15 => cond (pj_c1 .ne y14 z15) (pj_nm (v2 + Int32.ofInt 1) (fun z17 => L_185_s14x G0 fu z17)) (v2)))))))) := rfl
noncomputable def F_185_s14x (G0 : pj_G) : Int32 := L_185_s14x G0 3 (Int32.ofInt 0)
theorem F_185_s14x_e (G0 : pj_G) : F_185_s14x G0 = L_185_s14x G0 3 (Int32.ofInt 0) := rfl
theorem lp_ct_184_s14x (G0 : pj_G) (hI : pj_Inv G0) : ∀ mn : Nat, (∀ (v2 : Int32), ((0 : Int) ≤ v2.toInt ∧ v2.toInt ≤ 2) → (0 < v2.toInt → ¬ (pj_ai G0 180 (pj_fi G0 171 17).toInt.toNat).toInt = 42) → (1 < v2.toInt → ¬ (pj_ai G0 180 (pj_fi G0 171 17).toInt.toNat).toInt = 47) → 2 - v2.toInt < (mn : Int) → pj_X 14 pj_m184 G0 2 [(0, .ref 171), (1, .retAddr 14), (2, .int v2)] [] (fun v' G' => ∃ y : Int32, v' = some (.int y) ∧ G0 = G' ∧ ((-1 : Int) ≤ y.toInt ∧ y.toInt ≤ 1) ∧ (∀ H, G0 = H → ((0 ≤ y.toInt → (pj_fi H 171 17).toInt < (pj_fi H 171 18).toInt) ∧ ((((pj_fi H 171 17).toInt < (pj_fi H 171 18).toInt) ∧ (pj_ai H 180 (pj_fi H 171 17).toInt.toNat).toInt = 42 → y.toInt = 0) ∧ (((pj_fi H 171 17).toInt < (pj_fi H 171 18).toInt) ∧ (pj_ai H 180 (pj_fi H 171 17).toInt.toNat).toInt = 47 → y.toInt = 1) ∧ (¬ (((pj_fi H 171 17).toInt < (pj_fi H 171 18).toInt) ∧ ((pj_ai H 180 (pj_fi H 171 17).toInt.toNat).toInt = 42 ∨ (pj_ai H 180 (pj_fi H 171 17).toInt.toNat).toInt = 47)) → y.toInt = -1)))) ∧ (y = L_185_s14x G0 mn v2))) := by
  have c0_ : (Int32.ofInt (-1)).toInt = -1 := by decide
  have c1_ : (Int32.ofInt 0).toInt = 0 := by decide
  have c2_ : (Int32.ofInt 1).toInt = 1 := by decide
  have hK : pj_kpt ([], [], []) G0 G0 := pj_kpt_r _ _
  intro mn
  induction mn with
  | zero =>
    intro v2 rv2 x0_ x1_ hm
    exfalso
    omega
  | succ mn ih =>
    intro v2 rv2 x0_ x1_ hm
    rw [L_185_s14x_s0]
    obtain ⟨y1, hy1⟩ : ∃ z : Int32, z = pj_fi G0 171 17 := ⟨_, rfl⟩
    have ey1 : (pj_fi G0 171 17).toInt = y1.toInt := by rw [hy1]
    have ry1 : (0 : Int) ≤ y1.toInt ∧ y1.toInt ≤ 80 := by rw [hy1]; exact hI.2.1 171 17 (0, 80) rfl
    obtain ⟨y2, hy2⟩ : ∃ z : Int32, z = pj_fi G0 171 18 := ⟨_, rfl⟩
    have ey2 : (pj_fi G0 171 18).toInt = y2.toInt := by rw [hy2]
    have ry2 : (0 : Int) ≤ y2.toInt ∧ y2.toInt ≤ 80 := by rw [hy2]; exact hI.2.1 171 18 (0, 80) rfl
    refine pj_X_of (fun r h => pj_R_to (G0, 4, [(0, .ref 171), (1, .retAddr 14), (2, .int v2)], [.retAddr 14, .int v2], 0, 0) 4 3 (fun _ => rfl) h) ?_
    have q3 : (pj_fi G0 171 17).toInt = y1.toInt := by rw [show pj_fi G0 171 17 = y1 from hy1.symm]
    have q4 : (pj_fi G0 171 18).toInt = y2.toInt := by rw [show pj_fi G0 171 18 = y2 from hy2.symm]
    refine pj_X_ca (vs := [.retAddr 14]) rfl (fun _ => rfl) ⟨Nat.le_of_ble_eq_true rfl, Nat.le_of_ble_eq_true rfl, rfl⟩ ⟨rfl, rfl⟩ (pj_Y_up (by decide) (ct_288_s14x G0 hI)) ?_
    rintro _ _ ⟨y5, rfl, rfl, ry5, fy5⟩
    rw [← fy5, pj_nm_e]
    show pj_X _ _ G0 7 [(0, .ref 171), (1, .retAddr 14), (2, .int v2)] [.int y5, .int v2] _
    cases b6 : pj_c1 .ge v2 y5 with
    | true =>
      rw [pj_cT]
      have ub6 := pj_u_geT b6
      refine pj_X_of (fun r h => pj_R_icT 46 rfl rfl b6 h) ?_
      refine pj_X_of (fun r h => pj_R_to (G0, 47, [(0, .ref 171), (1, .retAddr 14), (2, .int v2)], [.int (Int32.ofInt (-1))], 0, 0) 47 2 (fun _ => rfl) h) ?_
      have q7 : (pj_fi G0 171 17).toInt = y1.toInt := by rw [show pj_fi G0 171 17 = y1 from hy1.symm]
      have q8 : (pj_fi G0 171 18).toInt = y2.toInt := by rw [show pj_fi G0 171 18 = y2 from hy2.symm]
      exact pj_X_rt rfl rfl ⟨_, rfl, rfl, ⟨by omega, by omega⟩, (fun H hH => by subst hH; exact (⟨by omega, by omega⟩)), rfl⟩
    | false =>
      rw [pj_cF]
      have ub6 := pj_u_geF b6
      refine pj_X_of (fun r h => pj_R_icF rfl b6 h) ?_
      refine pj_X_of (fun r h => pj_R_to (G0, 11, [(0, .ref 171), (1, .retAddr 14), (2, .int v2)], [.ref 171], 0, 0) 11 2 (fun _ => rfl) h) ?_
      refine pj_X_of (fun r h => pj_T_gi hI rfl rfl h) ?_
      show pj_X _ _ G0 14 [(0, .ref 171), (1, .retAddr 14), (2, .int v2)] [.int (pj_fi G0 171 17)] _
      rw [← hy1, pj_nm_e]
      refine pj_X_of (fun r h => pj_R_to (G0, 15, [(0, .ref 171), (1, .retAddr 14), (2, .int v2)], [.ref 171, .int y1], 0, 0) 15 2 (fun _ => rfl) h) ?_
      refine pj_X_of (fun r h => pj_T_gi hI rfl rfl h) ?_
      show pj_X _ _ G0 18 [(0, .ref 171), (1, .retAddr 14), (2, .int v2)] [.int (pj_fi G0 171 18), .int y1] _
      rw [← hy2, pj_nm_e]
      cases b9 : pj_c1 .ge y1 y2 with
      | true =>
        rw [pj_cT]
        have ub9 := pj_u_geT b9
        refine pj_X_of (fun r h => pj_R_icT 46 rfl rfl b9 h) ?_
        refine pj_X_of (fun r h => pj_R_to (G0, 47, [(0, .ref 171), (1, .retAddr 14), (2, .int v2)], [.int (Int32.ofInt (-1))], 0, 0) 47 2 (fun _ => rfl) h) ?_
        have q10 : (pj_fi G0 171 17).toInt = y1.toInt := by rw [show pj_fi G0 171 17 = y1 from hy1.symm]
        have q11 : (pj_fi G0 171 18).toInt = y2.toInt := by rw [show pj_fi G0 171 18 = y2 from hy2.symm]
        exact pj_X_rt rfl rfl ⟨_, rfl, rfl, ⟨by omega, by omega⟩, (fun H hH => by subst hH; exact (⟨by omega, by omega⟩)), rfl⟩
      | false =>
        rw [pj_cF]
        have ub9 := pj_u_geF b9
        refine pj_X_of (fun r h => pj_R_icF rfl b9 h) ?_
        refine pj_X_of (fun r h => pj_R_to (G0, 23, [(0, .ref 171), (1, .retAddr 14), (2, .int v2)], [.int v2, .retAddr 14], 0, 0) 23 3 (fun _ => rfl) h) ?_
        have q12 : (pj_fi G0 171 17).toInt = y1.toInt := by rw [show pj_fi G0 171 17 = y1 from hy1.symm]
        have q13 : (pj_fi G0 171 18).toInt = y2.toInt := by rw [show pj_fi G0 171 18 = y2 from hy2.symm]
        refine pj_X_ca (vs := [.retAddr 14, .int v2]) rfl (fun _ => rfl) ⟨Nat.le_of_ble_eq_true rfl, Nat.le_of_ble_eq_true rfl, rfl⟩ ⟨rfl, rfl⟩ (pj_Y_up (by decide) (ct_289_s14x G0 hI v2 ⟨by omega, by omega⟩)) ?_
        rintro _ _ ⟨y14, rfl, rfl, ry14, ey14, fy14⟩
        rw [← fy14, pj_nm_e]
        show pj_X _ _ G0 26 [(0, .ref 171), (1, .retAddr 14), (2, .int v2)] [.int y14] _
        refine pj_X_of (fun r h => pj_R_to (G0, 27, [(0, .ref 171), (1, .retAddr 14), (2, .int v2)], [.ref 171, .int y14], 0, 0) 27 2 (fun _ => rfl) h) ?_
        refine pj_X_of (fun r h => pj_T_gr hI rfl rfl rfl h) ?_
        refine pj_X_of (fun r h => pj_R_to (G0, 31, [(0, .ref 171), (1, .retAddr 14), (2, .int v2)], [.ref 171, .ref 180, .int y14], 0, 0) 31 2 (fun _ => rfl) h) ?_
        refine pj_X_of (fun r h => pj_T_gi hI rfl rfl h) ?_
        show pj_X _ _ G0 34 [(0, .ref 171), (1, .retAddr 14), (2, .int v2)] [.int (pj_fi G0 171 17), .ref 180, .int y14] _
        refine pj_X_eqi (show pj_fi G0 171 17 = y1 from hy1.symm) ?_
        refine pj_X_of (fun r h => pj_T_il hI rfl rfl (by omega) (by omega) h) ?_
        show pj_X _ _ G0 35 [(0, .ref 171), (1, .retAddr 14), (2, .int v2)] [.int (pj_ai G0 180 y1.toInt.toNat), .int y14] _
        obtain ⟨z15, hz15⟩ : ∃ z : Int32, z = pj_ai G0 180 y1.toInt.toNat := ⟨_, rfl⟩
        refine pj_X_eqi hz15.symm ?_
        rw [← hz15, pj_nm_e]
        have ez15 : (pj_ai G0 180 y1.toInt.toNat).toInt = z15.toInt := by rw [hz15]
        have fz15_0 : (0 : Int) ≤ z15.toInt ∧ z15.toInt ≤ 255 ∧ (z15.toInt ≤ 0 ∨ 0 ≤ z15.toInt) := by rw [hz15]; exact hI.2.2.1 180 (80, 0, 255, 0, 0) rfl _ (by show _ < 80; omega)
        have gz15 : (pj_ai G0 180 (pj_fi G0 171 17).toInt.toNat).toInt = z15.toInt := by rw [show pj_fi G0 171 17 = y1 from hy1.symm, hz15]
        cases b16 : pj_c1 .ne y14 z15 with
        | true =>
          rw [pj_cT]
          have ub16 := pj_u_neT b16
          refine pj_X_of (fun r h => pj_R_icT 40 rfl rfl b16 h) ?_
          refine pj_X_of (fun r h => pj_R_to (G0, 43, [(2, .int (v2 + Int32.ofInt 1)), (0, .ref 171), (1, .retAddr 14)], [], 0, 0) 43 2 (fun _ => rfl) h) ?_
          obtain ⟨z17, hz17⟩ : ∃ z : Int32, z = v2 + Int32.ofInt 1 := ⟨_, rfl⟩
          rw [← hz17]
          rw [pj_nm_e]
          have fz17_0 : z17.toInt = v2.toInt + (Int32.ofInt 1).toInt := by rw [hz17]; exact pj_addI (by have := pj_i32 v2; have := pj_i32 (Int32.ofInt 1); omega) (by have := pj_i32 v2; have := pj_i32 (Int32.ofInt 1); omega)
          refine pj_X_of (fun r h => pj_R_to (G0, 2, [(2, .int z17), (0, .ref 171), (1, .retAddr 14)], [], 0, 0) 2 2 (fun _ => rfl) h) ?_
          have q18 : (pj_fi G0 171 17).toInt = y1.toInt := by rw [show pj_fi G0 171 17 = y1 from hy1.symm]
          have q19 : (pj_fi G0 171 18).toInt = y2.toInt := by rw [show pj_fi G0 171 18 = y2 from hy2.symm]
          exact pj_X_sub [(0, .ref 171), (1, .retAddr 14), (2, .int z17)] (show List.Nodup [0, 1, 2] by decide) ⟨rfl, rfl, rfl, trivial⟩ (ih z17 ⟨by omega, by omega⟩ (by omega) (by omega) (by omega))
        | false =>
          rw [pj_cF]
          have ub16 := pj_u_neF b16
          refine pj_X_of (fun r h => pj_R_icF rfl b16 h) ?_
          refine pj_X_of (fun r h => pj_R_to (G0, 39, [(0, .ref 171), (1, .retAddr 14), (2, .int v2)], [.int v2], 0, 0) 39 2 (fun _ => rfl) h) ?_
          have q20 : (pj_fi G0 171 17).toInt = y1.toInt := by rw [show pj_fi G0 171 17 = y1 from hy1.symm]
          have q21 : (pj_fi G0 171 18).toInt = y2.toInt := by rw [show pj_fi G0 171 18 = y2 from hy2.symm]
          exact pj_X_rt rfl rfl ⟨_, rfl, rfl, ⟨by omega, by omega⟩, (fun H hH => by subst hH; exact (⟨by omega, by omega⟩)), rfl⟩
theorem ct_184_s14x (G0 : pj_G) (hI : pj_Inv G0) : pj_Y 15 184 [.ref 171, .retAddr 14] G0 (fun v' G' => ∃ y : Int32, v' = some (.int y) ∧ G0 = G' ∧ ((-1 : Int) ≤ y.toInt ∧ y.toInt ≤ 1) ∧ (∀ H, G0 = H → ((0 ≤ y.toInt → (pj_fi H 171 17).toInt < (pj_fi H 171 18).toInt) ∧ ((((pj_fi H 171 17).toInt < (pj_fi H 171 18).toInt) ∧ (pj_ai H 180 (pj_fi H 171 17).toInt.toNat).toInt = 42 → y.toInt = 0) ∧ (((pj_fi H 171 17).toInt < (pj_fi H 171 18).toInt) ∧ (pj_ai H 180 (pj_fi H 171 17).toInt.toNat).toInt = 47 → y.toInt = 1) ∧ (¬ (((pj_fi H 171 17).toInt < (pj_fi H 171 18).toInt) ∧ ((pj_ai H 180 (pj_fi H 171 17).toInt.toNat).toInt = 42 ∨ (pj_ai H 180 (pj_fi H 171 17).toInt.toNat).toInt = 47)) → y.toInt = -1)))) ∧ (y = F_185_s14x G0)) := by
  have c0_ : (Int32.ofInt (-1)).toInt = -1 := by decide
  have c1_ : (Int32.ofInt 0).toInt = 0 := by decide
  have c2_ : (Int32.ofInt 1).toInt = 1 := by decide
  refine pj_Y_X (M := pj_m184) rfl rfl (Nat.le_of_ble_eq_true rfl) ?_
  have hK : pj_kpt ([], [], []) G0 G0 := pj_kpt_r _ _
  show pj_X _ _ G0 0 [(0, .ref 171), (1, .retAddr 14)] [] _
  rw [F_185_s14x_e]
  obtain ⟨y22, hy22⟩ : ∃ z : Int32, z = pj_fi G0 171 17 := ⟨_, rfl⟩
  have ey22 : (pj_fi G0 171 17).toInt = y22.toInt := by rw [hy22]
  have ry22 : (0 : Int) ≤ y22.toInt ∧ y22.toInt ≤ 80 := by rw [hy22]; exact hI.2.1 171 17 (0, 80) rfl
  obtain ⟨y23, hy23⟩ : ∃ z : Int32, z = pj_fi G0 171 18 := ⟨_, rfl⟩
  have ey23 : (pj_fi G0 171 18).toInt = y23.toInt := by rw [hy23]
  have ry23 : (0 : Int) ≤ y23.toInt ∧ y23.toInt ≤ 80 := by rw [hy23]; exact hI.2.1 171 18 (0, 80) rfl
  refine pj_X_of (fun r h => pj_R_to (G0, 2, [(2, .int (Int32.ofInt 0)), (0, .ref 171), (1, .retAddr 14)], [], 0, 0) 2 3 (fun _ => rfl) h) ?_
  have q24 : (pj_fi G0 171 17).toInt = y22.toInt := by rw [show pj_fi G0 171 17 = y22 from hy22.symm]
  have q25 : (pj_fi G0 171 18).toInt = y23.toInt := by rw [show pj_fi G0 171 18 = y23 from hy23.symm]
  exact pj_X_sub [(0, .ref 171), (1, .retAddr 14), (2, .int (Int32.ofInt 0))] (show List.Nodup [0, 1, 2] by decide) ⟨rfl, rfl, rfl, trivial⟩ ((lp_ct_184_s14x G0 hI   3) (Int32.ofInt 0) ⟨by omega, by omega⟩ (by omega) (by omega) (by omega))
theorem fr_185_s14x (G0 : pj_G) (hI : pj_Inv G0) : ((-1 : Int) ≤ (F_185_s14x G0).toInt ∧ (F_185_s14x G0).toInt ≤ 1) ∧ ((0 ≤ (F_185_s14x G0).toInt → (pj_fi G0 171 17).toInt < (pj_fi G0 171 18).toInt) ∧ ((((pj_fi G0 171 17).toInt < (pj_fi G0 171 18).toInt) ∧ (pj_ai G0 180 (pj_fi G0 171 17).toInt.toNat).toInt = 42 → (F_185_s14x G0).toInt = 0) ∧ (((pj_fi G0 171 17).toInt < (pj_fi G0 171 18).toInt) ∧ (pj_ai G0 180 (pj_fi G0 171 17).toInt.toNat).toInt = 47 → (F_185_s14x G0).toInt = 1) ∧ (¬ (((pj_fi G0 171 17).toInt < (pj_fi G0 171 18).toInt) ∧ ((pj_ai G0 180 (pj_fi G0 171 17).toInt.toNat).toInt = 42 ∨ (pj_ai G0 180 (pj_fi G0 171 17).toInt.toNat).toInt = 47)) → (F_185_s14x G0).toInt = -1))) := by
  obtain ⟨v, G', -, y, -, rfl, r, x, e⟩ := ct_184_s14x G0 hI 
  rw [← e]
  exact ⟨r, x _ rfl⟩
def kc_185_s14x : pj_KT := ([(171, 17)], [171], [])
noncomputable def F_186_s14x (G0 : pj_G) : Int32 × pj_G := pj_nm (F_185_s14x G0) (fun y5 => pj_nm (pj_fi G0 171 17) (fun y1 => cond (pj_c1 .lt y5 0) (pj_nm (F_173x G0 (Int32.ofInt 0)) (fun y9 => pj_nm (y1 + y9) (fun z10 => pj_nm (pj_wv G0 171 17 (.int z10)) (fun G11 => (y5, G11))))) (pj_nm (F_173x G0 (Int32.ofInt 1)) (fun y16 => pj_nm (y1 + y16) (fun z17 => pj_nm (pj_wv G0 171 17 (.int z17)) (fun G18 => (y5, G18)))))))
theorem F_186_s14x_e (G0 : pj_G) : F_186_s14x G0 = pj_nm (F_185_s14x G0) (fun y5 => pj_nm (pj_fi G0 171 17) (fun y1 => cond (pj_c1 .lt y5 0) (pj_nm (F_173x G0 (Int32.ofInt 0)) (fun y9 => pj_nm (y1 + y9) (fun z10 => pj_nm (pj_wv G0 171 17 (.int z10)) (fun G11 => (y5, G11))))) (pj_nm (F_173x G0 (Int32.ofInt 1)) (fun y16 => pj_nm (y1 + y16) (fun z17 => pj_nm (pj_wv G0 171 17 (.int z17)) (fun G18 => (y5, G18))))))) := rfl
theorem ct_185_s14x (G0 : pj_G) (hI : pj_Inv G0) : pj_Y 16 185 [.ref 171, .retAddr 14] G0 (fun v' G' => ∃ y : Int32, v' = some (.int y) ∧ pj_Inv G' ∧ pj_kpt kc_185_s14x G0 G' ∧ ((-1 : Int) ≤ y.toInt ∧ y.toInt ≤ 1) ∧ (∀ H, G0 = H → (((0 ≤ y.toInt → (pj_fi G' 171 17).toInt = (pj_fi H 171 17).toInt + 1 ∧ (pj_fi H 171 17).toInt < (pj_fi H 171 18).toInt) ∧ (y.toInt < 0 → (pj_fi G' 171 17).toInt = (pj_fi H 171 17).toInt)) ∧ ((((pj_fi H 171 17).toInt < (pj_fi H 171 18).toInt) ∧ (pj_ai H 180 (pj_fi H 171 17).toInt.toNat).toInt = 42 → y.toInt = 0 ∧ (pj_fi G' 171 17).toInt = (pj_fi H 171 17).toInt + 1) ∧ (((pj_fi H 171 17).toInt < (pj_fi H 171 18).toInt) ∧ (pj_ai H 180 (pj_fi H 171 17).toInt.toNat).toInt = 47 → y.toInt = 1 ∧ (pj_fi G' 171 17).toInt = (pj_fi H 171 17).toInt + 1) ∧ (¬ (((pj_fi H 171 17).toInt < (pj_fi H 171 18).toInt) ∧ ((pj_ai H 180 (pj_fi H 171 17).toInt.toNat).toInt = 42 ∨ (pj_ai H 180 (pj_fi H 171 17).toInt.toNat).toInt = 47)) → y.toInt = -1 ∧ (pj_fi G' 171 17).toInt = (pj_fi H 171 17).toInt)))) ∧ ((y, G') = F_186_s14x G0)) := by
  have c0_ : (Int32.ofInt 0).toInt = 0 := by decide
  have c1_ : (Int32.ofInt 1).toInt = 1 := by decide
  refine pj_Y_X (M := pj_m185) rfl rfl (Nat.le_of_ble_eq_true rfl) ?_
  have hK : pj_kpt kc_185_s14x G0 G0 := pj_kpt_r _ _
  show pj_X _ _ G0 0 [(0, .ref 171), (1, .retAddr 14)] [] _
  rw [F_186_s14x_e]
  obtain ⟨y1, hy1⟩ : ∃ z : Int32, z = pj_fi G0 171 17 := ⟨_, rfl⟩
  have ey1 : (pj_fi G0 171 17).toInt = y1.toInt := by rw [hy1]
  have ry1 : (0 : Int) ≤ y1.toInt ∧ y1.toInt ≤ 80 := by rw [hy1]; exact hI.2.1 171 17 (0, 80) rfl
  obtain ⟨y2, hy2⟩ : ∃ z : Int32, z = pj_fi G0 171 18 := ⟨_, rfl⟩
  have ey2 : (pj_fi G0 171 18).toInt = y2.toInt := by rw [hy2]
  have ry2 : (0 : Int) ≤ y2.toInt ∧ y2.toInt ≤ 80 := by rw [hy2]; exact hI.2.1 171 18 (0, 80) rfl
  refine pj_X_of (fun r h => pj_R_to (G0, 2, [(0, .ref 171), (1, .retAddr 14)], [.retAddr 14, .ref 171], 0, 0) 2 3 (fun _ => rfl) h) ?_
  have q3 : (pj_fi G0 171 17).toInt = y1.toInt := by rw [show pj_fi G0 171 17 = y1 from hy1.symm]
  have q4 : (pj_fi G0 171 18).toInt = y2.toInt := by rw [show pj_fi G0 171 18 = y2 from hy2.symm]
  refine pj_X_ca (vs := [.ref 171, .retAddr 14]) rfl (fun _ => rfl) ⟨Nat.le_of_ble_eq_true rfl, Nat.le_of_ble_eq_true rfl, pj_T_rcv hI rfl⟩ ⟨rfl, rfl⟩ (pj_Y_up (by decide) (ct_184_s14x G0 hI)) ?_
  rintro _ _ ⟨y5, rfl, rfl, ry5, ey5, fy5⟩
  replace ey5 := ey5 _ rfl
  rw [← fy5, pj_nm_e]
  show pj_X _ _ G0 5 [(0, .ref 171), (1, .retAddr 14)] [.int y5] _
  refine pj_X_of (fun r h => pj_R_to (G0, 8, [(2, .int y5), (0, .ref 171), (1, .retAddr 14)], [.ref 171, .ref 171], 0, 0) 8 4 (fun _ => rfl) h) ?_
  refine pj_X_of (fun r h => pj_T_gi hI rfl rfl h) ?_
  show pj_X _ _ G0 11 [(2, .int y5), (0, .ref 171), (1, .retAddr 14)] [.int (pj_fi G0 171 17), .ref 171] _
  rw [← hy1, pj_nm_e]
  refine pj_X_of (fun r h => pj_R_to (G0, 12, [(2, .int y5), (0, .ref 171), (1, .retAddr 14)], [.int y5, .int y1, .ref 171], 0, 0) 12 2 (fun _ => rfl) h) ?_
  cases b6 : pj_c1 .lt y5 0 with
  | true =>
    rw [pj_cT]
    have ub6 := pj_u0_ltT b6
    refine pj_X_of (fun r h => pj_R_ifT 19 rfl rfl b6 h) ?_
    refine pj_X_of (fun r h => pj_R_to (G0, 20, [(2, .int y5), (0, .ref 171), (1, .retAddr 14)], [.int (Int32.ofInt 0), .int y1, .ref 171], 0, 0) 20 2 (fun _ => rfl) h) ?_
    have q7 : (pj_fi G0 171 17).toInt = y1.toInt := by rw [show pj_fi G0 171 17 = y1 from hy1.symm]
    have q8 : (pj_fi G0 171 18).toInt = y2.toInt := by rw [show pj_fi G0 171 18 = y2 from hy2.symm]
    refine pj_X_ca (vs := [.int (Int32.ofInt 0)]) rfl (fun _ => rfl) ⟨Nat.le_of_ble_eq_true rfl, Nat.le_of_ble_eq_true rfl, rfl⟩ ⟨rfl, rfl⟩ (pj_Y_up (by decide) (ct_172x G0 hI (Int32.ofInt 0) ⟨by omega, by omega⟩)) ?_
    rintro _ _ ⟨y9, rfl, rfl, ry9, ey9, fy9⟩
    rw [← fy9, pj_nm_e]
    show pj_X _ _ G0 23 [(2, .int y5), (0, .ref 171), (1, .retAddr 14)] [.int y9, .int y1, .ref 171] _
    refine pj_X_of (fun r h => pj_R_to (G0, 24, [(2, .int y5), (0, .ref 171), (1, .retAddr 14)], [.int (y1 + y9), .ref 171], 0, 0) 24 2 (fun _ => rfl) h) ?_
    obtain ⟨z10, hz10⟩ : ∃ z : Int32, z = y1 + y9 := ⟨_, rfl⟩
    refine pj_X_eqi hz10.symm ?_
    rw [← hz10, pj_nm_e]
    have fz10_0 : z10.toInt = y1.toInt + y9.toInt := by rw [hz10]; exact pj_addI (by have := pj_i32 y1; have := pj_i32 y9; omega) (by have := pj_i32 y1; have := pj_i32 y9; omega)
    refine pj_X_of (fun r h => pj_T_pf hI rfl rfl rfl h) ?_
    show pj_X _ _ (pj_wv G0 171 17 (.int z10)) 27 [(2, .int y5), (0, .ref 171), (1, .retAddr 14)] [] _
    obtain ⟨G11, hG11⟩ : ∃ H, H = pj_wv G0 171 17 (.int z10) := ⟨_, rfl⟩
    have iG11 : pj_Inv G11 := by rw [hG11]; exact pj_Inv_wi hI (ci := 12) rfl (fun q hq => by cases hq; exact ⟨by show (0 : Int) ≤ _; omega, by show _ ≤ (80 : Int); omega⟩)
    have kG11 : pj_kpt kc_185_s14x G0 G11 := by rw [hG11]; exact pj_kpt_v hK rfl
    rw [← hG11]
    rw [pj_nm_e]
    refine pj_X_of (fun r h => pj_R_to (G11, 28, [(2, .int y5), (0, .ref 171), (1, .retAddr 14)], [.int y5], 0, 0) 28 2 (fun _ => rfl) h) ?_
    have q12 : (pj_fi G11 171 17).toInt = z10.toInt := by rw [show pj_fi G11 171 17 = z10 from by rw [hG11]; exact pj_fi_wi hI.1 (ci := 12) rfl _]
    have q13 : (pj_fi G11 171 18).toInt = y2.toInt := by rw [show pj_fi G11 171 18 = y2 from by rw [hG11, pj_fi_wv_ne _ _ _ _ _ _ (by decide)]; exact hy2.symm]
    exact pj_X_rt rfl rfl ⟨_, rfl, iG11, kG11, ⟨by omega, by omega⟩, (fun H hH => by subst hH; exact (⟨by omega, by omega⟩)), rfl⟩
  | false =>
    rw [pj_cF]
    have ub6 := pj_u0_ltF b6
    refine pj_X_of (fun r h => pj_R_ifF rfl b6 h) ?_
    refine pj_X_of (fun r h => pj_R_to (G0, 20, [(2, .int y5), (0, .ref 171), (1, .retAddr 14)], [.int (Int32.ofInt 1), .int y1, .ref 171], 0, 0) 20 3 (fun _ => rfl) h) ?_
    have q14 : (pj_fi G0 171 17).toInt = y1.toInt := by rw [show pj_fi G0 171 17 = y1 from hy1.symm]
    have q15 : (pj_fi G0 171 18).toInt = y2.toInt := by rw [show pj_fi G0 171 18 = y2 from hy2.symm]
    refine pj_X_ca (vs := [.int (Int32.ofInt 1)]) rfl (fun _ => rfl) ⟨Nat.le_of_ble_eq_true rfl, Nat.le_of_ble_eq_true rfl, rfl⟩ ⟨rfl, rfl⟩ (pj_Y_up (by decide) (ct_172x G0 hI (Int32.ofInt 1) ⟨by omega, by omega⟩)) ?_
    rintro _ _ ⟨y16, rfl, rfl, ry16, ey16, fy16⟩
    rw [← fy16, pj_nm_e]
    show pj_X _ _ G0 23 [(2, .int y5), (0, .ref 171), (1, .retAddr 14)] [.int y16, .int y1, .ref 171] _
    refine pj_X_of (fun r h => pj_R_to (G0, 24, [(2, .int y5), (0, .ref 171), (1, .retAddr 14)], [.int (y1 + y16), .ref 171], 0, 0) 24 2 (fun _ => rfl) h) ?_
    obtain ⟨z17, hz17⟩ : ∃ z : Int32, z = y1 + y16 := ⟨_, rfl⟩
    refine pj_X_eqi hz17.symm ?_
    rw [← hz17, pj_nm_e]
    have fz17_0 : z17.toInt = y1.toInt + y16.toInt := by rw [hz17]; exact pj_addI (by have := pj_i32 y1; have := pj_i32 y16; omega) (by have := pj_i32 y1; have := pj_i32 y16; omega)
    refine pj_X_of (fun r h => pj_T_pf hI rfl rfl rfl h) ?_
    show pj_X _ _ (pj_wv G0 171 17 (.int z17)) 27 [(2, .int y5), (0, .ref 171), (1, .retAddr 14)] [] _
    obtain ⟨G18, hG18⟩ : ∃ H, H = pj_wv G0 171 17 (.int z17) := ⟨_, rfl⟩
    have iG18 : pj_Inv G18 := by rw [hG18]; exact pj_Inv_wi hI (ci := 12) rfl (fun q hq => by cases hq; exact ⟨by show (0 : Int) ≤ _; omega, by show _ ≤ (80 : Int); omega⟩)
    have kG18 : pj_kpt kc_185_s14x G0 G18 := by rw [hG18]; exact pj_kpt_v hK rfl
    rw [← hG18]
    rw [pj_nm_e]
    refine pj_X_of (fun r h => pj_R_to (G18, 28, [(2, .int y5), (0, .ref 171), (1, .retAddr 14)], [.int y5], 0, 0) 28 2 (fun _ => rfl) h) ?_
    have q19 : (pj_fi G18 171 17).toInt = z17.toInt := by rw [show pj_fi G18 171 17 = z17 from by rw [hG18]; exact pj_fi_wi hI.1 (ci := 12) rfl _]
    have q20 : (pj_fi G18 171 18).toInt = y2.toInt := by rw [show pj_fi G18 171 18 = y2 from by rw [hG18, pj_fi_wv_ne _ _ _ _ _ _ (by decide)]; exact hy2.symm]
    exact pj_X_rt rfl rfl ⟨_, rfl, iG18, kG18, ⟨by omega, by omega⟩, (fun H hH => by subst hH; exact (⟨by omega, by omega⟩)), rfl⟩
theorem fr_186_s14x (G0 : pj_G) (hI : pj_Inv G0) : pj_Inv (F_186_s14x G0).2 ∧ pj_kpt kc_185_s14x G0 (F_186_s14x G0).2 ∧ ((-1 : Int) ≤ (F_186_s14x G0).1.toInt ∧ (F_186_s14x G0).1.toInt ≤ 1) ∧ (((0 ≤ (F_186_s14x G0).1.toInt → (pj_fi (F_186_s14x G0).2 171 17).toInt = (pj_fi G0 171 17).toInt + 1 ∧ (pj_fi G0 171 17).toInt < (pj_fi G0 171 18).toInt) ∧ ((F_186_s14x G0).1.toInt < 0 → (pj_fi (F_186_s14x G0).2 171 17).toInt = (pj_fi G0 171 17).toInt)) ∧ ((((pj_fi G0 171 17).toInt < (pj_fi G0 171 18).toInt) ∧ (pj_ai G0 180 (pj_fi G0 171 17).toInt.toNat).toInt = 42 → (F_186_s14x G0).1.toInt = 0 ∧ (pj_fi (F_186_s14x G0).2 171 17).toInt = (pj_fi G0 171 17).toInt + 1) ∧ (((pj_fi G0 171 17).toInt < (pj_fi G0 171 18).toInt) ∧ (pj_ai G0 180 (pj_fi G0 171 17).toInt.toNat).toInt = 47 → (F_186_s14x G0).1.toInt = 1 ∧ (pj_fi (F_186_s14x G0).2 171 17).toInt = (pj_fi G0 171 17).toInt + 1) ∧ (¬ (((pj_fi G0 171 17).toInt < (pj_fi G0 171 18).toInt) ∧ ((pj_ai G0 180 (pj_fi G0 171 17).toInt.toNat).toInt = 42 ∨ (pj_ai G0 180 (pj_fi G0 171 17).toInt.toNat).toInt = 47)) → (F_186_s14x G0).1.toInt = -1 ∧ (pj_fi (F_186_s14x G0).2 171 17).toInt = (pj_fi G0 171 17).toInt))) := by
  obtain ⟨v, G', -, y, -, i, j, r, x, e⟩ := ct_185_s14x G0 hI 
  rw [← e]
  exact ⟨i, j, r, x _ rfl⟩
