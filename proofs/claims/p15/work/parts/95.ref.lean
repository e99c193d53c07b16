def kc_242_10 : pj_KT := ([], [], [])
theorem ct_242_10 (G0 : pj_G) (hI : pj_Inv G0) (th : Int32) (c : Int32) (us : Int32) (my : Int32) (rc : (10 : Int) ≤ c.toInt ∧ c.toInt ≤ 10) (rmy : (0 : Int) ≤ my.toInt ∧ my.toInt ≤ 10) (p0_ : c.toInt ≤ (pj_fi G0 171 4).toInt) : pj_Y 3 242 [.ref 171, .int th, .int c, .int us, .int my] G0 (fun v G' => ∃ y : Int32, v = some (.int y) ∧ pj_Inv G' ∧ pj_kpt kc_242_10 G0 G' ∧ ((0 : Int) ≤ y.toInt ∧ y.toInt ≤ 1)) := by
  have c0_ : (Int32.ofInt 1).toInt = 1 := by decide
  refine pj_Y_X (M := pj_m242) rfl rfl (Nat.le_of_ble_eq_true rfl) ?_
  have hK : pj_kpt kc_242_10 G0 G0 := pj_kpt_r _ _
  show pj_X _ _ G0 0 [(0, .ref 171), (1, .int th), (2, .int c), (3, .int us), (4, .int my)] [] _
  obtain ⟨y1, hy1⟩ : ∃ z : Int32, z = pj_fi G0 171 4 := ⟨_, rfl⟩
  have ey1 : (pj_fi G0 171 4).toInt = y1.toInt := by rw [hy1]
  have ry1 : (0 : Int) ≤ y1.toInt ∧ y1.toInt ≤ 10 := by rw [hy1]; exact hI.2.1 171 4 (0, 10) rfl
  refine pj_X_of (fun r h => pj_R_to (G0, 2, [(0, .ref 171), (1, .int th), (2, .int c), (3, .int us), (4, .int my)], [.ref 171, .int c], 0, 0) 2 3 (fun _ => rfl) h) ?_
  refine pj_X_of (fun r h => pj_T_gi hI rfl rfl h) ?_
  show pj_X _ _ G0 5 [(0, .ref 171), (1, .int th), (2, .int c), (3, .int us), (4, .int my)] [.int (pj_fi G0 171 4), .int c] _
  refine pj_X_eqi (show pj_fi G0 171 4 = y1 from hy1.symm) ?_
  refine pj_X_of (fun r h => pj_R_icF rfl (pj_b_neF (by omega)) h) ?_
  refine pj_X_of (fun r h => pj_R_to (G0, 9, [(0, .ref 171), (1, .int th), (2, .int c), (3, .int us), (4, .int my)], [.int (Int32.ofInt 1)], 0, 0) 9 2 (fun _ => rfl) h) ?_
  have q2 : (pj_fi G0 171 4).toInt = y1.toInt := by rw [show pj_fi G0 171 4 = y1 from hy1.symm]
  exact pj_X_rt rfl rfl ⟨_, rfl, hI, hK, ⟨by omega, by omega⟩⟩
def kc_242_9 : pj_KT := ([], [191], [191])
theorem lp_ct_242_9 (G0 : pj_G) (hI0 : pj_Inv G0) (th : Int32) (c : Int32) (us : Int32) (my : Int32) (rc : (9 : Int) ≤ c.toInt ∧ c.toInt ≤ 9) (rmy : (0 : Int) ≤ my.toInt ∧ my.toInt ≤ 9) (p0_ : c.toInt ≤ (pj_fi G0 171 4).toInt) : ∀ mn : Nat, (∀ (G : pj_G) (hI : pj_Inv G) (hK : pj_kpt kc_242_9 G0 G) (v5 : Int32), ((0 : Int) ≤ v5.toInt ∧ v5.toInt ≤ 6) → (c.toInt < (pj_fi G 171 4).toInt) → 6 - v5.toInt < (mn : Int) → pj_X 3 pj_m242 G 33 [(0, .ref 171), (1, .int th), (2, .int c), (3, .int us), (4, .int my), (5, .int v5)] [] (fun v G' => ∃ y : Int32, v = some (.int y) ∧ pj_Inv G' ∧ pj_kpt kc_242_9 G0 G' ∧ ((0 : Int) ≤ y.toInt ∧ y.toInt ≤ 1))) := by
  have c0_ : (Int32.ofInt 0).toInt = 0 := by decide
  have c1_ : (Int32.ofInt 1).toInt = 1 := by decide
  intro mn
  induction mn with
  | zero =>
    intro G hI hK v5 rv5 x0_ hm
    exfalso
    omega
  | succ mn ih =>
    intro G hI hK v5 rv5 x0_ hm
    obtain ⟨y1, hy1⟩ : ∃ z : Int32, z = pj_fi G 171 4 := ⟨_, rfl⟩
    have ey1 : (pj_fi G 171 4).toInt = y1.toInt := by rw [hy1]
    have ry1 : (0 : Int) ≤ y1.toInt ∧ y1.toInt ≤ 10 := by rw [hy1]; exact hI.2.1 171 4 (0, 10) rfl
    refine pj_X_of (fun r h => pj_R_to (G, 36, [(0, .ref 171), (1, .int th), (2, .int c), (3, .int us), (4, .int my), (5, .int v5)], [.ref 171, .int v5], 0, 0) 36 3 (fun _ => rfl) h) ?_
    refine pj_X_of (fun r h => pj_T_gi hI rfl rfl h) ?_
    show pj_X _ _ G 39 [(0, .ref 171), (1, .int th), (2, .int c), (3, .int us), (4, .int my), (5, .int v5)] [.int (pj_fi G 171 5), .int v5] _
    obtain ⟨y2, hy2⟩ : ∃ z : Int32, z = pj_fi G 171 5 := ⟨_, rfl⟩
    refine pj_X_eqi hy2.symm ?_
    have ey2 : (pj_fi G 171 5).toInt = y2.toInt := by rw [hy2]
    have ry2 : (0 : Int) ≤ y2.toInt ∧ y2.toInt ≤ 6 := by rw [hy2]; exact hI.2.1 171 5 (0, 6) rfl
    cases b3 : pj_c1 .ge v5 y2 with
    | true =>
      have ub3 := pj_u_geT b3
      refine pj_X_of (fun r h => pj_R_icT 105 rfl rfl b3 h) ?_
      refine pj_X_of (fun r h => pj_R_to (G, 106, [(0, .ref 171), (1, .int th), (2, .int c), (3, .int us), (4, .int my), (5, .int v5)], [.int (Int32.ofInt 0)], 0, 0) 106 2 (fun _ => rfl) h) ?_
      have q4 : (pj_fi G 171 4).toInt = y1.toInt := by rw [show pj_fi G 171 4 = y1 from hy1.symm]
      exact pj_X_rt rfl rfl ⟨_, rfl, hI, hK, ⟨by omega, by omega⟩⟩
    | false =>
      have ub3 := pj_u_geF b3
      refine pj_X_of (fun r h => pj_R_icF rfl b3 h) ?_
      refine pj_X_of (fun r h => pj_R_to (G, 45, [(0, .ref 171), (1, .int th), (2, .int c), (3, .int us), (4, .int my), (5, .int v5)], [.int v5, .int us], 0, 0) 45 3 (fun _ => rfl) h) ?_
      have q5 : (pj_fi G 171 4).toInt = y1.toInt := by rw [show pj_fi G 171 4 = y1 from hy1.symm]
      refine pj_X_ca (vs := [.int us, .int v5]) rfl (fun _ => rfl) ⟨Nat.le_of_ble_eq_true rfl, Nat.le_of_ble_eq_true rfl, rfl⟩ ⟨rfl, rfl⟩ (pj_Y_up (by decide) (ct_171bx G hI us v5)) ?_
      rintro _ _ ⟨y6, rfl, rfl, ry6, ey6, fy6⟩
      show pj_X _ _ G 48 [(0, .ref 171), (1, .int th), (2, .int c), (3, .int us), (4, .int my), (5, .int v5)] [.int y6] _
      cases b7 : pj_c1 .ne y6 0 with
      | true =>
        have ub7 := pj_u0_neT b7
        refine pj_X_of (fun r h => pj_R_ifT 99 rfl rfl b7 h) ?_
        refine pj_X_of (fun r h => pj_R_to (G, 102, [(5, .int (v5 + Int32.ofInt 1)), (0, .ref 171), (1, .int th), (2, .int c), (3, .int us), (4, .int my)], [], 0, 0) 102 2 (fun _ => rfl) h) ?_
        obtain ⟨z8, hz8⟩ : ∃ z : Int32, z = v5 + Int32.ofInt 1 := ⟨_, rfl⟩
        rw [← hz8]
        have fz8_0 : z8.toInt = v5.toInt + (Int32.ofInt 1).toInt := by rw [hz8]; exact pj_addI (by have := pj_i32 v5; have := pj_i32 (Int32.ofInt 1); omega) (by have := pj_i32 v5; have := pj_i32 (Int32.ofInt 1); omega)
        refine pj_X_of (fun r h => pj_R_to (G, 33, [(5, .int z8), (0, .ref 171), (1, .int th), (2, .int c), (3, .int us), (4, .int my)], [], 0, 0) 33 2 (fun _ => rfl) h) ?_
        have q9 : (pj_fi G 171 4).toInt = y1.toInt := by rw [show pj_fi G 171 4 = y1 from hy1.symm]
        exact pj_X_sub [(0, .ref 171), (1, .int th), (2, .int c), (3, .int us), (4, .int my), (5, .int z8)] (show List.Nodup [0, 1, 2, 3, 4, 5] by decide) ⟨rfl, rfl, rfl, rfl, rfl, rfl, trivial⟩ (ih G hI hK z8 ⟨by omega, by omega⟩ (by omega) (by omega))
      | false =>
        have ub7 := pj_u0_neF b7
        refine pj_X_of (fun r h => pj_R_ifF rfl b7 h) ?_
        refine pj_X_of (fun r h => pj_R_to (G, 52, [(0, .ref 171), (1, .int th), (2, .int c), (3, .int us), (4, .int my), (5, .int v5)], [.ref 171], 0, 0) 52 2 (fun _ => rfl) h) ?_
        refine pj_X_of (fun r h => pj_T_gr hI rfl rfl rfl h) ?_
        refine pj_X_of (fun r h => pj_R_to (G, 57, [(0, .ref 171), (1, .int th), (2, .int c), (3, .int us), (4, .int my), (5, .int v5)], [.int v5, .ref 177], 0, 0) 57 2 (fun _ => rfl) h) ?_
        refine pj_X_of (fun r h => pj_T_il hI rfl rfl (by omega) (by omega) h) ?_
        show pj_X _ _ G 58 [(0, .ref 171), (1, .int th), (2, .int c), (3, .int us), (4, .int my), (5, .int v5)] [.int (pj_ai G 177 v5.toInt.toNat)] _
        obtain ⟨z10, hz10⟩ : ∃ z : Int32, z = pj_ai G 177 v5.toInt.toNat := ⟨_, rfl⟩
        refine pj_X_eqi hz10.symm ?_
        have ez10 : (pj_ai G 177 v5.toInt.toNat).toInt = z10.toInt := by rw [hz10]
        refine pj_X_of (fun r h => pj_R_to (G, 59, [(0, .ref 171), (1, .int th), (2, .int c), (3, .int us), (4, .int my), (5, .int v5)], [.ref 171, .int z10], 0, 0) 59 2 (fun _ => rfl) h) ?_
        refine pj_X_of (fun r h => pj_T_gr hI rfl rfl rfl h) ?_
        refine pj_X_of (fun r h => pj_R_to (G, 63, [(0, .ref 171), (1, .int th), (2, .int c), (3, .int us), (4, .int my), (5, .int v5)], [.int c, .ref 176, .int z10], 0, 0) 63 2 (fun _ => rfl) h) ?_
        refine pj_X_of (fun r h => pj_T_il hI rfl rfl (by omega) (by omega) h) ?_
        show pj_X _ _ G 64 [(0, .ref 171), (1, .int th), (2, .int c), (3, .int us), (4, .int my), (5, .int v5)] [.int (pj_ai G 176 c.toInt.toNat), .int z10] _
        obtain ⟨z11, hz11⟩ : ∃ z : Int32, z = pj_ai G 176 c.toInt.toNat := ⟨_, rfl⟩
        refine pj_X_eqi hz11.symm ?_
        have ez11 : (pj_ai G 176 c.toInt.toNat).toInt = z11.toInt := by rw [hz11]
        cases b12 : pj_c1 .lt z10 z11 with
        | true =>
          have ub12 := pj_u_ltT b12
          refine pj_X_of (fun r h => pj_R_icT 99 rfl rfl b12 h) ?_
          refine pj_X_of (fun r h => pj_R_to (G, 102, [(5, .int (v5 + Int32.ofInt 1)), (0, .ref 171), (1, .int th), (2, .int c), (3, .int us), (4, .int my)], [], 0, 0) 102 2 (fun _ => rfl) h) ?_
          obtain ⟨z13, hz13⟩ : ∃ z : Int32, z = v5 + Int32.ofInt 1 := ⟨_, rfl⟩
          rw [← hz13]
          have fz13_0 : z13.toInt = v5.toInt + (Int32.ofInt 1).toInt := by rw [hz13]; exact pj_addI (by have := pj_i32 v5; have := pj_i32 (Int32.ofInt 1); omega) (by have := pj_i32 v5; have := pj_i32 (Int32.ofInt 1); omega)
          refine pj_X_of (fun r h => pj_R_to (G, 33, [(5, .int z13), (0, .ref 171), (1, .int th), (2, .int c), (3, .int us), (4, .int my)], [], 0, 0) 33 2 (fun _ => rfl) h) ?_
          have q14 : (pj_fi G 171 4).toInt = y1.toInt := by rw [show pj_fi G 171 4 = y1 from hy1.symm]
          exact pj_X_sub [(0, .ref 171), (1, .int th), (2, .int c), (3, .int us), (4, .int my), (5, .int z13)] (show List.Nodup [0, 1, 2, 3, 4, 5] by decide) ⟨rfl, rfl, rfl, rfl, rfl, rfl, trivial⟩ (ih G hI hK z13 ⟨by omega, by omega⟩ (by omega) (by omega))
        | false =>
          have ub12 := pj_u_ltF b12
          refine pj_X_of (fun r h => pj_R_icF rfl b12 h) ?_
          refine pj_X_of (fun r h => pj_R_to (G, 68, [(0, .ref 171), (1, .int th), (2, .int c), (3, .int us), (4, .int my), (5, .int v5)], [.ref 171], 0, 0) 68 2 (fun _ => rfl) h) ?_
          refine pj_X_of (fun r h => pj_T_gr hI rfl rfl rfl h) ?_
          refine pj_X_of (fun r h => pj_R_to (G, 75, [(0, .ref 171), (1, .int th), (2, .int c), (3, .int us), (4, .int my), (5, .int v5)], [.int v5, .int my, .ref 191], 0, 0) 75 3 (fun _ => rfl) h) ?_
          refine pj_X_of (fun r h => pj_T_is hI rfl rfl (by omega) (by omega) h) ?_
          show pj_X _ _ (pj_wa G 191 my.toInt.toNat v5) 76 [(0, .ref 171), (1, .int th), (2, .int c), (3, .int us), (4, .int my), (5, .int v5)] [] _
          obtain ⟨G15, hG15⟩ : ∃ H, H = pj_wa G 191 my.toInt.toNat v5 := ⟨_, rfl⟩
          have iG15 : pj_Inv G15 := by rw [hG15]; exact pj_Inv_wa hI rfl (fun q hq => by cases hq) (fun n hn => by cases hn)
          have kG15 : pj_kpt kc_242_9 G0 G15 := by rw [hG15]; exact pj_kpt_a hK rfl
          rw [← hG15]
          refine pj_X_of (fun r h => pj_R_to (G15, 81, [(0, .ref 171), (1, .int th), (2, .int c), (3, .int us), (4, .int my), (5, .int v5)], [.int (c + (Int32.ofInt 1)), .int th, .ref 171], 0, 0) 81 6 (fun _ => rfl) h) ?_
          obtain ⟨z16, hz16⟩ : ∃ z : Int32, z = c + (Int32.ofInt 1) := ⟨_, rfl⟩
          refine pj_X_eqi hz16.symm ?_
          have fz16_0 : z16.toInt = c.toInt + (Int32.ofInt 1).toInt := by rw [hz16]; exact pj_addI (by have := pj_i32 c; have := pj_i32 (Int32.ofInt 1); omega) (by have := pj_i32 c; have := pj_i32 (Int32.ofInt 1); omega)
          refine pj_X_of (fun r h => pj_R_to (G15, 86, [(0, .ref 171), (1, .int th), (2, .int c), (3, .int us), (4, .int my), (5, .int v5)], [.int ((Int32.ofInt 1) <<< (v5 &&& 31)), .int us, .int z16, .int th, .ref 171], 0, 0) 86 5 (fun _ => rfl) h) ?_
          obtain ⟨z17, hz17⟩ : ∃ z : Int32, z = (Int32.ofInt 1) <<< (v5 &&& 31) := ⟨_, rfl⟩
          refine pj_X_eqi hz17.symm ?_
          have fz17_0 : 1 ≤ z17.toInt ∧ z17.toInt ≤ 32 := by rw [hz17]; exact pj_shlI5 (by omega) (by omega)
          refine pj_X_of (fun r h => pj_R_to (G15, 87, [(0, .ref 171), (1, .int th), (2, .int c), (3, .int us), (4, .int my), (5, .int v5)], [.int (us ||| z17), .int z16, .int th, .ref 171], 0, 0) 87 2 (fun _ => rfl) h) ?_
          obtain ⟨z18, hz18⟩ : ∃ z : Int32, z = us ||| z17 := ⟨_, rfl⟩
          refine pj_X_eqi hz18.symm ?_
          refine pj_X_of (fun r h => pj_R_to (G15, 91, [(0, .ref 171), (1, .int th), (2, .int c), (3, .int us), (4, .int my), (5, .int v5)], [.int (my + (Int32.ofInt 1)), .int z18, .int z16, .int th, .ref 171], 0, 0) 91 4 (fun _ => rfl) h) ?_
          obtain ⟨z19, hz19⟩ : ∃ z : Int32, z = my + (Int32.ofInt 1) := ⟨_, rfl⟩
          refine pj_X_eqi hz19.symm ?_
          have fz19_0 : z19.toInt = my.toInt + (Int32.ofInt 1).toInt := by rw [hz19]; exact pj_addI (by have := pj_i32 my; have := pj_i32 (Int32.ofInt 1); omega) (by have := pj_i32 my; have := pj_i32 (Int32.ofInt 1); omega)
          have q20 : (pj_fi G15 171 4).toInt = y1.toInt := by rw [show pj_fi G15 171 4 = y1 from by rw [hG15, pj_fi_wa]; exact hy1.symm]
          refine pj_X_ca (vs := [.ref 171, .int th, .int z16, .int z18, .int z19]) rfl (fun _ => rfl) ⟨Nat.le_of_ble_eq_true rfl, Nat.le_of_ble_eq_true rfl, pj_T_rcv iG15 rfl⟩ ⟨rfl, rfl⟩ (pj_Y_up (by decide) (ct_242_10 G15 iG15 th z16 z18 z19 ⟨by omega, by omega⟩ ⟨by omega, by omega⟩ (by omega))) ?_
          rintro _ G22 ⟨y21, rfl, iG22, jG22, ry21⟩
          have kG22 : pj_kpt kc_242_9 G0 G22 := pj_kpt_t kG15 (pj_kpt_s jG22 rfl)
          have q23 : (pj_fi G22 171 4).toInt = (pj_fi G15 171 4).toInt := by rw [jG22.1 (171, 4) (by decide)]
          obtain ⟨y24, hy24⟩ : ∃ z : Int32, z = pj_fi G22 171 4 := ⟨_, rfl⟩
          have ey24 : (pj_fi G22 171 4).toInt = y24.toInt := by rw [hy24]
          have ry24 : (0 : Int) ≤ y24.toInt ∧ y24.toInt ≤ 10 := by rw [hy24]; exact iG22.2.1 171 4 (0, 10) rfl
          show pj_X _ _ G22 94 [(0, .ref 171), (1, .int th), (2, .int c), (3, .int us), (4, .int my), (5, .int v5)] [.int y21] _
          cases b25 : pj_c1 .eq y21 0 with
          | true =>
            have ub25 := pj_u0_eqT b25
            refine pj_X_of (fun r h => pj_R_ifT 99 rfl rfl b25 h) ?_
            refine pj_X_of (fun r h => pj_R_to (G22, 102, [(5, .int (v5 + Int32.ofInt 1)), (0, .ref 171), (1, .int th), (2, .int c), (3, .int us), (4, .int my)], [], 0, 0) 102 2 (fun _ => rfl) h) ?_
            obtain ⟨z26, hz26⟩ : ∃ z : Int32, z = v5 + Int32.ofInt 1 := ⟨_, rfl⟩
            rw [← hz26]
            have fz26_0 : z26.toInt = v5.toInt + (Int32.ofInt 1).toInt := by rw [hz26]; exact pj_addI (by have := pj_i32 v5; have := pj_i32 (Int32.ofInt 1); omega) (by have := pj_i32 v5; have := pj_i32 (Int32.ofInt 1); omega)
            refine pj_X_of (fun r h => pj_R_to (G22, 33, [(5, .int z26), (0, .ref 171), (1, .int th), (2, .int c), (3, .int us), (4, .int my)], [], 0, 0) 33 2 (fun _ => rfl) h) ?_
            have q27 : (pj_fi G22 171 4).toInt = y24.toInt := by rw [show pj_fi G22 171 4 = y24 from hy24.symm]
            exact pj_X_sub [(0, .ref 171), (1, .int th), (2, .int c), (3, .int us), (4, .int my), (5, .int z26)] (show List.Nodup [0, 1, 2, 3, 4, 5] by decide) ⟨rfl, rfl, rfl, rfl, rfl, rfl, trivial⟩ (ih G22 iG22 kG22 z26 ⟨by omega, by omega⟩ (by omega) (by omega))
          | false =>
            have ub25 := pj_u0_eqF b25
            refine pj_X_of (fun r h => pj_R_ifF rfl b25 h) ?_
            refine pj_X_of (fun r h => pj_R_to (G22, 98, [(0, .ref 171), (1, .int th), (2, .int c), (3, .int us), (4, .int my), (5, .int v5)], [.int (Int32.ofInt 1)], 0, 0) 98 2 (fun _ => rfl) h) ?_
            have q28 : (pj_fi G22 171 4).toInt = y24.toInt := by rw [show pj_fi G22 171 4 = y24 from hy24.symm]
            exact pj_X_rt rfl rfl ⟨_, rfl, iG22, kG22, ⟨by omega, by omega⟩⟩
theorem ct_242_9 (G0 : pj_G) (hI : pj_Inv G0) (th : Int32) (c : Int32) (us : Int32) (my : Int32) (rc : (9 : Int) ≤ c.toInt ∧ c.toInt ≤ 9) (rmy : (0 : Int) ≤ my.toInt ∧ my.toInt ≤ 9) (p0_ : c.toInt ≤ (pj_fi G0 171 4).toInt) : pj_Y 4 242 [.ref 171, .int th, .int c, .int us, .int my] G0 (fun v G' => ∃ y : Int32, v = some (.int y) ∧ pj_Inv G' ∧ pj_kpt kc_242_9 G0 G' ∧ ((0 : Int) ≤ y.toInt ∧ y.toInt ≤ 1)) := by
  have c0_ : (Int32.ofInt 0).toInt = 0 := by decide
  have c1_ : (Int32.ofInt 1).toInt = 1 := by decide
  refine pj_Y_X (M := pj_m242) rfl rfl (Nat.le_of_ble_eq_true rfl) ?_
  have hK : pj_kpt kc_242_9 G0 G0 := pj_kpt_r _ _
  show pj_X _ _ G0 0 [(0, .ref 171), (1, .int th), (2, .int c), (3, .int us), (4, .int my)] [] _
  obtain ⟨y29, hy29⟩ : ∃ z : Int32, z = pj_fi G0 171 4 := ⟨_, rfl⟩
  have ey29 : (pj_fi G0 171 4).toInt = y29.toInt := by rw [hy29]
  have ry29 : (0 : Int) ≤ y29.toInt ∧ y29.toInt ≤ 10 := by rw [hy29]; exact hI.2.1 171 4 (0, 10) rfl
  refine pj_X_of (fun r h => pj_R_to (G0, 2, [(0, .ref 171), (1, .int th), (2, .int c), (3, .int us), (4, .int my)], [.ref 171, .int c], 0, 0) 2 3 (fun _ => rfl) h) ?_
  refine pj_X_of (fun r h => pj_T_gi hI rfl rfl h) ?_
  show pj_X _ _ G0 5 [(0, .ref 171), (1, .int th), (2, .int c), (3, .int us), (4, .int my)] [.int (pj_fi G0 171 4), .int c] _
  refine pj_X_eqi (show pj_fi G0 171 4 = y29 from hy29.symm) ?_
  cases b30 : pj_c1 .ne c y29 with
  | true =>
    have ub30 := pj_u_neT b30
    refine pj_X_of (fun r h => pj_R_icT 10 rfl rfl b30 h) ?_
    refine pj_X_of (fun r h => pj_R_to (G0, 12, [(0, .ref 171), (1, .int th), (2, .int c), (3, .int us), (4, .int my)], [.int c, .int th], 0, 0) 12 3 (fun _ => rfl) h) ?_
    have q31 : (pj_fi G0 171 4).toInt = y29.toInt := by rw [show pj_fi G0 171 4 = y29 from hy29.symm]
    refine pj_X_ca (vs := [.int th, .int c]) rfl (fun _ => rfl) ⟨Nat.le_of_ble_eq_true rfl, Nat.le_of_ble_eq_true rfl, rfl⟩ ⟨rfl, rfl⟩ (pj_Y_up (by decide) (ct_171bx G0 hI th c)) ?_
    rintro _ _ ⟨y32, rfl, rfl, ry32, ey32, fy32⟩
    show pj_X _ _ G0 15 [(0, .ref 171), (1, .int th), (2, .int c), (3, .int us), (4, .int my)] [.int y32] _
    cases b33 : pj_c1 .ne y32 0 with
    | true =>
      have ub33 := pj_u0_neT b33
      refine pj_X_of (fun r h => pj_R_ifT 30 rfl rfl b33 h) ?_
      refine pj_X_of (fun r h => pj_R_to (G0, 33, [(5, .int (Int32.ofInt 0)), (0, .ref 171), (1, .int th), (2, .int c), (3, .int us), (4, .int my)], [], 0, 0) 33 3 (fun _ => rfl) h) ?_
      have q34 : (pj_fi G0 171 4).toInt = y29.toInt := by rw [show pj_fi G0 171 4 = y29 from hy29.symm]
      exact pj_X_sub [(0, .ref 171), (1, .int th), (2, .int c), (3, .int us), (4, .int my), (5, .int (Int32.ofInt 0))] (show List.Nodup [0, 1, 2, 3, 4, 5] by decide) ⟨rfl, rfl, rfl, rfl, rfl, rfl, trivial⟩ ((lp_ct_242_9 G0 hI th c us my rc rmy p0_ 7) G0 hI hK (Int32.ofInt 0) ⟨by omega, by omega⟩ (by omega) (by omega))
    | false =>
      have ub33 := pj_u0_neF b33
      refine pj_X_of (fun r h => pj_R_ifF rfl b33 h) ?_
      refine pj_X_of (fun r h => pj_R_to (G0, 23, [(0, .ref 171), (1, .int th), (2, .int c), (3, .int us), (4, .int my)], [.int (c + (Int32.ofInt 1)), .int th, .ref 171], 0, 0) 23 6 (fun _ => rfl) h) ?_
      obtain ⟨z35, hz35⟩ : ∃ z : Int32, z = c + (Int32.ofInt 1) := ⟨_, rfl⟩
      refine pj_X_eqi hz35.symm ?_
      have fz35_0 : z35.toInt = c.toInt + (Int32.ofInt 1).toInt := by rw [hz35]; exact pj_addI (by have := pj_i32 c; have := pj_i32 (Int32.ofInt 1); omega) (by have := pj_i32 c; have := pj_i32 (Int32.ofInt 1); omega)
      refine pj_X_of (fun r h => pj_R_to (G0, 26, [(0, .ref 171), (1, .int th), (2, .int c), (3, .int us), (4, .int my)], [.int my, .int us, .int z35, .int th, .ref 171], 0, 0) 26 3 (fun _ => rfl) h) ?_
      have q36 : (pj_fi G0 171 4).toInt = y29.toInt := by rw [show pj_fi G0 171 4 = y29 from hy29.symm]
      refine pj_X_ca (vs := [.ref 171, .int th, .int z35, .int us, .int my]) rfl (fun _ => rfl) ⟨Nat.le_of_ble_eq_true rfl, Nat.le_of_ble_eq_true rfl, pj_T_rcv hI rfl⟩ ⟨rfl, rfl⟩ (pj_Y_up (by decide) (ct_242_10 G0 hI th z35 us my ⟨by omega, by omega⟩ ⟨by omega, by omega⟩ (by omega))) ?_
      rintro _ G38 ⟨y37, rfl, iG38, jG38, ry37⟩
      have kG38 : pj_kpt kc_242_9 G0 G38 := pj_kpt_t hK (pj_kpt_s jG38 rfl)
      have q39 : (pj_fi G38 171 4).toInt = (pj_fi G0 171 4).toInt := by rw [jG38.1 (171, 4) (by decide)]
      obtain ⟨y40, hy40⟩ : ∃ z : Int32, z = pj_fi G38 171 4 := ⟨_, rfl⟩
      have ey40 : (pj_fi G38 171 4).toInt = y40.toInt := by rw [hy40]
      have ry40 : (0 : Int) ≤ y40.toInt ∧ y40.toInt ≤ 10 := by rw [hy40]; exact iG38.2.1 171 4 (0, 10) rfl
      show pj_X _ _ G38 29 [(0, .ref 171), (1, .int th), (2, .int c), (3, .int us), (4, .int my)] [.int y37] _
      have q41 : (pj_fi G38 171 4).toInt = y40.toInt := by rw [show pj_fi G38 171 4 = y40 from hy40.symm]
      exact pj_X_rt (v := some (.int y37)) rfl (pj_rtb ⟨by omega, by omega⟩) ⟨_, rfl, iG38, kG38, ⟨by omega, by omega⟩⟩
  | false =>
    have ub30 := pj_u_neF b30
    refine pj_X_of (fun r h => pj_R_icF rfl b30 h) ?_
    refine pj_X_of (fun r h => pj_R_to (G0, 9, [(0, .ref 171), (1, .int th), (2, .int c), (3, .int us), (4, .int my)], [.int (Int32.ofInt 1)], 0, 0) 9 2 (fun _ => rfl) h) ?_
    have q42 : (pj_fi G0 171 4).toInt = y29.toInt := by rw [show pj_fi G0 171 4 = y29 from hy29.symm]
    exact pj_X_rt rfl rfl ⟨_, rfl, hI, hK, ⟨by omega, by omega⟩⟩
def kc_242_8 : pj_KT := ([], [191], [191])
theorem lp_ct_242_8 (G0 : pj_G) (hI0 : pj_Inv G0) (th : Int32) (c : Int32) (us : Int32) (my : Int32) (rc : (8 : Int) ≤ c.toInt ∧ c.toInt ≤ 8) (rmy : (0 : Int) ≤ my.toInt ∧ my.toInt ≤ 8) (p0_ : c.toInt ≤ (pj_fi G0 171 4).toInt) : ∀ mn : Nat, (∀ (G : pj_G) (hI : pj_Inv G) (hK : pj_kpt kc_242_8 G0 G) (v5 : Int32), ((0 : Int) ≤ v5.toInt ∧ v5.toInt ≤ 6) → (c.toInt < (pj_fi G 171 4).toInt) → 6 - v5.toInt < (mn : Int) → pj_X 4 pj_m242 G 33 [(0, .ref 171), (1, .int th), (2, .int c), (3, .int us), (4, .int my), (5, .int v5)] [] (fun v G' => ∃ y : Int32, v = some (.int y) ∧ pj_Inv G' ∧ pj_kpt kc_242_8 G0 G' ∧ ((0 : Int) ≤ y.toInt ∧ y.toInt ≤ 1))) := by
  have c0_ : (Int32.ofInt 0).toInt = 0 := by decide
  have c1_ : (Int32.ofInt 1).toInt = 1 := by decide
  intro mn
  induction mn with
  | zero =>
    intro G hI hK v5 rv5 x0_ hm
    exfalso
    omega
  | succ mn ih =>
    intro G hI hK v5 rv5 x0_ hm
    obtain ⟨y1, hy1⟩ : ∃ z : Int32, z = pj_fi G 171 4 := ⟨_, rfl⟩
    have ey1 : (pj_fi G 171 4).toInt = y1.toInt := by rw [hy1]
    have ry1 : (0 : Int) ≤ y1.toInt ∧ y1.toInt ≤ 10 := by rw [hy1]; exact hI.2.1 171 4 (0, 10) rfl
    refine pj_X_of (fun r h => pj_R_to (G, 36, [(0, .ref 171), (1, .int th), (2, .int c), (3, .int us), (4, .int my), (5, .int v5)], [.ref 171, .int v5], 0, 0) 36 3 (fun _ => rfl) h) ?_
    refine pj_X_of (fun r h => pj_T_gi hI rfl rfl h) ?_
    show pj_X _ _ G 39 [(0, .ref 171), (1, .int th), (2, .int c), (3, .int us), (4, .int my), (5, .int v5)] [.int (pj_fi G 171 5), .int v5] _
    obtain ⟨y2, hy2⟩ : ∃ z : Int32, z = pj_fi G 171 5 := ⟨_, rfl⟩
    refine pj_X_eqi hy2.symm ?_
    have ey2 : (pj_fi G 171 5).toInt = y2.toInt := by rw [hy2]
    have ry2 : (0 : Int) ≤ y2.toInt ∧ y2.toInt ≤ 6 := by rw [hy2]; exact hI.2.1 171 5 (0, 6) rfl
    cases b3 : pj_c1 .ge v5 y2 with
    | true =>
      have ub3 := pj_u_geT b3
      refine pj_X_of (fun r h => pj_R_icT 105 rfl rfl b3 h) ?_
      refine pj_X_of (fun r h => pj_R_to (G, 106, [(0, .ref 171), (1, .int th), (2, .int c), (3, .int us), (4, .int my), (5, .int v5)], [.int (Int32.ofInt 0)], 0, 0) 106 2 (fun _ => rfl) h) ?_
      have q4 : (pj_fi G 171 4).toInt = y1.toInt := by rw [show pj_fi G 171 4 = y1 from hy1.symm]
      exact pj_X_rt rfl rfl ⟨_, rfl, hI, hK, ⟨by omega, by omega⟩⟩
    | false =>
      have ub3 := pj_u_geF b3
      refine pj_X_of (fun r h => pj_R_icF rfl b3 h) ?_
      refine pj_X_of (fun r h => pj_R_to (G, 45, [(0, .ref 171), (1, .int th), (2, .int c), (3, .int us), (4, .int my), (5, .int v5)], [.int v5, .int us], 0, 0) 45 3 (fun _ => rfl) h) ?_
      have q5 : (pj_fi G 171 4).toInt = y1.toInt := by rw [show pj_fi G 171 4 = y1 from hy1.symm]
      refine pj_X_ca (vs := [.int us, .int v5]) rfl (fun _ => rfl) ⟨Nat.le_of_ble_eq_true rfl, Nat.le_of_ble_eq_true rfl, rfl⟩ ⟨rfl, rfl⟩ (pj_Y_up (by decide) (ct_171bx G hI us v5)) ?_
      rintro _ _ ⟨y6, rfl, rfl, ry6, ey6, fy6⟩
      show pj_X _ _ G 48 [(0, .ref 171), (1, .int th), (2, .int c), (3, .int us), (4, .int my), (5, .int v5)] [.int y6] _
      cases b7 : pj_c1 .ne y6 0 with
      | true =>
        have ub7 := pj_u0_neT b7
        refine pj_X_of (fun r h => pj_R_ifT 99 rfl rfl b7 h) ?_
        refine pj_X_of (fun r h => pj_R_to (G, 102, [(5, .int (v5 + Int32.ofInt 1)), (0, .ref 171), (1, .int th), (2, .int c), (3, .int us), (4, .int my)], [], 0, 0) 102 2 (fun _ => rfl) h) ?_
        obtain ⟨z8, hz8⟩ : ∃ z : Int32, z = v5 + Int32.ofInt 1 := ⟨_, rfl⟩
        rw [← hz8]
        have fz8_0 : z8.toInt = v5.toInt + (Int32.ofInt 1).toInt := by rw [hz8]; exact pj_addI (by have := pj_i32 v5; have := pj_i32 (Int32.ofInt 1); omega) (by have := pj_i32 v5; have := pj_i32 (Int32.ofInt 1); omega)
        refine pj_X_of (fun r h => pj_R_to (G, 33, [(5, .int z8), (0, .ref 171), (1, .int th), (2, .int c), (3, .int us), (4, .int my)], [], 0, 0) 33 2 (fun _ => rfl) h) ?_
        have q9 : (pj_fi G 171 4).toInt = y1.toInt := by rw [show pj_fi G 171 4 = y1 from hy1.symm]
        exact pj_X_sub [(0, .ref 171), (1, .int th), (2, .int c), (3, .int us), (4, .int my), (5, .int z8)] (show List.Nodup [0, 1, 2, 3, 4, 5] by decide) ⟨rfl, rfl, rfl, rfl, rfl, rfl, trivial⟩ (ih G hI hK z8 ⟨by omega, by omega⟩ (by omega) (by omega))
      | false =>
        have ub7 := pj_u0_neF b7
        refine pj_X_of (fun r h => pj_R_ifF rfl b7 h) ?_
        refine pj_X_of (fun r h => pj_R_to (G, 52, [(0, .ref 171), (1, .int th), (2, .int c), (3, .int us), (4, .int my), (5, .int v5)], [.ref 171], 0, 0) 52 2 (fun _ => rfl) h) ?_
        refine pj_X_of (fun r h => pj_T_gr hI rfl rfl rfl h) ?_
        refine pj_X_of (fun r h => pj_R_to (G, 57, [(0, .ref 171), (1, .int th), (2, .int c), (3, .int us), (4, .int my), (5, .int v5)], [.int v5, .ref 177], 0, 0) 57 2 (fun _ => rfl) h) ?_
        refine pj_X_of (fun r h => pj_T_il hI rfl rfl (by omega) (by omega) h) ?_
        show pj_X _ _ G 58 [(0, .ref 171), (1, .int th), (2, .int c), (3, .int us), (4, .int my), (5, .int v5)] [.int (pj_ai G 177 v5.toInt.toNat)] _
        obtain ⟨z10, hz10⟩ : ∃ z : Int32, z = pj_ai G 177 v5.toInt.toNat := ⟨_, rfl⟩
        refine pj_X_eqi hz10.symm ?_
        have ez10 : (pj_ai G 177 v5.toInt.toNat).toInt = z10.toInt := by rw [hz10]
        refine pj_X_of (fun r h => pj_R_to (G, 59, [(0, .ref 171), (1, .int th), (2, .int c), (3, .int us), (4, .int my), (5, .int v5)], [.ref 171, .int z10], 0, 0) 59 2 (fun _ => rfl) h) ?_
        refine pj_X_of (fun r h => pj_T_gr hI rfl rfl rfl h) ?_
        refine pj_X_of (fun r h => pj_R_to (G, 63, [(0, .ref 171), (1, .int th), (2, .int c), (3, .int us), (4, .int my), (5, .int v5)], [.int c, .ref 176, .int z10], 0, 0) 63 2 (fun _ => rfl) h) ?_
        refine pj_X_of (fun r h => pj_T_il hI rfl rfl (by omega) (by omega) h) ?_
        show pj_X _ _ G 64 [(0, .ref 171), (1, .int th), (2, .int c), (3, .int us), (4, .int my), (5, .int v5)] [.int (pj_ai G 176 c.toInt.toNat), .int z10] _
        obtain ⟨z11, hz11⟩ : ∃ z : Int32, z = pj_ai G 176 c.toInt.toNat := ⟨_, rfl⟩
        refine pj_X_eqi hz11.symm ?_
        have ez11 : (pj_ai G 176 c.toInt.toNat).toInt = z11.toInt := by rw [hz11]
        cases b12 : pj_c1 .lt z10 z11 with
        | true =>
          have ub12 := pj_u_ltT b12
          refine pj_X_of (fun r h => pj_R_icT 99 rfl rfl b12 h) ?_
          refine pj_X_of (fun r h => pj_R_to (G, 102, [(5, .int (v5 + Int32.ofInt 1)), (0, .ref 171), (1, .int th), (2, .int c), (3, .int us), (4, .int my)], [], 0, 0) 102 2 (fun _ => rfl) h) ?_
          obtain ⟨z13, hz13⟩ : ∃ z : Int32, z = v5 + Int32.ofInt 1 := ⟨_, rfl⟩
          rw [← hz13]
          have fz13_0 : z13.toInt = v5.toInt + (Int32.ofInt 1).toInt := by rw [hz13]; exact pj_addI (by have := pj_i32 v5; have := pj_i32 (Int32.ofInt 1); omega) (by have := pj_i32 v5; have := pj_i32 (Int32.ofInt 1); omega)
          refine pj_X_of (fun r h => pj_R_to (G, 33, [(5, .int z13), (0, .ref 171), (1, .int th), (2, .int c), (3, .int us), (4, .int my)], [], 0, 0) 33 2 (fun _ => rfl) h) ?_
          have q14 : (pj_fi G 171 4).toInt = y1.toInt := by rw [show pj_fi G 171 4 = y1 from hy1.symm]
          exact pj_X_sub [(0, .ref 171), (1, .int th), (2, .int c), (3, .int us), (4, .int my), (5, .int z13)] (show List.Nodup [0, 1, 2, 3, 4, 5] by decide) ⟨rfl, rfl, rfl, rfl, rfl, rfl, trivial⟩ (ih G hI hK z13 ⟨by omega, by omega⟩ (by omega) (by omega))
        | false =>
          have ub12 := pj_u_ltF b12
          refine pj_X_of (fun r h => pj_R_icF rfl b12 h) ?_
          refine pj_X_of (fun r h => pj_R_to (G, 68, [(0, .ref 171), (1, .int th), (2, .int c), (3, .int us), (4, .int my), (5, .int v5)], [.ref 171], 0, 0) 68 2 (fun _ => rfl) h) ?_
          refine pj_X_of (fun r h => pj_T_gr hI rfl rfl rfl h) ?_
          refine pj_X_of (fun r h => pj_R_to (G, 75, [(0, .ref 171), (1, .int th), (2, .int c), (3, .int us), (4, .int my), (5, .int v5)], [.int v5, .int my, .ref 191], 0, 0) 75 3 (fun _ => rfl) h) ?_
          refine pj_X_of (fun r h => pj_T_is hI rfl rfl (by omega) (by omega) h) ?_
          show pj_X _ _ (pj_wa G 191 my.toInt.toNat v5) 76 [(0, .ref 171), (1, .int th), (2, .int c), (3, .int us), (4, .int my), (5, .int v5)] [] _
          obtain ⟨G15, hG15⟩ : ∃ H, H = pj_wa G 191 my.toInt.toNat v5 := ⟨_, rfl⟩
          have iG15 : pj_Inv G15 := by rw [hG15]; exact pj_Inv_wa hI rfl (fun q hq => by cases hq) (fun n hn => by cases hn)
          have kG15 : pj_kpt kc_242_8 G0 G15 := by rw [hG15]; exact pj_kpt_a hK rfl
          rw [← hG15]
          refine pj_X_of (fun r h => pj_R_to (G15, 81, [(0, .ref 171), (1, .int th), (2, .int c), (3, .int us), (4, .int my), (5, .int v5)], [.int (c + (Int32.ofInt 1)), .int th, .ref 171], 0, 0) 81 6 (fun _ => rfl) h) ?_
          obtain ⟨z16, hz16⟩ : ∃ z : Int32, z = c + (Int32.ofInt 1) := ⟨_, rfl⟩
          refine pj_X_eqi hz16.symm ?_
          have fz16_0 : z16.toInt = c.toInt + (Int32.ofInt 1).toInt := by rw [hz16]; exact pj_addI (by have := pj_i32 c; have := pj_i32 (Int32.ofInt 1); omega) (by have := pj_i32 c; have := pj_i32 (Int32.ofInt 1); omega)
          refine pj_X_of (fun r h => pj_R_to (G15, 86, [(0, .ref 171), (1, .int th), (2, .int c), (3, .int us), (4, .int my), (5, .int v5)], [.int ((Int32.ofInt 1) <<< (v5 &&& 31)), .int us, .int z16, .int th, .ref 171], 0, 0) 86 5 (fun _ => rfl) h) ?_
          obtain ⟨z17, hz17⟩ : ∃ z : Int32, z = (Int32.ofInt 1) <<< (v5 &&& 31) := ⟨_, rfl⟩
          refine pj_X_eqi hz17.symm ?_
          have fz17_0 : 1 ≤ z17.toInt ∧ z17.toInt ≤ 32 := by rw [hz17]; exact pj_shlI5 (by omega) (by omega)
          refine pj_X_of (fun r h => pj_R_to (G15, 87, [(0, .ref 171), (1, .int th), (2, .int c), (3, .int us), (4, .int my), (5, .int v5)], [.int (us ||| z17), .int z16, .int th, .ref 171], 0, 0) 87 2 (fun _ => rfl) h) ?_
          obtain ⟨z18, hz18⟩ : ∃ z : Int32, z = us ||| z17 := ⟨_, rfl⟩
          refine pj_X_eqi hz18.symm ?_
          refine pj_X_of (fun r h => pj_R_to (G15, 91, [(0, .ref 171), (1, .int th), (2, .int c), (3, .int us), (4, .int my), (5, .int v5)], [.int (my + (Int32.ofInt 1)), .int z18, .int z16, .int th, .ref 171], 0, 0) 91 4 (fun _ => rfl) h) ?_
          obtain ⟨z19, hz19⟩ : ∃ z : Int32, z = my + (Int32.ofInt 1) := ⟨_, rfl⟩
          refine pj_X_eqi hz19.symm ?_
          have fz19_0 : z19.toInt = my.toInt + (Int32.ofInt 1).toInt := by rw [hz19]; exact pj_addI (by have := pj_i32 my; have := pj_i32 (Int32.ofInt 1); omega) (by have := pj_i32 my; have := pj_i32 (Int32.ofInt 1); omega)
          have q20 : (pj_fi G15 171 4).toInt = y1.toInt := by rw [show pj_fi G15 171 4 = y1 from by rw [hG15, pj_fi_wa]; exact hy1.symm]
          refine pj_X_ca (vs := [.ref 171, .int th, .int z16, .int z18, .int z19]) rfl (fun _ => rfl) ⟨Nat.le_of_ble_eq_true rfl, Nat.le_of_ble_eq_true rfl, pj_T_rcv iG15 rfl⟩ ⟨rfl, rfl⟩ (pj_Y_up (by decide) (ct_242_9 G15 iG15 th z16 z18 z19 ⟨by omega, by omega⟩ ⟨by omega, by omega⟩ (by omega))) ?_
          rintro _ G22 ⟨y21, rfl, iG22, jG22, ry21⟩
          have kG22 : pj_kpt kc_242_8 G0 G22 := pj_kpt_t kG15 (pj_kpt_s jG22 rfl)
          have q23 : (pj_fi G22 171 4).toInt = (pj_fi G15 171 4).toInt := by rw [jG22.1 (171, 4) (by decide)]
          obtain ⟨y24, hy24⟩ : ∃ z : Int32, z = pj_fi G22 171 4 := ⟨_, rfl⟩
          have ey24 : (pj_fi G22 171 4).toInt = y24.toInt := by rw [hy24]
          have ry24 : (0 : Int) ≤ y24.toInt ∧ y24.toInt ≤ 10 := by rw [hy24]; exact iG22.2.1 171 4 (0, 10) rfl
          show pj_X _ _ G22 94 [(0, .ref 171), (1, .int th), (2, .int c), (3, .int us), (4, .int my), (5, .int v5)] [.int y21] _
          cases b25 : pj_c1 .eq y21 0 with
          | true =>
            have ub25 := pj_u0_eqT b25
            refine pj_X_of (fun r h => pj_R_ifT 99 rfl rfl b25 h) ?_
            refine pj_X_of (fun r h => pj_R_to (G22, 102, [(5, .int (v5 + Int32.ofInt 1)), (0, .ref 171), (1, .int th), (2, .int c), (3, .int us), (4, .int my)], [], 0, 0) 102 2 (fun _ => rfl) h) ?_
            obtain ⟨z26, hz26⟩ : ∃ z : Int32, z = v5 + Int32.ofInt 1 := ⟨_, rfl⟩
            rw [← hz26]
            have fz26_0 : z26.toInt = v5.toInt + (Int32.ofInt 1).toInt := by rw [hz26]; exact pj_addI (by have := pj_i32 v5; have := pj_i32 (Int32.ofInt 1); omega) (by have := pj_i32 v5; have := pj_i32 (Int32.ofInt 1); omega)
            refine pj_X_of (fun r h => pj_R_to (G22, 33, [(5, .int z26), (0, .ref 171), (1, .int th), (2, .int c), (3, .int us), (4, .int my)], [], 0, 0) 33 2 (fun _ => rfl) h) ?_
            have q27 : (pj_fi G22 171 4).toInt = y24.toInt := by rw [show pj_fi G22 171 4 = y24 from hy24.symm]
            exact pj_X_sub [(0, .ref 171), (1, .int th), (2, .int c), (3, .int us), (4, .int my), (5, .int z26)] (show List.Nodup [0, 1, 2, 3, 4, 5] by decide) ⟨rfl, rfl, rfl, rfl, rfl, rfl, trivial⟩ (ih G22 iG22 kG22 z26 ⟨by omega, by omega⟩ (by omega) (by omega))
          | false =>
            have ub25 := pj_u0_eqF b25
            refine pj_X_of (fun r h => pj_R_ifF rfl b25 h) ?_
            refine pj_X_of (fun r h => pj_R_to (G22, 98, [(0, .ref 171), (1, .int th), (2, .int c), (3, .int us), (4, .int my), (5, .int v5)], [.int (Int32.ofInt 1)], 0, 0) 98 2 (fun _ => rfl) h) ?_
            have q28 : (pj_fi G22 171 4).toInt = y24.toInt := by rw [show pj_fi G22 171 4 = y24 from hy24.symm]
            exact pj_X_rt rfl rfl ⟨_, rfl, iG22, kG22, ⟨by omega, by omega⟩⟩
theorem ct_242_8 (G0 : pj_G) (hI : pj_Inv G0) (th : Int32) (c : Int32) (us : Int32) (my : Int32) (rc : (8 : Int) ≤ c.toInt ∧ c.toInt ≤ 8) (rmy : (0 : Int) ≤ my.toInt ∧ my.toInt ≤ 8) (p0_ : c.toInt ≤ (pj_fi G0 171 4).toInt) : pj_Y 5 242 [.ref 171, .int th, .int c, .int us, .int my] G0 (fun v G' => ∃ y : Int32, v = some (.int y) ∧ pj_Inv G' ∧ pj_kpt kc_242_8 G0 G' ∧ ((0 : Int) ≤ y.toInt ∧ y.toInt ≤ 1)) := by
  have c0_ : (Int32.ofInt 0).toInt = 0 := by decide
  have c1_ : (Int32.ofInt 1).toInt = 1 := by decide
  refine pj_Y_X (M := pj_m242) rfl rfl (Nat.le_of_ble_eq_true rfl) ?_
  have hK : pj_kpt kc_242_8 G0 G0 := pj_kpt_r _ _
  show pj_X _ _ G0 0 [(0, .ref 171), (1, .int th), (2, .int c), (3, .int us), (4, .int my)] [] _
  obtain ⟨y29, hy29⟩ : ∃ z : Int32, z = pj_fi G0 171 4 := ⟨_, rfl⟩
  have ey29 : (pj_fi G0 171 4).toInt = y29.toInt := by rw [hy29]
  have ry29 : (0 : Int) ≤ y29.toInt ∧ y29.toInt ≤ 10 := by rw [hy29]; exact hI.2.1 171 4 (0, 10) rfl
  refine pj_X_of (fun r h => pj_R_to (G0, 2, [(0, .ref 171), (1, .int th), (2, .int c), (3, .int us), (4, .int my)], [.ref 171, .int c], 0, 0) 2 3 (fun _ => rfl) h) ?_
  refine pj_X_of (fun r h => pj_T_gi hI rfl rfl h) ?_
  show pj_X _ _ G0 5 [(0, .ref 171), (1, .int th), (2, .int c), (3, .int us), (4, .int my)] [.int (pj_fi G0 171 4), .int c] _
  refine pj_X_eqi (show pj_fi G0 171 4 = y29 from hy29.symm) ?_
  cases b30 : pj_c1 .ne c y29 with
  | true =>
    have ub30 := pj_u_neT b30
    refine pj_X_of (fun r h => pj_R_icT 10 rfl rfl b30 h) ?_
    refine pj_X_of (fun r h => pj_R_to (G0, 12, [(0, .ref 171), (1, .int th), (2, .int c), (3, .int us), (4, .int my)], [.int c, .int th], 0, 0) 12 3 (fun _ => rfl) h) ?_
    have q31 : (pj_fi G0 171 4).toInt = y29.toInt := by rw [show pj_fi G0 171 4 = y29 from hy29.symm]
    refine pj_X_ca (vs := [.int th, .int c]) rfl (fun _ => rfl) ⟨Nat.le_of_ble_eq_true rfl, Nat.le_of_ble_eq_true rfl, rfl⟩ ⟨rfl, rfl⟩ (pj_Y_up (by decide) (ct_171bx G0 hI th c)) ?_
    rintro _ _ ⟨y32, rfl, rfl, ry32, ey32, fy32⟩
    show pj_X _ _ G0 15 [(0, .ref 171), (1, .int th), (2, .int c), (3, .int us), (4, .int my)] [.int y32] _
    cases b33 : pj_c1 .ne y32 0 with
    | true =>
      have ub33 := pj_u0_neT b33
      refine pj_X_of (fun r h => pj_R_ifT 30 rfl rfl b33 h) ?_
      refine pj_X_of (fun r h => pj_R_to (G0, 33, [(5, .int (Int32.ofInt 0)), (0, .ref 171), (1, .int th), (2, .int c), (3, .int us), (4, .int my)], [], 0, 0) 33 3 (fun _ => rfl) h) ?_
      have q34 : (pj_fi G0 171 4).toInt = y29.toInt := by rw [show pj_fi G0 171 4 = y29 from hy29.symm]
      exact pj_X_sub [(0, .ref 171), (1, .int th), (2, .int c), (3, .int us), (4, .int my), (5, .int (Int32.ofInt 0))] (show List.Nodup [0, 1, 2, 3, 4, 5] by decide) ⟨rfl, rfl, rfl, rfl, rfl, rfl, trivial⟩ ((lp_ct_242_8 G0 hI th c us my rc rmy p0_ 7) G0 hI hK (Int32.ofInt 0) ⟨by omega, by omega⟩ (by omega) (by omega))
    | false =>
      have ub33 := pj_u0_neF b33
      refine pj_X_of (fun r h => pj_R_ifF rfl b33 h) ?_
      refine pj_X_of (fun r h => pj_R_to (G0, 23, [(0, .ref 171), (1, .int th), (2, .int c), (3, .int us), (4, .int my)], [.int (c + (Int32.ofInt 1)), .int th, .ref 171], 0, 0) 23 6 (fun _ => rfl) h) ?_
      obtain ⟨z35, hz35⟩ : ∃ z : Int32, z = c + (Int32.ofInt 1) := ⟨_, rfl⟩
      refine pj_X_eqi hz35.symm ?_
      have fz35_0 : z35.toInt = c.toInt + (Int32.ofInt 1).toInt := by rw [hz35]; exact pj_addI (by have := pj_i32 c; have := pj_i32 (Int32.ofInt 1); omega) (by have := pj_i32 c; have := pj_i32 (Int32.ofInt 1); omega)
      refine pj_X_of (fun r h => pj_R_to (G0, 26, [(0, .ref 171), (1, .int th), (2, .int c), (3, .int us), (4, .int my)], [.int my, .int us, .int z35, .int th, .ref 171], 0, 0) 26 3 (fun _ => rfl) h) ?_
      have q36 : (pj_fi G0 171 4).toInt = y29.toInt := by rw [show pj_fi G0 171 4 = y29 from hy29.symm]
      refine pj_X_ca (vs := [.ref 171, .int th, .int z35, .int us, .int my]) rfl (fun _ => rfl) ⟨Nat.le_of_ble_eq_true rfl, Nat.le_of_ble_eq_true rfl, pj_T_rcv hI rfl⟩ ⟨rfl, rfl⟩ (pj_Y_up (by decide) (ct_242_9 G0 hI th z35 us my ⟨by omega, by omega⟩ ⟨by omega, by omega⟩ (by omega))) ?_
      rintro _ G38 ⟨y37, rfl, iG38, jG38, ry37⟩
      have kG38 : pj_kpt kc_242_8 G0 G38 := pj_kpt_t hK (pj_kpt_s jG38 rfl)
      have q39 : (pj_fi G38 171 4).toInt = (pj_fi G0 171 4).toInt := by rw [jG38.1 (171, 4) (by decide)]
      obtain ⟨y40, hy40⟩ : ∃ z : Int32, z = pj_fi G38 171 4 := ⟨_, rfl⟩
      have ey40 : (pj_fi G38 171 4).toInt = y40.toInt := by rw [hy40]
      have ry40 : (0 : Int) ≤ y40.toInt ∧ y40.toInt ≤ 10 := by rw [hy40]; exact iG38.2.1 171 4 (0, 10) rfl
      show pj_X _ _ G38 29 [(0, .ref 171), (1, .int th), (2, .int c), (3, .int us), (4, .int my)] [.int y37] _
      have q41 : (pj_fi G38 171 4).toInt = y40.toInt := by rw [show pj_fi G38 171 4 = y40 from hy40.symm]
      exact pj_X_rt (v := some (.int y37)) rfl (pj_rtb ⟨by omega, by omega⟩) ⟨_, rfl, iG38, kG38, ⟨by omega, by omega⟩⟩
  | false =>
    have ub30 := pj_u_neF b30
    refine pj_X_of (fun r h => pj_R_icF rfl b30 h) ?_
    refine pj_X_of (fun r h => pj_R_to (G0, 9, [(0, .ref 171), (1, .int th), (2, .int c), (3, .int us), (4, .int my)], [.int (Int32.ofInt 1)], 0, 0) 9 2 (fun _ => rfl) h) ?_
    have q42 : (pj_fi G0 171 4).toInt = y29.toInt := by rw [show pj_fi G0 171 4 = y29 from hy29.symm]
    exact pj_X_rt rfl rfl ⟨_, rfl, hI, hK, ⟨by omega, by omega⟩⟩
def kc_242_7 : pj_KT := ([], [191], [191])
theorem lp_ct_242_7 (G0 : pj_G) (hI0 : pj_Inv G0) (th : Int32) (c : Int32) (us : Int32) (my : Int32) (rc : (7 : Int) ≤ c.toInt ∧ c.toInt ≤ 7) (rmy : (0 : Int) ≤ my.toInt ∧ my.toInt ≤ 7) (p0_ : c.toInt ≤ (pj_fi G0 171 4).toInt) : ∀ mn : Nat, (∀ (G : pj_G) (hI : pj_Inv G) (hK : pj_kpt kc_242_7 G0 G) (v5 : Int32), ((0 : Int) ≤ v5.toInt ∧ v5.toInt ≤ 6) → (c.toInt < (pj_fi G 171 4).toInt) → 6 - v5.toInt < (mn : Int) → pj_X 5 pj_m242 G 33 [(0, .ref 171), (1, .int th), (2, .int c), (3, .int us), (4, .int my), (5, .int v5)] [] (fun v G' => ∃ y : Int32, v = some (.int y) ∧ pj_Inv G' ∧ pj_kpt kc_242_7 G0 G' ∧ ((0 : Int) ≤ y.toInt ∧ y.toInt ≤ 1))) := by
  have c0_ : (Int32.ofInt 0).toInt = 0 := by decide
  have c1_ : (Int32.ofInt 1).toInt = 1 := by decide
  intro mn
  induction mn with
  | zero =>
    intro G hI hK v5 rv5 x0_ hm
    exfalso
    omega
  | succ mn ih =>
    intro G hI hK v5 rv5 x0_ hm
    obtain ⟨y1, hy1⟩ : ∃ z : Int32, z = pj_fi G 171 4 := ⟨_, rfl⟩
    have ey1 : (pj_fi G 171 4).toInt = y1.toInt := by rw [hy1]
    have ry1 : (0 : Int) ≤ y1.toInt ∧ y1.toInt ≤ 10 := by rw [hy1]; exact hI.2.1 171 4 (0, 10) rfl
    refine pj_X_of (fun r h => pj_R_to (G, 36, [(0, .ref 171), (1, .int th), (2, .int c), (3, .int us), (4, .int my), (5, .int v5)], [.ref 171, .int v5], 0, 0) 36 3 (fun _ => rfl) h) ?_
    refine pj_X_of (fun r h => pj_T_gi hI rfl rfl h) ?_
    show pj_X _ _ G 39 [(0, .ref 171), (1, .int th), (2, .int c), (3, .int us), (4, .int my), (5, .int v5)] [.int (pj_fi G 171 5), .int v5] _
    obtain ⟨y2, hy2⟩ : ∃ z : Int32, z = pj_fi G 171 5 := ⟨_, rfl⟩
    refine pj_X_eqi hy2.symm ?_
    have ey2 : (pj_fi G 171 5).toInt = y2.toInt := by rw [hy2]
    have ry2 : (0 : Int) ≤ y2.toInt ∧ y2.toInt ≤ 6 := by rw [hy2]; exact hI.2.1 171 5 (0, 6) rfl
    cases b3 : pj_c1 .ge v5 y2 with
    | true =>
      have ub3 := pj_u_geT b3
      refine pj_X_of (fun r h => pj_R_icT 105 rfl rfl b3 h) ?_
      refine pj_X_of (fun r h => pj_R_to (G, 106, [(0, .ref 171), (1, .int th), (2, .int c), (3, .int us), (4, .int my), (5, .int v5)], [.int (Int32.ofInt 0)], 0, 0) 106 2 (fun _ => rfl) h) ?_
      have q4 : (pj_fi G 171 4).toInt = y1.toInt := by rw [show pj_fi G 171 4 = y1 from hy1.symm]
      exact pj_X_rt rfl rfl ⟨_, rfl, hI, hK, ⟨by omega, by omega⟩⟩
    | false =>
      have ub3 := pj_u_geF b3
      refine pj_X_of (fun r h => pj_R_icF rfl b3 h) ?_
      refine pj_X_of (fun r h => pj_R_to (G, 45, [(0, .ref 171), (1, .int th), (2, .int c), (3, .int us), (4, .int my), (5, .int v5)], [.int v5, .int us], 0, 0) 45 3 (fun _ => rfl) h) ?_
      have q5 : (pj_fi G 171 4).toInt = y1.toInt := by rw [show pj_fi G 171 4 = y1 from hy1.symm]
      refine pj_X_ca (vs := [.int us, .int v5]) rfl (fun _ => rfl) ⟨Nat.le_of_ble_eq_true rfl, Nat.le_of_ble_eq_true rfl, rfl⟩ ⟨rfl, rfl⟩ (pj_Y_up (by decide) (ct_171bx G hI us v5)) ?_
      rintro _ _ ⟨y6, rfl, rfl, ry6, ey6, fy6⟩
      show pj_X _ _ G 48 [(0, .ref 171), (1, .int th), (2, .int c), (3, .int us), (4, .int my), (5, .int v5)] [.int y6] _
      cases b7 : pj_c1 .ne y6 0 with
      | true =>
        have ub7 := pj_u0_neT b7
        refine pj_X_of (fun r h => pj_R_ifT 99 rfl rfl b7 h) ?_
        refine pj_X_of (fun r h => pj_R_to (G, 102, [(5, .int (v5 + Int32.ofInt 1)), (0, .ref 171), (1, .int th), (2, .int c), (3, .int us), (4, .int my)], [], 0, 0) 102 2 (fun _ => rfl) h) ?_
        obtain ⟨z8, hz8⟩ : ∃ z : Int32, z = v5 + Int32.ofInt 1 := ⟨_, rfl⟩
        rw [← hz8]
        have fz8_0 : z8.toInt = v5.toInt + (Int32.ofInt 1).toInt := by rw [hz8]; exact pj_addI (by have := pj_i32 v5; have := pj_i32 (Int32.ofInt 1); omega) (by have := pj_i32 v5; have := pj_i32 (Int32.ofInt 1); omega)
        refine pj_X_of (fun r h => pj_R_to (G, 33, [(5, .int z8), (0, .ref 171), (1, .int th), (2, .int c), (3, .int us), (4, .int my)], [], 0, 0) 33 2 (fun _ => rfl) h) ?_
        have q9 : (pj_fi G 171 4).toInt = y1.toInt := by rw [show pj_fi G 171 4 = y1 from hy1.symm]
        exact pj_X_sub [(0, .ref 171), (1, .int th), (2, .int c), (3, .int us), (4, .int my), (5, .int z8)] (show List.Nodup [0, 1, 2, 3, 4, 5] by decide) ⟨rfl, rfl, rfl, rfl, rfl, rfl, trivial⟩ (ih G hI hK z8 ⟨by omega, by omega⟩ (by omega) (by omega))
      | false =>
        have ub7 := pj_u0_neF b7
        refine pj_X_of (fun r h => pj_R_ifF rfl b7 h) ?_
        refine pj_X_of (fun r h => pj_R_to (G, 52, [(0, .ref 171), (1, .int th), (2, .int c), (3, .int us), (4, .int my), (5, .int v5)], [.ref 171], 0, 0) 52 2 (fun _ => rfl) h) ?_
        refine pj_X_of (fun r h => pj_T_gr hI rfl rfl rfl h) ?_
        refine pj_X_of (fun r h => pj_R_to (G, 57, [(0, .ref 171), (1, .int th), (2, .int c), (3, .int us), (4, .int my), (5, .int v5)], [.int v5, .ref 177], 0, 0) 57 2 (fun _ => rfl) h) ?_
        refine pj_X_of (fun r h => pj_T_il hI rfl rfl (by omega) (by omega) h) ?_
        show pj_X _ _ G 58 [(0, .ref 171), (1, .int th), (2, .int c), (3, .int us), (4, .int my), (5, .int v5)] [.int (pj_ai G 177 v5.toInt.toNat)] _
        obtain ⟨z10, hz10⟩ : ∃ z : Int32, z = pj_ai G 177 v5.toInt.toNat := ⟨_, rfl⟩
        refine pj_X_eqi hz10.symm ?_
        have ez10 : (pj_ai G 177 v5.toInt.toNat).toInt = z10.toInt := by rw [hz10]
        refine pj_X_of (fun r h => pj_R_to (G, 59, [(0, .ref 171), (1, .int th), (2, .int c), (3, .int us), (4, .int my), (5, .int v5)], [.ref 171, .int z10], 0, 0) 59 2 (fun _ => rfl) h) ?_
        refine pj_X_of (fun r h => pj_T_gr hI rfl rfl rfl h) ?_
        refine pj_X_of (fun r h => pj_R_to (G, 63, [(0, .ref 171), (1, .int th), (2, .int c), (3, .int us), (4, .int my), (5, .int v5)], [.int c, .ref 176, .int z10], 0, 0) 63 2 (fun _ => rfl) h) ?_
        refine pj_X_of (fun r h => pj_T_il hI rfl rfl (by omega) (by omega) h) ?_
        show pj_X _ _ G 64 [(0, .ref 171), (1, .int th), (2, .int c), (3, .int us), (4, .int my), (5, .int v5)] [.int (pj_ai G 176 c.toInt.toNat), .int z10] _
        obtain ⟨z11, hz11⟩ : ∃ z : Int32, z = pj_ai G 176 c.toInt.toNat := ⟨_, rfl⟩
        refine pj_X_eqi hz11.symm ?_
        have ez11 : (pj_ai G 176 c.toInt.toNat).toInt = z11.toInt := by rw [hz11]
        cases b12 : pj_c1 .lt z10 z11 with
        | true =>
          have ub12 := pj_u_ltT b12
          refine pj_X_of (fun r h => pj_R_icT 99 rfl rfl b12 h) ?_
          refine pj_X_of (fun r h => pj_R_to (G, 102, [(5, .int (v5 + Int32.ofInt 1)), (0, .ref 171), (1, .int th), (2, .int c), (3, .int us), (4, .int my)], [], 0, 0) 102 2 (fun _ => rfl) h) ?_
          obtain ⟨z13, hz13⟩ : ∃ z : Int32, z = v5 + Int32.ofInt 1 := ⟨_, rfl⟩
          rw [← hz13]
          have fz13_0 : z13.toInt = v5.toInt + (Int32.ofInt 1).toInt := by rw [hz13]; exact pj_addI (by have := pj_i32 v5; have := pj_i32 (Int32.ofInt 1); omega) (by have := pj_i32 v5; have := pj_i32 (Int32.ofInt 1); omega)
          refine pj_X_of (fun r h => pj_R_to (G, 33, [(5, .int z13), (0, .ref 171), (1, .int th), (2, .int c), (3, .int us), (4, .int my)], [], 0, 0) 33 2 (fun _ => rfl) h) ?_
          have q14 : (pj_fi G 171 4).toInt = y1.toInt := by rw [show pj_fi G 171 4 = y1 from hy1.symm]
          exact pj_X_sub [(0, .ref 171), (1, .int th), (2, .int c), (3, .int us), (4, .int my), (5, .int z13)] (show List.Nodup [0, 1, 2, 3, 4, 5] by decide) ⟨rfl, rfl, rfl, rfl, rfl, rfl, trivial⟩ (ih G hI hK z13 ⟨by omega, by omega⟩ (by omega) (by omega))
        | false =>
          have ub12 := pj_u_ltF b12
          refine pj_X_of (fun r h => pj_R_icF rfl b12 h) ?_
          refine pj_X_of (fun r h => pj_R_to (G, 68, [(0, .ref 171), (1, .int th), (2, .int c), (3, .int us), (4, .int my), (5, .int v5)], [.ref 171], 0, 0) 68 2 (fun _ => rfl) h) ?_
          refine pj_X_of (fun r h => pj_T_gr hI rfl rfl rfl h) ?_
          refine pj_X_of (fun r h => pj_R_to (G, 75, [(0, .ref 171), (1, .int th), (2, .int c), (3, .int us), (4, .int my), (5, .int v5)], [.int v5, .int my, .ref 191], 0, 0) 75 3 (fun _ => rfl) h) ?_
          refine pj_X_of (fun r h => pj_T_is hI rfl rfl (by omega) (by omega) h) ?_
          show pj_X _ _ (pj_wa G 191 my.toInt.toNat v5) 76 [(0, .ref 171), (1, .int th), (2, .int c), (3, .int us), (4, .int my), (5, .int v5)] [] _
          obtain ⟨G15, hG15⟩ : ∃ H, H = pj_wa G 191 my.toInt.toNat v5 := ⟨_, rfl⟩
          have iG15 : pj_Inv G15 := by rw [hG15]; exact pj_Inv_wa hI rfl (fun q hq => by cases hq) (fun n hn => by cases hn)
          have kG15 : pj_kpt kc_242_7 G0 G15 := by rw [hG15]; exact pj_kpt_a hK rfl
          rw [← hG15]
          refine pj_X_of (fun r h => pj_R_to (G15, 81, [(0, .ref 171), (1, .int th), (2, .int c), (3, .int us), (4, .int my), (5, .int v5)], [.int (c + (Int32.ofInt 1)), .int th, .ref 171], 0, 0) 81 6 (fun _ => rfl) h) ?_
          obtain ⟨z16, hz16⟩ : ∃ z : Int32, z = c + (Int32.ofInt 1) := ⟨_, rfl⟩
          refine pj_X_eqi hz16.symm ?_
          have fz16_0 : z16.toInt = c.toInt + (Int32.ofInt 1).toInt := by rw [hz16]; exact pj_addI (by have := pj_i32 c; have := pj_i32 (Int32.ofInt 1); omega) (by have := pj_i32 c; have := pj_i32 (Int32.ofInt 1); omega)
          refine pj_X_of (fun r h => pj_R_to (G15, 86, [(0, .ref 171), (1, .int th), (2, .int c), (3, .int us), (4, .int my), (5, .int v5)], [.int ((Int32.ofInt 1) <<< (v5 &&& 31)), .int us, .int z16, .int th, .ref 171], 0, 0) 86 5 (fun _ => rfl) h) ?_
          obtain ⟨z17, hz17⟩ : ∃ z : Int32, z = (Int32.ofInt 1) <<< (v5 &&& 31) := ⟨_, rfl⟩
          refine pj_X_eqi hz17.symm ?_
          have fz17_0 : 1 ≤ z17.toInt ∧ z17.toInt ≤ 32 := by rw [hz17]; exact pj_shlI5 (by omega) (by omega)
          refine pj_X_of (fun r h => pj_R_to (G15, 87, [(0, .ref 171), (1, .int th), (2, .int c), (3, .int us), (4, .int my), (5, .int v5)], [.int (us ||| z17), .int z16, .int th, .ref 171], 0, 0) 87 2 (fun _ => rfl) h) ?_
          obtain ⟨z18, hz18⟩ : ∃ z : Int32, z = us ||| z17 := ⟨_, rfl⟩
          refine pj_X_eqi hz18.symm ?_
          refine pj_X_of (fun r h => pj_R_to (G15, 91, [(0, .ref 171), (1, .int th), (2, .int c), (3, .int us), (4, .int my), (5, .int v5)], [.int (my + (Int32.ofInt 1)), .int z18, .int z16, .int th, .ref 171], 0, 0) 91 4 (fun _ => rfl) h) ?_
          obtain ⟨z19, hz19⟩ : ∃ z : Int32, z = my + (Int32.ofInt 1) := ⟨_, rfl⟩
          refine pj_X_eqi hz19.symm ?_
          have fz19_0 : z19.toInt = my.toInt + (Int32.ofInt 1).toInt := by rw [hz19]; exact pj_addI (by have := pj_i32 my; have := pj_i32 (Int32.ofInt 1); omega) (by have := pj_i32 my; have := pj_i32 (Int32.ofInt 1); omega)
          have q20 : (pj_fi G15 171 4).toInt = y1.toInt := by rw [show pj_fi G15 171 4 = y1 from by rw [hG15, pj_fi_wa]; exact hy1.symm]
          refine pj_X_ca (vs := [.ref 171, .int th, .int z16, .int z18, .int z19]) rfl (fun _ => rfl) ⟨Nat.le_of_ble_eq_true rfl, Nat.le_of_ble_eq_true rfl, pj_T_rcv iG15 rfl⟩ ⟨rfl, rfl⟩ (pj_Y_up (by decide) (ct_242_8 G15 iG15 th z16 z18 z19 ⟨by omega, by omega⟩ ⟨by omega, by omega⟩ (by omega))) ?_
          rintro _ G22 ⟨y21, rfl, iG22, jG22, ry21⟩
          have kG22 : pj_kpt kc_242_7 G0 G22 := pj_kpt_t kG15 (pj_kpt_s jG22 rfl)
          have q23 : (pj_fi G22 171 4).toInt = (pj_fi G15 171 4).toInt := by rw [jG22.1 (171, 4) (by decide)]
          obtain ⟨y24, hy24⟩ : ∃ z : Int32, z = pj_fi G22 171 4 := ⟨_, rfl⟩
          have ey24 : (pj_fi G22 171 4).toInt = y24.toInt := by rw [hy24]
          have ry24 : (0 : Int) ≤ y24.toInt ∧ y24.toInt ≤ 10 := by rw [hy24]; exact iG22.2.1 171 4 (0, 10) rfl
          show pj_X _ _ G22 94 [(0, .ref 171), (1, .int th), (2, .int c), (3, .int us), (4, .int my), (5, .int v5)] [.int y21] _
          cases b25 : pj_c1 .eq y21 0 with
          | true =>
            have ub25 := pj_u0_eqT b25
            refine pj_X_of (fun r h => pj_R_ifT 99 rfl rfl b25 h) ?_
            refine pj_X_of (fun r h => pj_R_to (G22, 102, [(5, .int (v5 + Int32.ofInt 1)), (0, .ref 171), (1, .int th), (2, .int c), (3, .int us), (4, .int my)], [], 0, 0) 102 2 (fun _ => rfl) h) ?_
            obtain ⟨z26, hz26⟩ : ∃ z : Int32, z = v5 + Int32.ofInt 1 := ⟨_, rfl⟩
            rw [← hz26]
            have fz26_0 : z26.toInt = v5.toInt + (Int32.ofInt 1).toInt := by rw [hz26]; exact pj_addI (by have := pj_i32 v5; have := pj_i32 (Int32.ofInt 1); omega) (by have := pj_i32 v5; have := pj_i32 (Int32.ofInt 1); omega)
            refine pj_X_of (fun r h => pj_R_to (G22, 33, [(5, .int z26), (0, .ref 171), (1, .int th), (2, .int c), (3, .int us), (4, .int my)], [], 0, 0) 33 2 (fun _ => rfl) h) ?_
            have q27 : (pj_fi G22 171 4).toInt = y24.toInt := by rw [show pj_fi G22 171 4 = y24 from hy24.symm]
            exact pj_X_sub [(0, .ref 171), (1, .int th), (2, .int c), (3, .int us), (4, .int my), (5, .int z26)] (show List.Nodup [0, 1, 2, 3, 4, 5] by decide) ⟨rfl, rfl, rfl, rfl, rfl, rfl, trivial⟩ (ih G22 iG22 kG22 z26 ⟨by omega, by omega⟩ (by omega) (by omega))
          | false =>
            have ub25 := pj_u0_eqF b25
            refine pj_X_of (fun r h => pj_R_ifF rfl b25 h) ?_
            refine pj_X_of (fun r h => pj_R_to (G22, 98, [(0, .ref 171), (1, .int th), (2, .int c), (3, .int us), (4, .int my), (5, .int v5)], [.int (Int32.ofInt 1)], 0, 0) 98 2 (fun _ => rfl) h) ?_
            have q28 : (pj_fi G22 171 4).toInt = y24.toInt := by rw [show pj_fi G22 171 4 = y24 from hy24.symm]
            exact pj_X_rt rfl rfl ⟨_, rfl, iG22, kG22, ⟨by omega, by omega⟩⟩
theorem ct_242_7 (G0 : pj_G) (hI : pj_Inv G0) (th : Int32) (c : Int32) (us : Int32) (my : Int32) (rc : (7 : Int) ≤ c.toInt ∧ c.toInt ≤ 7) (rmy : (0 : Int) ≤ my.toInt ∧ my.toInt ≤ 7) (p0_ : c.toInt ≤ (pj_fi G0 171 4).toInt) : pj_Y 6 242 [.ref 171, .int th, .int c, .int us, .int my] G0 (fun v G' => ∃ y : Int32, v = some (.int y) ∧ pj_Inv G' ∧ pj_kpt kc_242_7 G0 G' ∧ ((0 : Int) ≤ y.toInt ∧ y.toInt ≤ 1)) := by
  have c0_ : (Int32.ofInt 0).toInt = 0 := by decide
  have c1_ : (Int32.ofInt 1).toInt = 1 := by decide
  refine pj_Y_X (M := pj_m242) rfl rfl (Nat.le_of_ble_eq_true rfl) ?_
  have hK : pj_kpt kc_242_7 G0 G0 := pj_kpt_r _ _
  show pj_X _ _ G0 0 [(0, .ref 171), (1, .int th), (2, .int c), (3, .int us), (4, .int my)] [] _
  obtain ⟨y29, hy29⟩ : ∃ z : Int32, z = pj_fi G0 171 4 := ⟨_, rfl⟩
  have ey29 : (pj_fi G0 171 4).toInt = y29.toInt := by rw [hy29]
  have ry29 : (0 : Int) ≤ y29.toInt ∧ y29.toInt ≤ 10 := by rw [hy29]; exact hI.2.1 171 4 (0, 10) rfl
  refine pj_X_of (fun r h => pj_R_to (G0, 2, [(0, .ref 171), (1, .int th), (2, .int c), (3, .int us), (4, .int my)], [.ref 171, .int c], 0, 0) 2 3 (fun _ => rfl) h) ?_
  refine pj_X_of (fun r h => pj_T_gi hI rfl rfl h) ?_
  show pj_X _ _ G0 5 [(0, .ref 171), (1, .int th), (2, .int c), (3, .int us), (4, .int my)] [.int (pj_fi G0 171 4), .int c] _
  refine pj_X_eqi (show pj_fi G0 171 4 = y29 from hy29.symm) ?_
  cases b30 : pj_c1 .ne c y29 with
  | true =>
    have ub30 := pj_u_neT b30
    refine pj_X_of (fun r h => pj_R_icT 10 rfl rfl b30 h) ?_
    refine pj_X_of (fun r h => pj_R_to (G0, 12, [(0, .ref 171), (1, .int th), (2, .int c), (3, .int us), (4, .int my)], [.int c, .int th], 0, 0) 12 3 (fun _ => rfl) h) ?_
    have q31 : (pj_fi G0 171 4).toInt = y29.toInt := by rw [show pj_fi G0 171 4 = y29 from hy29.symm]
    refine pj_X_ca (vs := [.int th, .int c]) rfl (fun _ => rfl) ⟨Nat.le_of_ble_eq_true rfl, Nat.le_of_ble_eq_true rfl, rfl⟩ ⟨rfl, rfl⟩ (pj_Y_up (by decide) (ct_171bx G0 hI th c)) ?_
    rintro _ _ ⟨y32, rfl, rfl, ry32, ey32, fy32⟩
    show pj_X _ _ G0 15 [(0, .ref 171), (1, .int th), (2, .int c), (3, .int us), (4, .int my)] [.int y32] _
    cases b33 : pj_c1 .ne y32 0 with
    | true =>
      have ub33 := pj_u0_neT b33
      refine pj_X_of (fun r h => pj_R_ifT 30 rfl rfl b33 h) ?_
      refine pj_X_of (fun r h => pj_R_to (G0, 33, [(5, .int (Int32.ofInt 0)), (0, .ref 171), (1, .int th), (2, .int c), (3, .int us), (4, .int my)], [], 0, 0) 33 3 (fun _ => rfl) h) ?_
      have q34 : (pj_fi G0 171 4).toInt = y29.toInt := by rw [show pj_fi G0 171 4 = y29 from hy29.symm]
      exact pj_X_sub [(0, .ref 171), (1, .int th), (2, .int c), (3, .int us), (4, .int my), (5, .int (Int32.ofInt 0))] (show List.Nodup [0, 1, 2, 3, 4, 5] by decide) ⟨rfl, rfl, rfl, rfl, rfl, rfl, trivial⟩ ((lp_ct_242_7 G0 hI th c us my rc rmy p0_ 7) G0 hI hK (Int32.ofInt 0) ⟨by omega, by omega⟩ (by omega) (by omega))
    | false =>
      have ub33 := pj_u0_neF b33
      refine pj_X_of (fun r h => pj_R_ifF rfl b33 h) ?_
      refine pj_X_of (fun r h => pj_R_to (G0, 23, [(0, .ref 171), (1, .int th), (2, .int c), (3, .int us), (4, .int my)], [.int (c + (Int32.ofInt 1)), .int th, .ref 171], 0, 0) 23 6 (fun _ => rfl) h) ?_
      obtain ⟨z35, hz35⟩ : ∃ z : Int32, z = c + (Int32.ofInt 1) := ⟨_, rfl⟩
      refine pj_X_eqi hz35.symm ?_
      have fz35_0 : z35.toInt = c.toInt + (Int32.ofInt 1).toInt := by rw [hz35]; exact pj_addI (by have := pj_i32 c; have := pj_i32 (Int32.ofInt 1); omega) (by have := pj_i32 c; have := pj_i32 (Int32.ofInt 1); omega)
      refine pj_X_of (fun r h => pj_R_to (G0, 26, [(0, .ref 171), (1, .int th), (2, .int c), (3, .int us), (4, .int my)], [.int my, .int us, .int z35, .int th, .ref 171], 0, 0) 26 3 (fun _ => rfl) h) ?_
      have q36 : (pj_fi G0 171 4).toInt = y29.toInt := by rw [show pj_fi G0 171 4 = y29 from hy29.symm]
      refine pj_X_ca (vs := [.ref 171, .int th, .int z35, .int us, .int my]) rfl (fun _ => rfl) ⟨Nat.le_of_ble_eq_true rfl, Nat.le_of_ble_eq_true rfl, pj_T_rcv hI rfl⟩ ⟨rfl, rfl⟩ (pj_Y_up (by decide) (ct_242_8 G0 hI th z35 us my ⟨by omega, by omega⟩ ⟨by omega, by omega⟩ (by omega))) ?_
      rintro _ G38 ⟨y37, rfl, iG38, jG38, ry37⟩
      have kG38 : pj_kpt kc_242_7 G0 G38 := pj_kpt_t hK (pj_kpt_s jG38 rfl)
      have q39 : (pj_fi G38 171 4).toInt = (pj_fi G0 171 4).toInt := by rw [jG38.1 (171, 4) (by decide)]
      obtain ⟨y40, hy40⟩ : ∃ z : Int32, z = pj_fi G38 171 4 := ⟨_, rfl⟩
      have ey40 : (pj_fi G38 171 4).toInt = y40.toInt := by rw [hy40]
      have ry40 : (0 : Int) ≤ y40.toInt ∧ y40.toInt ≤ 10 := by rw [hy40]; exact iG38.2.1 171 4 (0, 10) rfl
      show pj_X _ _ G38 29 [(0, .ref 171), (1, .int th), (2, .int c), (3, .int us), (4, .int my)] [.int y37] _
      have q41 : (pj_fi G38 171 4).toInt = y40.toInt := by rw [show pj_fi G38 171 4 = y40 from hy40.symm]
      exact pj_X_rt (v := some (.int y37)) rfl (pj_rtb ⟨by omega, by omega⟩) ⟨_, rfl, iG38, kG38, ⟨by omega, by omega⟩⟩
  | false =>
    have ub30 := pj_u_neF b30
    refine pj_X_of (fun r h => pj_R_icF rfl b30 h) ?_
    refine pj_X_of (fun r h => pj_R_to (G0, 9, [(0, .ref 171), (1, .int th), (2, .int c), (3, .int us), (4, .int my)], [.int (Int32.ofInt 1)], 0, 0) 9 2 (fun _ => rfl) h) ?_
    have q42 : (pj_fi G0 171 4).toInt = y29.toInt := by rw [show pj_fi G0 171 4 = y29 from hy29.symm]
    exact pj_X_rt rfl rfl ⟨_, rfl, hI, hK, ⟨by omega, by omega⟩⟩
def kc_242_6 : pj_KT := ([], [191], [191])
theorem lp_ct_242_6 (G0 : pj_G) (hI0 : pj_Inv G0) (th : Int32) (c : Int32) (us : Int32) (my : Int32) (rc : (6 : Int) ≤ c.toInt ∧ c.toInt ≤ 6) (rmy : (0 : Int) ≤ my.toInt ∧ my.toInt ≤ 6) (p0_ : c.toInt ≤ (pj_fi G0 171 4).toInt) : ∀ mn : Nat, (∀ (G : pj_G) (hI : pj_Inv G) (hK : pj_kpt kc_242_6 G0 G) (v5 : Int32), ((0 : Int) ≤ v5.toInt ∧ v5.toInt ≤ 6) → (c.toInt < (pj_fi G 171 4).toInt) → 6 - v5.toInt < (mn : Int) → pj_X 6 pj_m242 G 33 [(0, .ref 171), (1, .int th), (2, .int c), (3, .int us), (4, .int my), (5, .int v5)] [] (fun v G' => ∃ y : Int32, v = some (.int y) ∧ pj_Inv G' ∧ pj_kpt kc_242_6 G0 G' ∧ ((0 : Int) ≤ y.toInt ∧ y.toInt ≤ 1))) := by
  have c0_ : (Int32.ofInt 0).toInt = 0 := by decide
  have c1_ : (Int32.ofInt 1).toInt = 1 := by decide
  intro mn
  induction mn with
  | zero =>
    intro G hI hK v5 rv5 x0_ hm
    exfalso
    omega
  | succ mn ih =>
    intro G hI hK v5 rv5 x0_ hm
    obtain ⟨y1, hy1⟩ : ∃ z : Int32, z = pj_fi G 171 4 := ⟨_, rfl⟩
    have ey1 : (pj_fi G 171 4).toInt = y1.toInt := by rw [hy1]
    have ry1 : (0 : Int) ≤ y1.toInt ∧ y1.toInt ≤ 10 := by rw [hy1]; exact hI.2.1 171 4 (0, 10) rfl
    refine pj_X_of (fun r h => pj_R_to (G, 36, [(0, .ref 171), (1, .int th), (2, .int c), (3, .int us), (4, .int my), (5, .int v5)], [.ref 171, .int v5], 0, 0) 36 3 (fun _ => rfl) h) ?_
    refine pj_X_of (fun r h => pj_T_gi hI rfl rfl h) ?_
    show pj_X _ _ G 39 [(0, .ref 171), (1, .int th), (2, .int c), (3, .int us), (4, .int my), (5, .int v5)] [.int (pj_fi G 171 5), .int v5] _
    obtain ⟨y2, hy2⟩ : ∃ z : Int32, z = pj_fi G 171 5 := ⟨_, rfl⟩
    refine pj_X_eqi hy2.symm ?_
    have ey2 : (pj_fi G 171 5).toInt = y2.toInt := by rw [hy2]
    have ry2 : (0 : Int) ≤ y2.toInt ∧ y2.toInt ≤ 6 := by rw [hy2]; exact hI.2.1 171 5 (0, 6) rfl
    cases b3 : pj_c1 .ge v5 y2 with
    | true =>
      have ub3 := pj_u_geT b3
      refine pj_X_of (fun r h => pj_R_icT 105 rfl rfl b3 h) ?_
      refine pj_X_of (fun r h => pj_R_to (G, 106, [(0, .ref 171), (1, .int th), (2, .int c), (3, .int us), (4, .int my), (5, .int v5)], [.int (Int32.ofInt 0)], 0, 0) 106 2 (fun _ => rfl) h) ?_
      have q4 : (pj_fi G 171 4).toInt = y1.toInt := by rw [show pj_fi G 171 4 = y1 from hy1.symm]
      exact pj_X_rt rfl rfl ⟨_, rfl, hI, hK, ⟨by omega, by omega⟩⟩
    | false =>
      have ub3 := pj_u_geF b3
      refine pj_X_of (fun r h => pj_R_icF rfl b3 h) ?_
      refine pj_X_of (fun r h => pj_R_to (G, 45, [(0, .ref 171), (1, .int th), (2, .int c), (3, .int us), (4, .int my), (5, .int v5)], [.int v5, .int us], 0, 0) 45 3 (fun _ => rfl) h) ?_
      have q5 : (pj_fi G 171 4).toInt = y1.toInt := by rw [show pj_fi G 171 4 = y1 from hy1.symm]
      refine pj_X_ca (vs := [.int us, .int v5]) rfl (fun _ => rfl) ⟨Nat.le_of_ble_eq_true rfl, Nat.le_of_ble_eq_true rfl, rfl⟩ ⟨rfl, rfl⟩ (pj_Y_up (by decide) (ct_171bx G hI us v5)) ?_
      rintro _ _ ⟨y6, rfl, rfl, ry6, ey6, fy6⟩
      show pj_X _ _ G 48 [(0, .ref 171), (1, .int th), (2, .int c), (3, .int us), (4, .int my), (5, .int v5)] [.int y6] _
      cases b7 : pj_c1 .ne y6 0 with
      | true =>
        have ub7 := pj_u0_neT b7
        refine pj_X_of (fun r h => pj_R_ifT 99 rfl rfl b7 h) ?_
        refine pj_X_of (fun r h => pj_R_to (G, 102, [(5, .int (v5 + Int32.ofInt 1)), (0, .ref 171), (1, .int th), (2, .int c), (3, .int us), (4, .int my)], [], 0, 0) 102 2 (fun _ => rfl) h) ?_
        obtain ⟨z8, hz8⟩ : ∃ z : Int32, z = v5 + Int32.ofInt 1 := ⟨_, rfl⟩
        rw [← hz8]
        have fz8_0 : z8.toInt = v5.toInt + (Int32.ofInt 1).toInt := by rw [hz8]; exact pj_addI (by have := pj_i32 v5; have := pj_i32 (Int32.ofInt 1); omega) (by have := pj_i32 v5; have := pj_i32 (Int32.ofInt 1); omega)
        refine pj_X_of (fun r h => pj_R_to (G, 33, [(5, .int z8), (0, .ref 171), (1, .int th), (2, .int c), (3, .int us), (4, .int my)], [], 0, 0) 33 2 (fun _ => rfl) h) ?_
        have q9 : (pj_fi G 171 4).toInt = y1.toInt := by rw [show pj_fi G 171 4 = y1 from hy1.symm]
        exact pj_X_sub [(0, .ref 171), (1, .int th), (2, .int c), (3, .int us), (4, .int my), (5, .int z8)] (show List.Nodup [0, 1, 2, 3, 4, 5] by decide) ⟨rfl, rfl, rfl, rfl, rfl, rfl, trivial⟩ (ih G hI hK z8 ⟨by omega, by omega⟩ (by omega) (by omega))
      | false =>
        have ub7 := pj_u0_neF b7
        refine pj_X_of (fun r h => pj_R_ifF rfl b7 h) ?_
        refine pj_X_of (fun r h => pj_R_to (G, 52, [(0, .ref 171), (1, .int th), (2, .int c), (3, .int us), (4, .int my), (5, .int v5)], [.ref 171], 0, 0) 52 2 (fun _ => rfl) h) ?_
        refine pj_X_of (fun r h => pj_T_gr hI rfl rfl rfl h) ?_
        refine pj_X_of (fun r h => pj_R_to (G, 57, [(0, .ref 171), (1, .int th), (2, .int c), (3, .int us), (4, .int my), (5, .int v5)], [.int v5, .ref 177], 0, 0) 57 2 (fun _ => rfl) h) ?_
        refine pj_X_of (fun r h => pj_T_il hI rfl rfl (by omega) (by omega) h) ?_
        show pj_X _ _ G 58 [(0, .ref 171), (1, .int th), (2, .int c), (3, .int us), (4, .int my), (5, .int v5)] [.int (pj_ai G 177 v5.toInt.toNat)] _
        obtain ⟨z10, hz10⟩ : ∃ z : Int32, z = pj_ai G 177 v5.toInt.toNat := ⟨_, rfl⟩
        refine pj_X_eqi hz10.symm ?_
        have ez10 : (pj_ai G 177 v5.toInt.toNat).toInt = z10.toInt := by rw [hz10]
        refine pj_X_of (fun r h => pj_R_to (G, 59, [(0, .ref 171), (1, .int th), (2, .int c), (3, .int us), (4, .int my), (5, .int v5)], [.ref 171, .int z10], 0, 0) 59 2 (fun _ => rfl) h) ?_
        refine pj_X_of (fun r h => pj_T_gr hI rfl rfl rfl h) ?_
        refine pj_X_of (fun r h => pj_R_to (G, 63, [(0, .ref 171), (1, .int th), (2, .int c), (3, .int us), (4, .int my), (5, .int v5)], [.int c, .ref 176, .int z10], 0, 0) 63 2 (fun _ => rfl) h) ?_
        refine pj_X_of (fun r h => pj_T_il hI rfl rfl (by omega) (by omega) h) ?_
        show pj_X _ _ G 64 [(0, .ref 171), (1, .int th), (2, .int c), (3, .int us), (4, .int my), (5, .int v5)] [.int (pj_ai G 176 c.toInt.toNat), .int z10] _
        obtain ⟨z11, hz11⟩ : ∃ z : Int32, z = pj_ai G 176 c.toInt.toNat := ⟨_, rfl⟩
        refine pj_X_eqi hz11.symm ?_
        have ez11 : (pj_ai G 176 c.toInt.toNat).toInt = z11.toInt := by rw [hz11]
        cases b12 : pj_c1 .lt z10 z11 with
        | true =>
          have ub12 := pj_u_ltT b12
          refine pj_X_of (fun r h => pj_R_icT 99 rfl rfl b12 h) ?_
          refine pj_X_of (fun r h => pj_R_to (G, 102, [(5, .int (v5 + Int32.ofInt 1)), (0, .ref 171), (1, .int th), (2, .int c), (3, .int us), (4, .int my)], [], 0, 0) 102 2 (fun _ => rfl) h) ?_
          obtain ⟨z13, hz13⟩ : ∃ z : Int32, z = v5 + Int32.ofInt 1 := ⟨_, rfl⟩
          rw [← hz13]
          have fz13_0 : z13.toInt = v5.toInt + (Int32.ofInt 1).toInt := by rw [hz13]; exact pj_addI (by have := pj_i32 v5; have := pj_i32 (Int32.ofInt 1); omega) (by have := pj_i32 v5; have := pj_i32 (Int32.ofInt 1); omega)
          refine pj_X_of (fun r h => pj_R_to (G, 33, [(5, .int z13), (0, .ref 171), (1, .int th), (2, .int c), (3, .int us), (4, .int my)], [], 0, 0) 33 2 (fun _ => rfl) h) ?_
          have q14 : (pj_fi G 171 4).toInt = y1.toInt := by rw [show pj_fi G 171 4 = y1 from hy1.symm]
          exact pj_X_sub [(0, .ref 171), (1, .int th), (2, .int c), (3, .int us), (4, .int my), (5, .int z13)] (show List.Nodup [0, 1, 2, 3, 4, 5] by decide) ⟨rfl, rfl, rfl, rfl, rfl, rfl, trivial⟩ (ih G hI hK z13 ⟨by omega, by omega⟩ (by omega) (by omega))
        | false =>
          have ub12 := pj_u_ltF b12
          refine pj_X_of (fun r h => pj_R_icF rfl b12 h) ?_
          refine pj_X_of (fun r h => pj_R_to (G, 68, [(0, .ref 171), (1, .int th), (2, .int c), (3, .int us), (4, .int my), (5, .int v5)], [.ref 171], 0, 0) 68 2 (fun _ => rfl) h) ?_
          refine pj_X_of (fun r h => pj_T_gr hI rfl rfl rfl h) ?_
          refine pj_X_of (fun r h => pj_R_to (G, 75, [(0, .ref 171), (1, .int th), (2, .int c), (3, .int us), (4, .int my), (5, .int v5)], [.int v5, .int my, .ref 191], 0, 0) 75 3 (fun _ => rfl) h) ?_
          refine pj_X_of (fun r h => pj_T_is hI rfl rfl (by omega) (by omega) h) ?_
          show pj_X _ _ (pj_wa G 191 my.toInt.toNat v5) 76 [(0, .ref 171), (1, .int th), (2, .int c), (3, .int us), (4, .int my), (5, .int v5)] [] _
          obtain ⟨G15, hG15⟩ : ∃ H, H = pj_wa G 191 my.toInt.toNat v5 := ⟨_, rfl⟩
          have iG15 : pj_Inv G15 := by rw [hG15]; exact pj_Inv_wa hI rfl (fun q hq => by cases hq) (fun n hn => by cases hn)
          have kG15 : pj_kpt kc_242_6 G0 G15 := by rw [hG15]; exact pj_kpt_a hK rfl
          rw [← hG15]
          refine pj_X_of (fun r h => pj_R_to (G15, 81, [(0, .ref 171), (1, .int th), (2, .int c), (3, .int us), (4, .int my), (5, .int v5)], [.int (c + (Int32.ofInt 1)), .int th, .ref 171], 0, 0) 81 6 (fun _ => rfl) h) ?_
          obtain ⟨z16, hz16⟩ : ∃ z : Int32, z = c + (Int32.ofInt 1) := ⟨_, rfl⟩
          refine pj_X_eqi hz16.symm ?_
          have fz16_0 : z16.toInt = c.toInt + (Int32.ofInt 1).toInt := by rw [hz16]; exact pj_addI (by have := pj_i32 c; have := pj_i32 (Int32.ofInt 1); omega) (by have := pj_i32 c; have := pj_i32 (Int32.ofInt 1); omega)
          refine pj_X_of (fun r h => pj_R_to (G15, 86, [(0, .ref 171), (1, .int th), (2, .int c), (3, .int us), (4, .int my), (5, .int v5)], [.int ((Int32.ofInt 1) <<< (v5 &&& 31)), .int us, .int z16, .int th, .ref 171], 0, 0) 86 5 (fun _ => rfl) h) ?_
          obtain ⟨z17, hz17⟩ : ∃ z : Int32, z = (Int32.ofInt 1) <<< (v5 &&& 31) := ⟨_, rfl⟩
          refine pj_X_eqi hz17.symm ?_
          have fz17_0 : 1 ≤ z17.toInt ∧ z17.toInt ≤ 32 := by rw [hz17]; exact pj_shlI5 (by omega) (by omega)
          refine pj_X_of (fun r h => pj_R_to (G15, 87, [(0, .ref 171), (1, .int th), (2, .int c), (3, .int us), (4, .int my), (5, .int v5)], [.int (us ||| z17), .int z16, .int th, .ref 171], 0, 0) 87 2 (fun _ => rfl) h) ?_
          obtain ⟨z18, hz18⟩ : ∃ z : Int32, z = us ||| z17 := ⟨_, rfl⟩
          refine pj_X_eqi hz18.symm ?_
          refine pj_X_of (fun r h => pj_R_to (G15, 91, [(0, .ref 171), (1, .int th), (2, .int c), (3, .int us), (4, .int my), (5, .int v5)], [.int (my + (Int32.ofInt 1)), .int z18, .int z16, .int th, .ref 171], 0, 0) 91 4 (fun _ => rfl) h) ?_
          obtain ⟨z19, hz19⟩ : ∃ z : Int32, z = my + (Int32.ofInt 1) := ⟨_, rfl⟩
          refine pj_X_eqi hz19.symm ?_
          have fz19_0 : z19.toInt = my.toInt + (Int32.ofInt 1).toInt := by rw [hz19]; exact pj_addI (by have := pj_i32 my; have := pj_i32 (Int32.ofInt 1); omega) (by have := pj_i32 my; have := pj_i32 (Int32.ofInt 1); omega)
          have q20 : (pj_fi G15 171 4).toInt = y1.toInt := by rw [show pj_fi G15 171 4 = y1 from by rw [hG15, pj_fi_wa]; exact hy1.symm]
          refine pj_X_ca (vs := [.ref 171, .int th, .int z16, .int z18, .int z19]) rfl (fun _ => rfl) ⟨Nat.le_of_ble_eq_true rfl, Nat.le_of_ble_eq_true rfl, pj_T_rcv iG15 rfl⟩ ⟨rfl, rfl⟩ (pj_Y_up (by decide) (ct_242_7 G15 iG15 th z16 z18 z19 ⟨by omega, by omega⟩ ⟨by omega, by omega⟩ (by omega))) ?_
          rintro _ G22 ⟨y21, rfl, iG22, jG22, ry21⟩
          have kG22 : pj_kpt kc_242_6 G0 G22 := pj_kpt_t kG15 (pj_kpt_s jG22 rfl)
          have q23 : (pj_fi G22 171 4).toInt = (pj_fi G15 171 4).toInt := by rw [jG22.1 (171, 4) (by decide)]
          obtain ⟨y24, hy24⟩ : ∃ z : Int32, z = pj_fi G22 171 4 := ⟨_, rfl⟩
          have ey24 : (pj_fi G22 171 4).toInt = y24.toInt := by rw [hy24]
          have ry24 : (0 : Int) ≤ y24.toInt ∧ y24.toInt ≤ 10 := by rw [hy24]; exact iG22.2.1 171 4 (0, 10) rfl
          show pj_X _ _ G22 94 [(0, .ref 171), (1, .int th), (2, .int c), (3, .int us), (4, .int my), (5, .int v5)] [.int y21] _
          cases b25 : pj_c1 .eq y21 0 with
          | true =>
            have ub25 := pj_u0_eqT b25
            refine pj_X_of (fun r h => pj_R_ifT 99 rfl rfl b25 h) ?_
            refine pj_X_of (fun r h => pj_R_to (G22, 102, [(5, .int (v5 + Int32.ofInt 1)), (0, .ref 171), (1, .int th), (2, .int c), (3, .int us), (4, .int my)], [], 0, 0) 102 2 (fun _ => rfl) h) ?_
            obtain ⟨z26, hz26⟩ : ∃ z : Int32, z = v5 + Int32.ofInt 1 := ⟨_, rfl⟩
            rw [← hz26]
            have fz26_0 : z26.toInt = v5.toInt + (Int32.ofInt 1).toInt := by rw [hz26]; exact pj_addI (by have := pj_i32 v5; have := pj_i32 (Int32.ofInt 1); omega) (by have := pj_i32 v5; have := pj_i32 (Int32.ofInt 1); omega)
            refine pj_X_of (fun r h => pj_R_to (G22, 33, [(5, .int z26), (0, .ref 171), (1, .int th), (2, .int c), (3, .int us), (4, .int my)], [], 0, 0) 33 2 (fun _ => rfl) h) ?_
            have q27 : (pj_fi G22 171 4).toInt = y24.toInt := by rw [show pj_fi G22 171 4 = y24 from hy24.symm]
            exact pj_X_sub [(0, .ref 171), (1, .int th), (2, .int c), (3, .int us), (4, .int my), (5, .int z26)] (show List.Nodup [0, 1, 2, 3, 4, 5] by decide) ⟨rfl, rfl, rfl, rfl, rfl, rfl, trivial⟩ (ih G22 iG22 kG22 z26 ⟨by omega, by omega⟩ (by omega) (by omega))
          | false =>
            have ub25 := pj_u0_eqF b25
            refine pj_X_of (fun r h => pj_R_ifF rfl b25 h) ?_
            refine pj_X_of (fun r h => pj_R_to (G22, 98, [(0, .ref 171), (1, .int th), (2, .int c), (3, .int us), (4, .int my), (5, .int v5)], [.int (Int32.ofInt 1)], 0, 0) 98 2 (fun _ => rfl) h) ?_
            have q28 : (pj_fi G22 171 4).toInt = y24.toInt := by rw [show pj_fi G22 171 4 = y24 from hy24.symm]
            exact pj_X_rt rfl rfl ⟨_, rfl, iG22, kG22, ⟨by omega, by omega⟩⟩
theorem ct_242_6 (G0 : pj_G) (hI : pj_Inv G0) (th : Int32) (c : Int32) (us : Int32) (my : Int32) (rc : (6 : Int) ≤ c.toInt ∧ c.toInt ≤ 6) (rmy : (0 : Int) ≤ my.toInt ∧ my.toInt ≤ 6) (p0_ : c.toInt ≤ (pj_fi G0 171 4).toInt) : pj_Y 7 242 [.ref 171, .int th, .int c, .int us, .int my] G0 (fun v G' => ∃ y : Int32, v = some (.int y) ∧ pj_Inv G' ∧ pj_kpt kc_242_6 G0 G' ∧ ((0 : Int) ≤ y.toInt ∧ y.toInt ≤ 1)) := by
  have c0_ : (Int32.ofInt 0).toInt = 0 := by decide
  have c1_ : (Int32.ofInt 1).toInt = 1 := by decide
  refine pj_Y_X (M := pj_m242) rfl rfl (Nat.le_of_ble_eq_true rfl) ?_
  have hK : pj_kpt kc_242_6 G0 G0 := pj_kpt_r _ _
  show pj_X _ _ G0 0 [(0, .ref 171), (1, .int th), (2, .int c), (3, .int us), (4, .int my)] [] _
  obtain ⟨y29, hy29⟩ : ∃ z : Int32, z = pj_fi G0 171 4 := ⟨_, rfl⟩
  have ey29 : (pj_fi G0 171 4).toInt = y29.toInt := by rw [hy29]
  have ry29 : (0 : Int) ≤ y29.toInt ∧ y29.toInt ≤ 10 := by rw [hy29]; exact hI.2.1 171 4 (0, 10) rfl
  refine pj_X_of (fun r h => pj_R_to (G0, 2, [(0, .ref 171), (1, .int th), (2, .int c), (3, .int us), (4, .int my)], [.ref 171, .int c], 0, 0) 2 3 (fun _ => rfl) h) ?_
  refine pj_X_of (fun r h => pj_T_gi hI rfl rfl h) ?_
  show pj_X _ _ G0 5 [(0, .ref 171), (1, .int th), (2, .int c), (3, .int us), (4, .int my)] [.int (pj_fi G0 171 4), .int c] _
  refine pj_X_eqi (show pj_fi G0 171 4 = y29 from hy29.symm) ?_
  cases b30 : pj_c1 .ne c y29 with
  | true =>
    have ub30 := pj_u_neT b30
    refine pj_X_of (fun r h => pj_R_icT 10 rfl rfl b30 h) ?_
    refine pj_X_of (fun r h => pj_R_to (G0, 12, [(0, .ref 171), (1, .int th), (2, .int c), (3, .int us), (4, .int my)], [.int c, .int th], 0, 0) 12 3 (fun _ => rfl) h) ?_
    have q31 : (pj_fi G0 171 4).toInt = y29.toInt := by rw [show pj_fi G0 171 4 = y29 from hy29.symm]
    refine pj_X_ca (vs := [.int th, .int c]) rfl (fun _ => rfl) ⟨Nat.le_of_ble_eq_true rfl, Nat.le_of_ble_eq_true rfl, rfl⟩ ⟨rfl, rfl⟩ (pj_Y_up (by decide) (ct_171bx G0 hI th c)) ?_
    rintro _ _ ⟨y32, rfl, rfl, ry32, ey32, fy32⟩
    show pj_X _ _ G0 15 [(0, .ref 171), (1, .int th), (2, .int c), (3, .int us), (4, .int my)] [.int y32] _
    cases b33 : pj_c1 .ne y32 0 with
    | true =>
      have ub33 := pj_u0_neT b33
      refine pj_X_of (fun r h => pj_R_ifT 30 rfl rfl b33 h) ?_
      refine pj_X_of (fun r h => pj_R_to (G0, 33, [(5, .int (Int32.ofInt 0)), (0, .ref 171), (1, .int th), (2, .int c), (3, .int us), (4, .int my)], [], 0, 0) 33 3 (fun _ => rfl) h) ?_
      have q34 : (pj_fi G0 171 4).toInt = y29.toInt := by rw [show pj_fi G0 171 4 = y29 from hy29.symm]
      exact pj_X_sub [(0, .ref 171), (1, .int th), (2, .int c), (3, .int us), (4, .int my), (5, .int (Int32.ofInt 0))] (show List.Nodup [0, 1, 2, 3, 4, 5] by decide) ⟨rfl, rfl, rfl, rfl, rfl, rfl, trivial⟩ ((lp_ct_242_6 G0 hI th c us my rc rmy p0_ 7) G0 hI hK (Int32.ofInt 0) ⟨by omega, by omega⟩ (by omega) (by omega))
    | false =>
      have ub33 := pj_u0_neF b33
      refine pj_X_of (fun r h => pj_R_ifF rfl b33 h) ?_
      refine pj_X_of (fun r h => pj_R_to (G0, 23, [(0, .ref 171), (1, .int th), (2, .int c), (3, .int us), (4, .int my)], [.int (c + (Int32.ofInt 1)), .int th, .ref 171], 0, 0) 23 6 (fun _ => rfl) h) ?_
      obtain ⟨z35, hz35⟩ : ∃ z : Int32, z = c + (Int32.ofInt 1) := ⟨_, rfl⟩
      refine pj_X_eqi hz35.symm ?_
      have fz35_0 : z35.toInt = c.toInt + (Int32.ofInt 1).toInt := by rw [hz35]; exact pj_addI (by have := pj_i32 c; have := pj_i32 (Int32.ofInt 1); omega) (by have := pj_i32 c; have := pj_i32 (Int32.ofInt 1); omega)
      refine pj_X_of (fun r h => pj_R_to (G0, 26, [(0, .ref 171), (1, .int th), (2, .int c), (3, .int us), (4, .int my)], [.int my, .int us, .int z35, .int th, .ref 171], 0, 0) 26 3 (fun _ => rfl) h) ?_
      have q36 : (pj_fi G0 171 4).toInt = y29.toInt := by rw [show pj_fi G0 171 4 = y29 from hy29.symm]
      refine pj_X_ca (vs := [.ref 171, .int th, .int z35, .int us, .int my]) rfl (fun _ => rfl) ⟨Nat.le_of_ble_eq_true rfl, Nat.le_of_ble_eq_true rfl, pj_T_rcv hI rfl⟩ ⟨rfl, rfl⟩ (pj_Y_up (by decide) (ct_242_7 G0 hI th z35 us my ⟨by omega, by omega⟩ ⟨by omega, by omega⟩ (by omega))) ?_
      rintro _ G38 ⟨y37, rfl, iG38, jG38, ry37⟩
      have kG38 : pj_kpt kc_242_6 G0 G38 := pj_kpt_t hK (pj_kpt_s jG38 rfl)
      have q39 : (pj_fi G38 171 4).toInt = (pj_fi G0 171 4).toInt := by rw [jG38.1 (171, 4) (by decide)]
      obtain ⟨y40, hy40⟩ : ∃ z : Int32, z = pj_fi G38 171 4 := ⟨_, rfl⟩
      have ey40 : (pj_fi G38 171 4).toInt = y40.toInt := by rw [hy40]
      have ry40 : (0 : Int) ≤ y40.toInt ∧ y40.toInt ≤ 10 := by rw [hy40]; exact iG38.2.1 171 4 (0, 10) rfl
      show pj_X _ _ G38 29 [(0, .ref 171), (1, .int th), (2, .int c), (3, .int us), (4, .int my)] [.int y37] _
      have q41 : (pj_fi G38 171 4).toInt = y40.toInt := by rw [show pj_fi G38 171 4 = y40 from hy40.symm]
      exact pj_X_rt (v := some (.int y37)) rfl (pj_rtb ⟨by omega, by omega⟩) ⟨_, rfl, iG38, kG38, ⟨by omega, by omega⟩⟩
  | false =>
    have ub30 := pj_u_neF b30
    refine pj_X_of (fun r h => pj_R_icF rfl b30 h) ?_
    refine pj_X_of (fun r h => pj_R_to (G0, 9, [(0, .ref 171), (1, .int th), (2, .int c), (3, .int us), (4, .int my)], [.int (Int32.ofInt 1)], 0, 0) 9 2 (fun _ => rfl) h) ?_
    have q42 : (pj_fi G0 171 4).toInt = y29.toInt := by rw [show pj_fi G0 171 4 = y29 from hy29.symm]
    exact pj_X_rt rfl rfl ⟨_, rfl, hI, hK, ⟨by omega, by omega⟩⟩
def kc_242_5 : pj_KT := ([], [191], [191])
theorem lp_ct_242_5 (G0 : pj_G) (hI0 : pj_Inv G0) (th : Int32) (c : Int32) (us : Int32) (my : Int32) (rc : (5 : Int) ≤ c.toInt ∧ c.toInt ≤ 5) (rmy : (0 : Int) ≤ my.toInt ∧ my.toInt ≤ 5) (p0_ : c.toInt ≤ (pj_fi G0 171 4).toInt) : ∀ mn : Nat, (∀ (G : pj_G) (hI : pj_Inv G) (hK : pj_kpt kc_242_5 G0 G) (v5 : Int32), ((0 : Int) ≤ v5.toInt ∧ v5.toInt ≤ 6) → (c.toInt < (pj_fi G 171 4).toInt) → 6 - v5.toInt < (mn : Int) → pj_X 7 pj_m242 G 33 [(0, .ref 171), (1, .int th), (2, .int c), (3, .int us), (4, .int my), (5, .int v5)] [] (fun v G' => ∃ y : Int32, v = some (.int y) ∧ pj_Inv G' ∧ pj_kpt kc_242_5 G0 G' ∧ ((0 : Int) ≤ y.toInt ∧ y.toInt ≤ 1))) := by
  have c0_ : (Int32.ofInt 0).toInt = 0 := by decide
  have c1_ : (Int32.ofInt 1).toInt = 1 := by decide
  intro mn
  induction mn with
  | zero =>
    intro G hI hK v5 rv5 x0_ hm
    exfalso
    omega
  | succ mn ih =>
    intro G hI hK v5 rv5 x0_ hm
    obtain ⟨y1, hy1⟩ : ∃ z : Int32, z = pj_fi G 171 4 := ⟨_, rfl⟩
    have ey1 : (pj_fi G 171 4).toInt = y1.toInt := by rw [hy1]
    have ry1 : (0 : Int) ≤ y1.toInt ∧ y1.toInt ≤ 10 := by rw [hy1]; exact hI.2.1 171 4 (0, 10) rfl
    refine pj_X_of (fun r h => pj_R_to (G, 36, [(0, .ref 171), (1, .int th), (2, .int c), (3, .int us), (4, .int my), (5, .int v5)], [.ref 171, .int v5], 0, 0) 36 3 (fun _ => rfl) h) ?_
    refine pj_X_of (fun r h => pj_T_gi hI rfl rfl h) ?_
    show pj_X _ _ G 39 [(0, .ref 171), (1, .int th), (2, .int c), (3, .int us), (4, .int my), (5, .int v5)] [.int (pj_fi G 171 5), .int v5] _
    obtain ⟨y2, hy2⟩ : ∃ z : Int32, z = pj_fi G 171 5 := ⟨_, rfl⟩
    refine pj_X_eqi hy2.symm ?_
    have ey2 : (pj_fi G 171 5).toInt = y2.toInt := by rw [hy2]
    have ry2 : (0 : Int) ≤ y2.toInt ∧ y2.toInt ≤ 6 := by rw [hy2]; exact hI.2.1 171 5 (0, 6) rfl
    cases b3 : pj_c1 .ge v5 y2 with
    | true =>
      have ub3 := pj_u_geT b3
      refine pj_X_of (fun r h => pj_R_icT 105 rfl rfl b3 h) ?_
      refine pj_X_of (fun r h => pj_R_to (G, 106, [(0, .ref 171), (1, .int th), (2, .int c), (3, .int us), (4, .int my), (5, .int v5)], [.int (Int32.ofInt 0)], 0, 0) 106 2 (fun _ => rfl) h) ?_
      have q4 : (pj_fi G 171 4).toInt = y1.toInt := by rw [show pj_fi G 171 4 = y1 from hy1.symm]
      exact pj_X_rt rfl rfl ⟨_, rfl, hI, hK, ⟨by omega, by omega⟩⟩
    | false =>
      have ub3 := pj_u_geF b3
      refine pj_X_of (fun r h => pj_R_icF rfl b3 h) ?_
      refine pj_X_of (fun r h => pj_R_to (G, 45, [(0, .ref 171), (1, .int th), (2, .int c), (3, .int us), (4, .int my), (5, .int v5)], [.int v5, .int us], 0, 0) 45 3 (fun _ => rfl) h) ?_
      have q5 : (pj_fi G 171 4).toInt = y1.toInt := by rw [show pj_fi G 171 4 = y1 from hy1.symm]
      refine pj_X_ca (vs := [.int us, .int v5]) rfl (fun _ => rfl) ⟨Nat.le_of_ble_eq_true rfl, Nat.le_of_ble_eq_true rfl, rfl⟩ ⟨rfl, rfl⟩ (pj_Y_up (by decide) (ct_171bx G hI us v5)) ?_
      rintro _ _ ⟨y6, rfl, rfl, ry6, ey6, fy6⟩
      show pj_X _ _ G 48 [(0, .ref 171), (1, .int th), (2, .int c), (3, .int us), (4, .int my), (5, .int v5)] [.int y6] _
      cases b7 : pj_c1 .ne y6 0 with
      | true =>
        have ub7 := pj_u0_neT b7
        refine pj_X_of (fun r h => pj_R_ifT 99 rfl rfl b7 h) ?_
        refine pj_X_of (fun r h => pj_R_to (G, 102, [(5, .int (v5 + Int32.ofInt 1)), (0, .ref 171), (1, .int th), (2, .int c), (3, .int us), (4, .int my)], [], 0, 0) 102 2 (fun _ => rfl) h) ?_
        obtain ⟨z8, hz8⟩ : ∃ z : Int32, z = v5 + Int32.ofInt 1 := ⟨_, rfl⟩
        rw [← hz8]
        have fz8_0 : z8.toInt = v5.toInt + (Int32.ofInt 1).toInt := by rw [hz8]; exact pj_addI (by have := pj_i32 v5; have := pj_i32 (Int32.ofInt 1); omega) (by have := pj_i32 v5; have := pj_i32 (Int32.ofInt 1); omega)
        refine pj_X_of (fun r h => pj_R_to (G, 33, [(5, .int z8), (0, .ref 171), (1, .int th), (2, .int c), (3, .int us), (4, .int my)], [], 0, 0) 33 2 (fun _ => rfl) h) ?_
        have q9 : (pj_fi G 171 4).toInt = y1.toInt := by rw [show pj_fi G 171 4 = y1 from hy1.symm]
        exact pj_X_sub [(0, .ref 171), (1, .int th), (2, .int c), (3, .int us), (4, .int my), (5, .int z8)] (show List.Nodup [0, 1, 2, 3, 4, 5] by decide) ⟨rfl, rfl, rfl, rfl, rfl, rfl, trivial⟩ (ih G hI hK z8 ⟨by omega, by omega⟩ (by omega) (by omega))
      | false =>
        have ub7 := pj_u0_neF b7
        refine pj_X_of (fun r h => pj_R_ifF rfl b7 h) ?_
        refine pj_X_of (fun r h => pj_R_to (G, 52, [(0, .ref 171), (1, .int th), (2, .int c), (3, .int us), (4, .int my), (5, .int v5)], [.ref 171], 0, 0) 52 2 (fun _ => rfl) h) ?_
        refine pj_X_of (fun r h => pj_T_gr hI rfl rfl rfl h) ?_
        refine pj_X_of (fun r h => pj_R_to (G, 57, [(0, .ref 171), (1, .int th), (2, .int c), (3, .int us), (4, .int my), (5, .int v5)], [.int v5, .ref 177], 0, 0) 57 2 (fun _ => rfl) h) ?_
        refine pj_X_of (fun r h => pj_T_il hI rfl rfl (by omega) (by omega) h) ?_
        show pj_X _ _ G 58 [(0, .ref 171), (1, .int th), (2, .int c), (3, .int us), (4, .int my), (5, .int v5)] [.int (pj_ai G 177 v5.toInt.toNat)] _
        obtain ⟨z10, hz10⟩ : ∃ z : Int32, z = pj_ai G 177 v5.toInt.toNat := ⟨_, rfl⟩
        refine pj_X_eqi hz10.symm ?_
        have ez10 : (pj_ai G 177 v5.toInt.toNat).toInt = z10.toInt := by rw [hz10]
        refine pj_X_of (fun r h => pj_R_to (G, 59, [(0, .ref 171), (1, .int th), (2, .int c), (3, .int us), (4, .int my), (5, .int v5)], [.ref 171, .int z10], 0, 0) 59 2 (fun _ => rfl) h) ?_
        refine pj_X_of (fun r h => pj_T_gr hI rfl rfl rfl h) ?_
        refine pj_X_of (fun r h => pj_R_to (G, 63, [(0, .ref 171), (1, .int th), (2, .int c), (3, .int us), (4, .int my), (5, .int v5)], [.int c, .ref 176, .int z10], 0, 0) 63 2 (fun _ => rfl) h) ?_
        refine pj_X_of (fun r h => pj_T_il hI rfl rfl (by omega) (by omega) h) ?_
        show pj_X _ _ G 64 [(0, .ref 171), (1, .int th), (2, .int c), (3, .int us), (4, .int my), (5, .int v5)] [.int (pj_ai G 176 c.toInt.toNat), .int z10] _
        obtain ⟨z11, hz11⟩ : ∃ z : Int32, z = pj_ai G 176 c.toInt.toNat := ⟨_, rfl⟩
        refine pj_X_eqi hz11.symm ?_
        have ez11 : (pj_ai G 176 c.toInt.toNat).toInt = z11.toInt := by rw [hz11]
        cases b12 : pj_c1 .lt z10 z11 with
        | true =>
          have ub12 := pj_u_ltT b12
          refine pj_X_of (fun r h => pj_R_icT 99 rfl rfl b12 h) ?_
          refine pj_X_of (fun r h => pj_R_to (G, 102, [(5, .int (v5 + Int32.ofInt 1)), (0, .ref 171), (1, .int th), (2, .int c), (3, .int us), (4, .int my)], [], 0, 0) 102 2 (fun _ => rfl) h) ?_
          obtain ⟨z13, hz13⟩ : ∃ z : Int32, z = v5 + Int32.ofInt 1 := ⟨_, rfl⟩
          rw [← hz13]
          have fz13_0 : z13.toInt = v5.toInt + (Int32.ofInt 1).toInt := by rw [hz13]; exact pj_addI (by have := pj_i32 v5; have := pj_i32 (Int32.ofInt 1); omega) (by have := pj_i32 v5; have := pj_i32 (Int32.ofInt 1); omega)
          refine pj_X_of (fun r h => pj_R_to (G, 33, [(5, .int z13), (0, .ref 171), (1, .int th), (2, .int c), (3, .int us), (4, .int my)], [], 0, 0) 33 2 (fun _ => rfl) h) ?_
          have q14 : (pj_fi G 171 4).toInt = y1.toInt := by rw [show pj_fi G 171 4 = y1 from hy1.symm]
          exact pj_X_sub [(0, .ref 171), (1, .int th), (2, .int c), (3, .int us), (4, .int my), (5, .int z13)] (show List.Nodup [0, 1, 2, 3, 4, 5] by decide) ⟨rfl, rfl, rfl, rfl, rfl, rfl, trivial⟩ (ih G hI hK z13 ⟨by omega, by omega⟩ (by omega) (by omega))
        | false =>
          have ub12 := pj_u_ltF b12
          refine pj_X_of (fun r h => pj_R_icF rfl b12 h) ?_
          refine pj_X_of (fun r h => pj_R_to (G, 68, [(0, .ref 171), (1, .int th), (2, .int c), (3, .int us), (4, .int my), (5, .int v5)], [.ref 171], 0, 0) 68 2 (fun _ => rfl) h) ?_
          refine pj_X_of (fun r h => pj_T_gr hI rfl rfl rfl h) ?_
          refine pj_X_of (fun r h => pj_R_to (G, 75, [(0, .ref 171), (1, .int th), (2, .int c), (3, .int us), (4, .int my), (5, .int v5)], [.int v5, .int my, .ref 191], 0, 0) 75 3 (fun _ => rfl) h) ?_
          refine pj_X_of (fun r h => pj_T_is hI rfl rfl (by omega) (by omega) h) ?_
          show pj_X _ _ (pj_wa G 191 my.toInt.toNat v5) 76 [(0, .ref 171), (1, .int th), (2, .int c), (3, .int us), (4, .int my), (5, .int v5)] [] _
          obtain ⟨G15, hG15⟩ : ∃ H, H = pj_wa G 191 my.toInt.toNat v5 := ⟨_, rfl⟩
          have iG15 : pj_Inv G15 := by rw [hG15]; exact pj_Inv_wa hI rfl (fun q hq => by cases hq) (fun n hn => by cases hn)
          have kG15 : pj_kpt kc_242_5 G0 G15 := by rw [hG15]; exact pj_kpt_a hK rfl
          rw [← hG15]
          refine pj_X_of (fun r h => pj_R_to (G15, 81, [(0, .ref 171), (1, .int th), (2, .int c), (3, .int us), (4, .int my), (5, .int v5)], [.int (c + (Int32.ofInt 1)), .int th, .ref 171], 0, 0) 81 6 (fun _ => rfl) h) ?_
          obtain ⟨z16, hz16⟩ : ∃ z : Int32, z = c + (Int32.ofInt 1) := ⟨_, rfl⟩
          refine pj_X_eqi hz16.symm ?_
          have fz16_0 : z16.toInt = c.toInt + (Int32.ofInt 1).toInt := by rw [hz16]; exact pj_addI (by have := pj_i32 c; have := pj_i32 (Int32.ofInt 1); omega) (by have := pj_i32 c; have := pj_i32 (Int32.ofInt 1); omega)
          refine pj_X_of (fun r h => pj_R_to (G15, 86, [(0, .ref 171), (1, .int th), (2, .int c), (3, .int us), (4, .int my), (5, .int v5)], [.int ((Int32.ofInt 1) <<< (v5 &&& 31)), .int us, .int z16, .int th, .ref 171], 0, 0) 86 5 (fun _ => rfl) h) ?_
          obtain ⟨z17, hz17⟩ : ∃ z : Int32, z = (Int32.ofInt 1) <<< (v5 &&& 31) := ⟨_, rfl⟩
          refine pj_X_eqi hz17.symm ?_
          have fz17_0 : 1 ≤ z17.toInt ∧ z17.toInt ≤ 32 := by rw [hz17]; exact pj_shlI5 (by omega) (by omega)
          refine pj_X_of (fun r h => pj_R_to (G15, 87, [(0, .ref 171), (1, .int th), (2, .int c), (3, .int us), (4, .int my), (5, .int v5)], [.int (us ||| z17), .int z16, .int th, .ref 171], 0, 0) 87 2 (fun _ => rfl) h) ?_
          obtain ⟨z18, hz18⟩ : ∃ z : Int32, z = us ||| z17 := ⟨_, rfl⟩
          refine pj_X_eqi hz18.symm ?_
          refine pj_X_of (fun r h => pj_R_to (G15, 91, [(0, .ref 171), (1, .int th), (2, .int c), (3, .int us), (4, .int my), (5, .int v5)], [.int (my + (Int32.ofInt 1)), .int z18, .int z16, .int th, .ref 171], 0, 0) 91 4 (fun _ => rfl) h) ?_
          obtain ⟨z19, hz19⟩ : ∃ z : Int32, z = my + (Int32.ofInt 1) := ⟨_, rfl⟩
          refine pj_X_eqi hz19.symm ?_
          have fz19_0 : z19.toInt = my.toInt + (Int32.ofInt 1).toInt := by rw [hz19]; exact pj_addI (by have := pj_i32 my; have := pj_i32 (Int32.ofInt 1); omega) (by have := pj_i32 my; have := pj_i32 (Int32.ofInt 1); omega)
          have q20 : (pj_fi G15 171 4).toInt = y1.toInt := by rw [show pj_fi G15 171 4 = y1 from by rw [hG15, pj_fi_wa]; exact hy1.symm]
          refine pj_X_ca (vs := [.ref 171, .int th, .int z16, .int z18, .int z19]) rfl (fun _ => rfl) ⟨Nat.le_of_ble_eq_true rfl, Nat.le_of_ble_eq_true rfl, pj_T_rcv iG15 rfl⟩ ⟨rfl, rfl⟩ (pj_Y_up (by decide) (ct_242_6 G15 iG15 th z16 z18 z19 ⟨by omega, by omega⟩ ⟨by omega, by omega⟩ (by omega))) ?_
          rintro _ G22 ⟨y21, rfl, iG22, jG22, ry21⟩
          have kG22 : pj_kpt kc_242_5 G0 G22 := pj_kpt_t kG15 (pj_kpt_s jG22 rfl)
          have q23 : (pj_fi G22 171 4).toInt = (pj_fi G15 171 4).toInt := by rw [jG22.1 (171, 4) (by decide)]
          obtain ⟨y24, hy24⟩ : ∃ z : Int32, z = pj_fi G22 171 4 := ⟨_, rfl⟩
          have ey24 : (pj_fi G22 171 4).toInt = y24.toInt := by rw [hy24]
          have ry24 : (0 : Int) ≤ y24.toInt ∧ y24.toInt ≤ 10 := by rw [hy24]; exact iG22.2.1 171 4 (0, 10) rfl
          show pj_X _ _ G22 94 [(0, .ref 171), (1, .int th), (2, .int c), (3, .int us), (4, .int my), (5, .int v5)] [.int y21] _
          cases b25 : pj_c1 .eq y21 0 with
          | true =>
            have ub25 := pj_u0_eqT b25
            refine pj_X_of (fun r h => pj_R_ifT 99 rfl rfl b25 h) ?_
            refine pj_X_of (fun r h => pj_R_to (G22, 102, [(5, .int (v5 + Int32.ofInt 1)), (0, .ref 171), (1, .int th), (2, .int c), (3, .int us), (4, .int my)], [], 0, 0) 102 2 (fun _ => rfl) h) ?_
            obtain ⟨z26, hz26⟩ : ∃ z : Int32, z = v5 + Int32.ofInt 1 := ⟨_, rfl⟩
            rw [← hz26]
            have fz26_0 : z26.toInt = v5.toInt + (Int32.ofInt 1).toInt := by rw [hz26]; exact pj_addI (by have := pj_i32 v5; have := pj_i32 (Int32.ofInt 1); omega) (by have := pj_i32 v5; have := pj_i32 (Int32.ofInt 1); omega)
            refine pj_X_of (fun r h => pj_R_to (G22, 33, [(5, .int z26), (0, .ref 171), (1, .int th), (2, .int c), (3, .int us), (4, .int my)], [], 0, 0) 33 2 (fun _ => rfl) h) ?_
            have q27 : (pj_fi G22 171 4).toInt = y24.toInt := by rw [show pj_fi G22 171 4 = y24 from hy24.symm]
            exact pj_X_sub [(0, .ref 171), (1, .int th), (2, .int c), (3, .int us), (4, .int my), (5, .int z26)] (show List.Nodup [0, 1, 2, 3, 4, 5] by decide) ⟨rfl, rfl, rfl, rfl, rfl, rfl, trivial⟩ (ih G22 iG22 kG22 z26 ⟨by omega, by omega⟩ (by omega) (by omega))
          | false =>
            have ub25 := pj_u0_eqF b25
            refine pj_X_of (fun r h => pj_R_ifF rfl b25 h) ?_
            refine pj_X_of (fun r h => pj_R_to (G22, 98, [(0, .ref 171), (1, .int th), (2, .int c), (3, .int us), (4, .int my), (5, .int v5)], [.int (Int32.ofInt 1)], 0, 0) 98 2 (fun _ => rfl) h) ?_
            have q28 : (pj_fi G22 171 4).toInt = y24.toInt := by rw [show pj_fi G22 171 4 = y24 from hy24.symm]
            exact pj_X_rt rfl rfl ⟨_, rfl, iG22, kG22, ⟨by omega, by omega⟩⟩
theorem ct_242_5 (G0 : pj_G) (hI : pj_Inv G0) (th : Int32) (c : Int32) (us : Int32) (my : Int32) (rc : (5 : Int) ≤ c.toInt ∧ c.toInt ≤ 5) (rmy : (0 : Int) ≤ my.toInt ∧ my.toInt ≤ 5) (p0_ : c.toInt ≤ (pj_fi G0 171 4).toInt) : pj_Y 8 242 [.ref 171, .int th, .int c, .int us, .int my] G0 (fun v G' => ∃ y : Int32, v = some (.int y) ∧ pj_Inv G' ∧ pj_kpt kc_242_5 G0 G' ∧ ((0 : Int) ≤ y.toInt ∧ y.toInt ≤ 1)) := by
  have c0_ : (Int32.ofInt 0).toInt = 0 := by decide
  have c1_ : (Int32.ofInt 1).toInt = 1 := by decide
  refine pj_Y_X (M := pj_m242) rfl rfl (Nat.le_of_ble_eq_true rfl) ?_
  have hK : pj_kpt kc_242_5 G0 G0 := pj_kpt_r _ _
  show pj_X _ _ G0 0 [(0, .ref 171), (1, .int th), (2, .int c), (3, .int us), (4, .int my)] [] _
  obtain ⟨y29, hy29⟩ : ∃ z : Int32, z = pj_fi G0 171 4 := ⟨_, rfl⟩
  have ey29 : (pj_fi G0 171 4).toInt = y29.toInt := by rw [hy29]
  have ry29 : (0 : Int) ≤ y29.toInt ∧ y29.toInt ≤ 10 := by rw [hy29]; exact hI.2.1 171 4 (0, 10) rfl
  refine pj_X_of (fun r h => pj_R_to (G0, 2, [(0, .ref 171), (1, .int th), (2, .int c), (3, .int us), (4, .int my)], [.ref 171, .int c], 0, 0) 2 3 (fun _ => rfl) h) ?_
  refine pj_X_of (fun r h => pj_T_gi hI rfl rfl h) ?_
  show pj_X _ _ G0 5 [(0, .ref 171), (1, .int th), (2, .int c), (3, .int us), (4, .int my)] [.int (pj_fi G0 171 4), .int c] _
  refine pj_X_eqi (show pj_fi G0 171 4 = y29 from hy29.symm) ?_
  cases b30 : pj_c1 .ne c y29 with
  | true =>
    have ub30 := pj_u_neT b30
    refine pj_X_of (fun r h => pj_R_icT 10 rfl rfl b30 h) ?_
    refine pj_X_of (fun r h => pj_R_to (G0, 12, [(0, .ref 171), (1, .int th), (2, .int c), (3, .int us), (4, .int my)], [.int c, .int th], 0, 0) 12 3 (fun _ => rfl) h) ?_
    have q31 : (pj_fi G0 171 4).toInt = y29.toInt := by rw [show pj_fi G0 171 4 = y29 from hy29.symm]
    refine pj_X_ca (vs := [.int th, .int c]) rfl (fun _ => rfl) ⟨Nat.le_of_ble_eq_true rfl, Nat.le_of_ble_eq_true rfl, rfl⟩ ⟨rfl, rfl⟩ (pj_Y_up (by decide) (ct_171bx G0 hI th c)) ?_
    rintro _ _ ⟨y32, rfl, rfl, ry32, ey32, fy32⟩
    show pj_X _ _ G0 15 [(0, .ref 171), (1, .int th), (2, .int c), (3, .int us), (4, .int my)] [.int y32] _
    cases b33 : pj_c1 .ne y32 0 with
    | true =>
      have ub33 := pj_u0_neT b33
      refine pj_X_of (fun r h => pj_R_ifT 30 rfl rfl b33 h) ?_
      refine pj_X_of (fun r h => pj_R_to (G0, 33, [(5, .int (Int32.ofInt 0)), (0, .ref 171), (1, .int th), (2, .int c), (3, .int us), (4, .int my)], [], 0, 0) 33 3 (fun _ => rfl) h) ?_
      have q34 : (pj_fi G0 171 4).toInt = y29.toInt := by rw [show pj_fi G0 171 4 = y29 from hy29.symm]
      exact pj_X_sub [(0, .ref 171), (1, .int th), (2, .int c), (3, .int us), (4, .int my), (5, .int (Int32.ofInt 0))] (show List.Nodup [0, 1, 2, 3, 4, 5] by decide) ⟨rfl, rfl, rfl, rfl, rfl, rfl, trivial⟩ ((lp_ct_242_5 G0 hI th c us my rc rmy p0_ 7) G0 hI hK (Int32.ofInt 0) ⟨by omega, by omega⟩ (by omega) (by omega))
    | false =>
      have ub33 := pj_u0_neF b33
      refine pj_X_of (fun r h => pj_R_ifF rfl b33 h) ?_
      refine pj_X_of (fun r h => pj_R_to (G0, 23, [(0, .ref 171), (1, .int th), (2, .int c), (3, .int us), (4, .int my)], [.int (c + (Int32.ofInt 1)), .int th, .ref 171], 0, 0) 23 6 (fun _ => rfl) h) ?_
      obtain ⟨z35, hz35⟩ : ∃ z : Int32, z = c + (Int32.ofInt 1) := ⟨_, rfl⟩
      refine pj_X_eqi hz35.symm ?_
      have fz35_0 : z35.toInt = c.toInt + (Int32.ofInt 1).toInt := by rw [hz35]; exact pj_addI (by have := pj_i32 c; have := pj_i32 (Int32.ofInt 1); omega) (by have := pj_i32 c; have := pj_i32 (Int32.ofInt 1); omega)
      refine pj_X_of (fun r h => pj_R_to (G0, 26, [(0, .ref 171), (1, .int th), (2, .int c), (3, .int us), (4, .int my)], [.int my, .int us, .int z35, .int th, .ref 171], 0, 0) 26 3 (fun _ => rfl) h) ?_
      have q36 : (pj_fi G0 171 4).toInt = y29.toInt := by rw [show pj_fi G0 171 4 = y29 from hy29.symm]
      refine pj_X_ca (vs := [.ref 171, .int th, .int z35, .int us, .int my]) rfl (fun _ => rfl) ⟨Nat.le_of_ble_eq_true rfl, Nat.le_of_ble_eq_true rfl, pj_T_rcv hI rfl⟩ ⟨rfl, rfl⟩ (pj_Y_up (by decide) (ct_242_6 G0 hI th z35 us my ⟨by omega, by omega⟩ ⟨by omega, by omega⟩ (by omega))) ?_
      rintro _ G38 ⟨y37, rfl, iG38, jG38, ry37⟩
      have kG38 : pj_kpt kc_242_5 G0 G38 := pj_kpt_t hK (pj_kpt_s jG38 rfl)
      have q39 : (pj_fi G38 171 4).toInt = (pj_fi G0 171 4).toInt := by rw [jG38.1 (171, 4) (by decide)]
      obtain ⟨y40, hy40⟩ : ∃ z : Int32, z = pj_fi G38 171 4 := ⟨_, rfl⟩
      have ey40 : (pj_fi G38 171 4).toInt = y40.toInt := by rw [hy40]
      have ry40 : (0 : Int) ≤ y40.toInt ∧ y40.toInt ≤ 10 := by rw [hy40]; exact iG38.2.1 171 4 (0, 10) rfl
      show pj_X _ _ G38 29 [(0, .ref 171), (1, .int th), (2, .int c), (3, .int us), (4, .int my)] [.int y37] _
      have q41 : (pj_fi G38 171 4).toInt = y40.toInt := by rw [show pj_fi G38 171 4 = y40 from hy40.symm]
      exact pj_X_rt (v := some (.int y37)) rfl (pj_rtb ⟨by omega, by omega⟩) ⟨_, rfl, iG38, kG38, ⟨by omega, by omega⟩⟩
  | false =>
    have ub30 := pj_u_neF b30
    refine pj_X_of (fun r h => pj_R_icF rfl b30 h) ?_
    refine pj_X_of (fun r h => pj_R_to (G0, 9, [(0, .ref 171), (1, .int th), (2, .int c), (3, .int us), (4, .int my)], [.int (Int32.ofInt 1)], 0, 0) 9 2 (fun _ => rfl) h) ?_
    have q42 : (pj_fi G0 171 4).toInt = y29.toInt := by rw [show pj_fi G0 171 4 = y29 from hy29.symm]
    exact pj_X_rt rfl rfl ⟨_, rfl, hI, hK, ⟨by omega, by omega⟩⟩
def kc_242_4 : pj_KT := ([], [191], [191])
theorem lp_ct_242_4 (G0 : pj_G) (hI0 : pj_Inv G0) (th : Int32) (c : Int32) (us : Int32) (my : Int32) (rc : (4 : Int) ≤ c.toInt ∧ c.toInt ≤ 4) (rmy : (0 : Int) ≤ my.toInt ∧ my.toInt ≤ 4) (p0_ : c.toInt ≤ (pj_fi G0 171 4).toInt) : ∀ mn : Nat, (∀ (G : pj_G) (hI : pj_Inv G) (hK : pj_kpt kc_242_4 G0 G) (v5 : Int32), ((0 : Int) ≤ v5.toInt ∧ v5.toInt ≤ 6) → (c.toInt < (pj_fi G 171 4).toInt) → 6 - v5.toInt < (mn : Int) → pj_X 8 pj_m242 G 33 [(0, .ref 171), (1, .int th), (2, .int c), (3, .int us), (4, .int my), (5, .int v5)] [] (fun v G' => ∃ y : Int32, v = some (.int y) ∧ pj_Inv G' ∧ pj_kpt kc_242_4 G0 G' ∧ ((0 : Int) ≤ y.toInt ∧ y.toInt ≤ 1))) := by
  have c0_ : (Int32.ofInt 0).toInt = 0 := by decide
  have c1_ : (Int32.ofInt 1).toInt = 1 := by decide
  intro mn
  induction mn with
  | zero =>
    intro G hI hK v5 rv5 x0_ hm
    exfalso
    omega
  | succ mn ih =>
    intro G hI hK v5 rv5 x0_ hm
    obtain ⟨y1, hy1⟩ : ∃ z : Int32, z = pj_fi G 171 4 := ⟨_, rfl⟩
    have ey1 : (pj_fi G 171 4).toInt = y1.toInt := by rw [hy1]
    have ry1 : (0 : Int) ≤ y1.toInt ∧ y1.toInt ≤ 10 := by rw [hy1]; exact hI.2.1 171 4 (0, 10) rfl
    refine pj_X_of (fun r h => pj_R_to (G, 36, [(0, .ref 171), (1, .int th), (2, .int c), (3, .int us), (4, .int my), (5, .int v5)], [.ref 171, .int v5], 0, 0) 36 3 (fun _ => rfl) h) ?_
    refine pj_X_of (fun r h => pj_T_gi hI rfl rfl h) ?_
    show pj_X _ _ G 39 [(0, .ref 171), (1, .int th), (2, .int c), (3, .int us), (4, .int my), (5, .int v5)] [.int (pj_fi G 171 5), .int v5] _
    obtain ⟨y2, hy2⟩ : ∃ z : Int32, z = pj_fi G 171 5 := ⟨_, rfl⟩
    refine pj_X_eqi hy2.symm ?_
    have ey2 : (pj_fi G 171 5).toInt = y2.toInt := by rw [hy2]
    have ry2 : (0 : Int) ≤ y2.toInt ∧ y2.toInt ≤ 6 := by rw [hy2]; exact hI.2.1 171 5 (0, 6) rfl
    cases b3 : pj_c1 .ge v5 y2 with
    | true =>
      have ub3 := pj_u_geT b3
      refine pj_X_of (fun r h => pj_R_icT 105 rfl rfl b3 h) ?_
      refine pj_X_of (fun r h => pj_R_to (G, 106, [(0, .ref 171), (1, .int th), (2, .int c), (3, .int us), (4, .int my), (5, .int v5)], [.int (Int32.ofInt 0)], 0, 0) 106 2 (fun _ => rfl) h) ?_
      have q4 : (pj_fi G 171 4).toInt = y1.toInt := by rw [show pj_fi G 171 4 = y1 from hy1.symm]
      exact pj_X_rt rfl rfl ⟨_, rfl, hI, hK, ⟨by omega, by omega⟩⟩
    | false =>
      have ub3 := pj_u_geF b3
      refine pj_X_of (fun r h => pj_R_icF rfl b3 h) ?_
      refine pj_X_of (fun r h => pj_R_to (G, 45, [(0, .ref 171), (1, .int th), (2, .int c), (3, .int us), (4, .int my), (5, .int v5)], [.int v5, .int us], 0, 0) 45 3 (fun _ => rfl) h) ?_
      have q5 : (pj_fi G 171 4).toInt = y1.toInt := by rw [show pj_fi G 171 4 = y1 from hy1.symm]
      refine pj_X_ca (vs := [.int us, .int v5]) rfl (fun _ => rfl) ⟨Nat.le_of_ble_eq_true rfl, Nat.le_of_ble_eq_true rfl, rfl⟩ ⟨rfl, rfl⟩ (pj_Y_up (by decide) (ct_171bx G hI us v5)) ?_
      rintro _ _ ⟨y6, rfl, rfl, ry6, ey6, fy6⟩
      show pj_X _ _ G 48 [(0, .ref 171), (1, .int th), (2, .int c), (3, .int us), (4, .int my), (5, .int v5)] [.int y6] _
      cases b7 : pj_c1 .ne y6 0 with
      | true =>
        have ub7 := pj_u0_neT b7
        refine pj_X_of (fun r h => pj_R_ifT 99 rfl rfl b7 h) ?_
        refine pj_X_of (fun r h => pj_R_to (G, 102, [(5, .int (v5 + Int32.ofInt 1)), (0, .ref 171), (1, .int th), (2, .int c), (3, .int us), (4, .int my)], [], 0, 0) 102 2 (fun _ => rfl) h) ?_
        obtain ⟨z8, hz8⟩ : ∃ z : Int32, z = v5 + Int32.ofInt 1 := ⟨_, rfl⟩
        rw [← hz8]
        have fz8_0 : z8.toInt = v5.toInt + (Int32.ofInt 1).toInt := by rw [hz8]; exact pj_addI (by have := pj_i32 v5; have := pj_i32 (Int32.ofInt 1); omega) (by have := pj_i32 v5; have := pj_i32 (Int32.ofInt 1); omega)
        refine pj_X_of (fun r h => pj_R_to (G, 33, [(5, .int z8), (0, .ref 171), (1, .int th), (2, .int c), (3, .int us), (4, .int my)], [], 0, 0) 33 2 (fun _ => rfl) h) ?_
        have q9 : (pj_fi G 171 4).toInt = y1.toInt := by rw [show pj_fi G 171 4 = y1 from hy1.symm]
        exact pj_X_sub [(0, .ref 171), (1, .int th), (2, .int c), (3, .int us), (4, .int my), (5, .int z8)] (show List.Nodup [0, 1, 2, 3, 4, 5] by decide) ⟨rfl, rfl, rfl, rfl, rfl, rfl, trivial⟩ (ih G hI hK z8 ⟨by omega, by omega⟩ (by omega) (by omega))
      | false =>
        have ub7 := pj_u0_neF b7
        refine pj_X_of (fun r h => pj_R_ifF rfl b7 h) ?_
        refine pj_X_of (fun r h => pj_R_to (G, 52, [(0, .ref 171), (1, .int th), (2, .int c), (3, .int us), (4, .int my), (5, .int v5)], [.ref 171], 0, 0) 52 2 (fun _ => rfl) h) ?_
        refine pj_X_of (fun r h => pj_T_gr hI rfl rfl rfl h) ?_
        refine pj_X_of (fun r h => pj_R_to (G, 57, [(0, .ref 171), (1, .int th), (2, .int c), (3, .int us), (4, .int my), (5, .int v5)], [.int v5, .ref 177], 0, 0) 57 2 (fun _ => rfl) h) ?_
        refine pj_X_of (fun r h => pj_T_il hI rfl rfl (by omega) (by omega) h) ?_
        show pj_X _ _ G 58 [(0, .ref 171), (1, .int th), (2, .int c), (3, .int us), (4, .int my), (5, .int v5)] [.int (pj_ai G 177 v5.toInt.toNat)] _
        obtain ⟨z10, hz10⟩ : ∃ z : Int32, z = pj_ai G 177 v5.toInt.toNat := ⟨_, rfl⟩
        refine pj_X_eqi hz10.symm ?_
        have ez10 : (pj_ai G 177 v5.toInt.toNat).toInt = z10.toInt := by rw [hz10]
        refine pj_X_of (fun r h => pj_R_to (G, 59, [(0, .ref 171), (1, .int th), (2, .int c), (3, .int us), (4, .int my), (5, .int v5)], [.ref 171, .int z10], 0, 0) 59 2 (fun _ => rfl) h) ?_
        refine pj_X_of (fun r h => pj_T_gr hI rfl rfl rfl h) ?_
        refine pj_X_of (fun r h => pj_R_to (G, 63, [(0, .ref 171), (1, .int th), (2, .int c), (3, .int us), (4, .int my), (5, .int v5)], [.int c, .ref 176, .int z10], 0, 0) 63 2 (fun _ => rfl) h) ?_
        refine pj_X_of (fun r h => pj_T_il hI rfl rfl (by omega) (by omega) h) ?_
        show pj_X _ _ G 64 [(0, .ref 171), (1, .int th), (2, .int c), (3, .int us), (4, .int my), (5, .int v5)] [.int (pj_ai G 176 c.toInt.toNat), .int z10] _
        obtain ⟨z11, hz11⟩ : ∃ z : Int32, z = pj_ai G 176 c.toInt.toNat := ⟨_, rfl⟩
        refine pj_X_eqi hz11.symm ?_
        have ez11 : (pj_ai G 176 c.toInt.toNat).toInt = z11.toInt := by rw [hz11]
        cases b12 : pj_c1 .lt z10 z11 with
        | true =>
          have ub12 := pj_u_ltT b12
          refine pj_X_of (fun r h => pj_R_icT 99 rfl rfl b12 h) ?_
          refine pj_X_of (fun r h => pj_R_to (G, 102, [(5, .int (v5 + Int32.ofInt 1)), (0, .ref 171), (1, .int th), (2, .int c), (3, .int us), (4, .int my)], [], 0, 0) 102 2 (fun _ => rfl) h) ?_
          obtain ⟨z13, hz13⟩ : ∃ z : Int32, z = v5 + Int32.ofInt 1 := ⟨_, rfl⟩
          rw [← hz13]
          have fz13_0 : z13.toInt = v5.toInt + (Int32.ofInt 1).toInt := by rw [hz13]; exact pj_addI (by have := pj_i32 v5; have := pj_i32 (Int32.ofInt 1); omega) (by have := pj_i32 v5; have := pj_i32 (Int32.ofInt 1); omega)
          refine pj_X_of (fun r h => pj_R_to (G, 33, [(5, .int z13), (0, .ref 171), (1, .int th), (2, .int c), (3, .int us), (4, .int my)], [], 0, 0) 33 2 (fun _ => rfl) h) ?_
          have q14 : (pj_fi G 171 4).toInt = y1.toInt := by rw [show pj_fi G 171 4 = y1 from hy1.symm]
          exact pj_X_sub [(0, .ref 171), (1, .int th), (2, .int c), (3, .int us), (4, .int my), (5, .int z13)] (show List.Nodup [0, 1, 2, 3, 4, 5] by decide) ⟨rfl, rfl, rfl, rfl, rfl, rfl, trivial⟩ (ih G hI hK z13 ⟨by omega, by omega⟩ (by omega) (by omega))
        | false =>
          have ub12 := pj_u_ltF b12
          refine pj_X_of (fun r h => pj_R_icF rfl b12 h) ?_
          refine pj_X_of (fun r h => pj_R_to (G, 68, [(0, .ref 171), (1, .int th), (2, .int c), (3, .int us), (4, .int my), (5, .int v5)], [.ref 171], 0, 0) 68 2 (fun _ => rfl) h) ?_
          refine pj_X_of (fun r h => pj_T_gr hI rfl rfl rfl h) ?_
          refine pj_X_of (fun r h => pj_R_to (G, 75, [(0, .ref 171), (1, .int th), (2, .int c), (3, .int us), (4, .int my), (5, .int v5)], [.int v5, .int my, .ref 191], 0, 0) 75 3 (fun _ => rfl) h) ?_
          refine pj_X_of (fun r h => pj_T_is hI rfl rfl (by omega) (by omega) h) ?_
          show pj_X _ _ (pj_wa G 191 my.toInt.toNat v5) 76 [(0, .ref 171), (1, .int th), (2, .int c), (3, .int us), (4, .int my), (5, .int v5)] [] _
          obtain ⟨G15, hG15⟩ : ∃ H, H = pj_wa G 191 my.toInt.toNat v5 := ⟨_, rfl⟩
          have iG15 : pj_Inv G15 := by rw [hG15]; exact pj_Inv_wa hI rfl (fun q hq => by cases hq) (fun n hn => by cases hn)
          have kG15 : pj_kpt kc_242_4 G0 G15 := by rw [hG15]; exact pj_kpt_a hK rfl
          rw [← hG15]
          refine pj_X_of (fun r h => pj_R_to (G15, 81, [(0, .ref 171), (1, .int th), (2, .int c), (3, .int us), (4, .int my), (5, .int v5)], [.int (c + (Int32.ofInt 1)), .int th, .ref 171], 0, 0) 81 6 (fun _ => rfl) h) ?_
          obtain ⟨z16, hz16⟩ : ∃ z : Int32, z = c + (Int32.ofInt 1) := ⟨_, rfl⟩
          refine pj_X_eqi hz16.symm ?_
          have fz16_0 : z16.toInt = c.toInt + (Int32.ofInt 1).toInt := by rw [hz16]; exact pj_addI (by have := pj_i32 c; have := pj_i32 (Int32.ofInt 1); omega) (by have := pj_i32 c; have := pj_i32 (Int32.ofInt 1); omega)
          refine pj_X_of (fun r h => pj_R_to (G15, 86, [(0, .ref 171), (1, .int th), (2, .int c), (3, .int us), (4, .int my), (5, .int v5)], [.int ((Int32.ofInt 1) <<< (v5 &&& 31)), .int us, .int z16, .int th, .ref 171], 0, 0) 86 5 (fun _ => rfl) h) ?_
          obtain ⟨z17, hz17⟩ : ∃ z : Int32, z = (Int32.ofInt 1) <<< (v5 &&& 31) := ⟨_, rfl⟩
          refine pj_X_eqi hz17.symm ?_
          have fz17_0 : 1 ≤ z17.toInt ∧ z17.toInt ≤ 32 := by rw [hz17]; exact pj_shlI5 (by omega) (by omega)
          refine pj_X_of (fun r h => pj_R_to (G15, 87, [(0, .ref 171), (1, .int th), (2, .int c), (3, .int us), (4, .int my), (5, .int v5)], [.int (us ||| z17), .int z16, .int th, .ref 171], 0, 0) 87 2 (fun _ => rfl) h) ?_
          obtain ⟨z18, hz18⟩ : ∃ z : Int32, z = us ||| z17 := ⟨_, rfl⟩
          refine pj_X_eqi hz18.symm ?_
          refine pj_X_of (fun r h => pj_R_to (G15, 91, [(0, .ref 171), (1, .int th), (2, .int c), (3, .int us), (4, .int my), (5, .int v5)], [.int (my + (Int32.ofInt 1)), .int z18, .int z16, .int th, .ref 171], 0, 0) 91 4 (fun _ => rfl) h) ?_
          obtain ⟨z19, hz19⟩ : ∃ z : Int32, z = my + (Int32.ofInt 1) := ⟨_, rfl⟩
          refine pj_X_eqi hz19.symm ?_
          have fz19_0 : z19.toInt = my.toInt + (Int32.ofInt 1).toInt := by rw [hz19]; exact pj_addI (by have := pj_i32 my; have := pj_i32 (Int32.ofInt 1); omega) (by have := pj_i32 my; have := pj_i32 (Int32.ofInt 1); omega)
          have q20 : (pj_fi G15 171 4).toInt = y1.toInt := by rw [show pj_fi G15 171 4 = y1 from by rw [hG15, pj_fi_wa]; exact hy1.symm]
          refine pj_X_ca (vs := [.ref 171, .int th, .int z16, .int z18, .int z19]) rfl (fun _ => rfl) ⟨Nat.le_of_ble_eq_true rfl, Nat.le_of_ble_eq_true rfl, pj_T_rcv iG15 rfl⟩ ⟨rfl, rfl⟩ (pj_Y_up (by decide) (ct_242_5 G15 iG15 th z16 z18 z19 ⟨by omega, by omega⟩ ⟨by omega, by omega⟩ (by omega))) ?_
          rintro _ G22 ⟨y21, rfl, iG22, jG22, ry21⟩
          have kG22 : pj_kpt kc_242_4 G0 G22 := pj_kpt_t kG15 (pj_kpt_s jG22 rfl)
          have q23 : (pj_fi G22 171 4).toInt = (pj_fi G15 171 4).toInt := by rw [jG22.1 (171, 4) (by decide)]
          obtain ⟨y24, hy24⟩ : ∃ z : Int32, z = pj_fi G22 171 4 := ⟨_, rfl⟩
          have ey24 : (pj_fi G22 171 4).toInt = y24.toInt := by rw [hy24]
          have ry24 : (0 : Int) ≤ y24.toInt ∧ y24.toInt ≤ 10 := by rw [hy24]; exact iG22.2.1 171 4 (0, 10) rfl
          show pj_X _ _ G22 94 [(0, .ref 171), (1, .int th), (2, .int c), (3, .int us), (4, .int my), (5, .int v5)] [.int y21] _
          cases b25 : pj_c1 .eq y21 0 with
          | true =>
            have ub25 := pj_u0_eqT b25
            refine pj_X_of (fun r h => pj_R_ifT 99 rfl rfl b25 h) ?_
            refine pj_X_of (fun r h => pj_R_to (G22, 102, [(5, .int (v5 + Int32.ofInt 1)), (0, .ref 171), (1, .int th), (2, .int c), (3, .int us), (4, .int my)], [], 0, 0) 102 2 (fun _ => rfl) h) ?_
            obtain ⟨z26, hz26⟩ : ∃ z : Int32, z = v5 + Int32.ofInt 1 := ⟨_, rfl⟩
            rw [← hz26]
            have fz26_0 : z26.toInt = v5.toInt + (Int32.ofInt 1).toInt := by rw [hz26]; exact pj_addI (by have := pj_i32 v5; have := pj_i32 (Int32.ofInt 1); omega) (by have := pj_i32 v5; have := pj_i32 (Int32.ofInt 1); omega)
            refine pj_X_of (fun r h => pj_R_to (G22, 33, [(5, .int z26), (0, .ref 171), (1, .int th), (2, .int c), (3, .int us), (4, .int my)], [], 0, 0) 33 2 (fun _ => rfl) h) ?_
            have q27 : (pj_fi G22 171 4).toInt = y24.toInt := by rw [show pj_fi G22 171 4 = y24 from hy24.symm]
            exact pj_X_sub [(0, .ref 171), (1, .int th), (2, .int c), (3, .int us), (4, .int my), (5, .int z26)] (show List.Nodup [0, 1, 2, 3, 4, 5] by decide) ⟨rfl, rfl, rfl, rfl, rfl, rfl, trivial⟩ (ih G22 iG22 kG22 z26 ⟨by omega, by omega⟩ (by omega) (by omega))
          | false =>
            have ub25 := pj_u0_eqF b25
            refine pj_X_of (fun r h => pj_R_ifF rfl b25 h) ?_
            refine pj_X_of (fun r h => pj_R_to (G22, 98, [(0, .ref 171), (1, .int th), (2, .int c), (3, .int us), (4, .int my), (5, .int v5)], [.int (Int32.ofInt 1)], 0, 0) 98 2 (fun _ => rfl) h) ?_
            have q28 : (pj_fi G22 171 4).toInt = y24.toInt := by rw [show pj_fi G22 171 4 = y24 from hy24.symm]
            exact pj_X_rt rfl rfl ⟨_, rfl, iG22, kG22, ⟨by omega, by omega⟩⟩
theorem ct_242_4 (G0 : pj_G) (hI : pj_Inv G0) (th : Int32) (c : Int32) (us : Int32) (my : Int32) (rc : (4 : Int) ≤ c.toInt ∧ c.toInt ≤ 4) (rmy : (0 : Int) ≤ my.toInt ∧ my.toInt ≤ 4) (p0_ : c.toInt ≤ (pj_fi G0 171 4).toInt) : pj_Y 9 242 [.ref 171, .int th, .int c, .int us, .int my] G0 (fun v G' => ∃ y : Int32, v = some (.int y) ∧ pj_Inv G' ∧ pj_kpt kc_242_4 G0 G' ∧ ((0 : Int) ≤ y.toInt ∧ y.toInt ≤ 1)) := by
  have c0_ : (Int32.ofInt 0).toInt = 0 := by decide
  have c1_ : (Int32.ofInt 1).toInt = 1 := by decide
  refine pj_Y_X (M := pj_m242) rfl rfl (Nat.le_of_ble_eq_true rfl) ?_
  have hK : pj_kpt kc_242_4 G0 G0 := pj_kpt_r _ _
  show pj_X _ _ G0 0 [(0, .ref 171), (1, .int th), (2, .int c), (3, .int us), (4, .int my)] [] _
  obtain ⟨y29, hy29⟩ : ∃ z : Int32, z = pj_fi G0 171 4 := ⟨_, rfl⟩
  have ey29 : (pj_fi G0 171 4).toInt = y29.toInt := by rw [hy29]
  have ry29 : (0 : Int) ≤ y29.toInt ∧ y29.toInt ≤ 10 := by rw [hy29]; exact hI.2.1 171 4 (0, 10) rfl
  refine pj_X_of (fun r h => pj_R_to (G0, 2, [(0, .ref 171), (1, .int th), (2, .int c), (3, .int us), (4, .int my)], [.ref 171, .int c], 0, 0) 2 3 (fun _ => rfl) h) ?_
  refine pj_X_of (fun r h => pj_T_gi hI rfl rfl h) ?_
  show pj_X _ _ G0 5 [(0, .ref 171), (1, .int th), (2, .int c), (3, .int us), (4, .int my)] [.int (pj_fi G0 171 4), .int c] _
  refine pj_X_eqi (show pj_fi G0 171 4 = y29 from hy29.symm) ?_
  cases b30 : pj_c1 .ne c y29 with
  | true =>
    have ub30 := pj_u_neT b30
    refine pj_X_of (fun r h => pj_R_icT 10 rfl rfl b30 h) ?_
    refine pj_X_of (fun r h => pj_R_to (G0, 12, [(0, .ref 171), (1, .int th), (2, .int c), (3, .int us), (4, .int my)], [.int c, .int th], 0, 0) 12 3 (fun _ => rfl) h) ?_
    have q31 : (pj_fi G0 171 4).toInt = y29.toInt := by rw [show pj_fi G0 171 4 = y29 from hy29.symm]
    refine pj_X_ca (vs := [.int th, .int c]) rfl (fun _ => rfl) ⟨Nat.le_of_ble_eq_true rfl, Nat.le_of_ble_eq_true rfl, rfl⟩ ⟨rfl, rfl⟩ (pj_Y_up (by decide) (ct_171bx G0 hI th c)) ?_
    rintro _ _ ⟨y32, rfl, rfl, ry32, ey32, fy32⟩
    show pj_X _ _ G0 15 [(0, .ref 171), (1, .int th), (2, .int c), (3, .int us), (4, .int my)] [.int y32] _
    cases b33 : pj_c1 .ne y32 0 with
    | true =>
      have ub33 := pj_u0_neT b33
      refine pj_X_of (fun r h => pj_R_ifT 30 rfl rfl b33 h) ?_
      refine pj_X_of (fun r h => pj_R_to (G0, 33, [(5, .int (Int32.ofInt 0)), (0, .ref 171), (1, .int th), (2, .int c), (3, .int us), (4, .int my)], [], 0, 0) 33 3 (fun _ => rfl) h) ?_
      have q34 : (pj_fi G0 171 4).toInt = y29.toInt := by rw [show pj_fi G0 171 4 = y29 from hy29.symm]
      exact pj_X_sub [(0, .ref 171), (1, .int th), (2, .int c), (3, .int us), (4, .int my), (5, .int (Int32.ofInt 0))] (show List.Nodup [0, 1, 2, 3, 4, 5] by decide) ⟨rfl, rfl, rfl, rfl, rfl, rfl, trivial⟩ ((lp_ct_242_4 G0 hI th c us my rc rmy p0_ 7) G0 hI hK (Int32.ofInt 0) ⟨by omega, by omega⟩ (by omega) (by omega))
    | false =>
      have ub33 := pj_u0_neF b33
      refine pj_X_of (fun r h => pj_R_ifF rfl b33 h) ?_
      refine pj_X_of (fun r h => pj_R_to (G0, 23, [(0, .ref 171), (1, .int th), (2, .int c), (3, .int us), (4, .int my)], [.int (c + (Int32.ofInt 1)), .int th, .ref 171], 0, 0) 23 6 (fun _ => rfl) h) ?_
      obtain ⟨z35, hz35⟩ : ∃ z : Int32, z = c + (Int32.ofInt 1) := ⟨_, rfl⟩
      refine pj_X_eqi hz35.symm ?_
      have fz35_0 : z35.toInt = c.toInt + (Int32.ofInt 1).toInt := by rw [hz35]; exact pj_addI (by have := pj_i32 c; have := pj_i32 (Int32.ofInt 1); omega) (by have := pj_i32 c; have := pj_i32 (Int32.ofInt 1); omega)
      refine pj_X_of (fun r h => pj_R_to (G0, 26, [(0, .ref 171), (1, .int th), (2, .int c), (3, .int us), (4, .int my)], [.int my, .int us, .int z35, .int th, .ref 171], 0, 0) 26 3 (fun _ => rfl) h) ?_
      have q36 : (pj_fi G0 171 4).toInt = y29.toInt := by rw [show pj_fi G0 171 4 = y29 from hy29.symm]
      refine pj_X_ca (vs := [.ref 171, .int th, .int z35, .int us, .int my]) rfl (fun _ => rfl) ⟨Nat.le_of_ble_eq_true rfl, Nat.le_of_ble_eq_true rfl, pj_T_rcv hI rfl⟩ ⟨rfl, rfl⟩ (pj_Y_up (by decide) (ct_242_5 G0 hI th z35 us my ⟨by omega, by omega⟩ ⟨by omega, by omega⟩ (by omega))) ?_
      rintro _ G38 ⟨y37, rfl, iG38, jG38, ry37⟩
      have kG38 : pj_kpt kc_242_4 G0 G38 := pj_kpt_t hK (pj_kpt_s jG38 rfl)
      have q39 : (pj_fi G38 171 4).toInt = (pj_fi G0 171 4).toInt := by rw [jG38.1 (171, 4) (by decide)]
      obtain ⟨y40, hy40⟩ : ∃ z : Int32, z = pj_fi G38 171 4 := ⟨_, rfl⟩
      have ey40 : (pj_fi G38 171 4).toInt = y40.toInt := by rw [hy40]
      have ry40 : (0 : Int) ≤ y40.toInt ∧ y40.toInt ≤ 10 := by rw [hy40]; exact iG38.2.1 171 4 (0, 10) rfl
      show pj_X _ _ G38 29 [(0, .ref 171), (1, .int th), (2, .int c), (3, .int us), (4, .int my)] [.int y37] _
      have q41 : (pj_fi G38 171 4).toInt = y40.toInt := by rw [show pj_fi G38 171 4 = y40 from hy40.symm]
      exact pj_X_rt (v := some (.int y37)) rfl (pj_rtb ⟨by omega, by omega⟩) ⟨_, rfl, iG38, kG38, ⟨by omega, by omega⟩⟩
  | false =>
    have ub30 := pj_u_neF b30
    refine pj_X_of (fun r h => pj_R_icF rfl b30 h) ?_
    refine pj_X_of (fun r h => pj_R_to (G0, 9, [(0, .ref 171), (1, .int th), (2, .int c), (3, .int us), (4, .int my)], [.int (Int32.ofInt 1)], 0, 0) 9 2 (fun _ => rfl) h) ?_
    have q42 : (pj_fi G0 171 4).toInt = y29.toInt := by rw [show pj_fi G0 171 4 = y29 from hy29.symm]
    exact pj_X_rt rfl rfl ⟨_, rfl, hI, hK, ⟨by omega, by omega⟩⟩
def kc_242_3 : pj_KT := ([], [191], [191])
theorem lp_ct_242_3 (G0 : pj_G) (hI0 : pj_Inv G0) (th : Int32) (c : Int32) (us : Int32) (my : Int32) (rc : (3 : Int) ≤ c.toInt ∧ c.toInt ≤ 3) (rmy : (0 : Int) ≤ my.toInt ∧ my.toInt ≤ 3) (p0_ : c.toInt ≤ (pj_fi G0 171 4).toInt) : ∀ mn : Nat, (∀ (G : pj_G) (hI : pj_Inv G) (hK : pj_kpt kc_242_3 G0 G) (v5 : Int32), ((0 : Int) ≤ v5.toInt ∧ v5.toInt ≤ 6) → (c.toInt < (pj_fi G 171 4).toInt) → 6 - v5.toInt < (mn : Int) → pj_X 9 pj_m242 G 33 [(0, .ref 171), (1, .int th), (2, .int c), (3, .int us), (4, .int my), (5, .int v5)] [] (fun v G' => ∃ y : Int32, v = some (.int y) ∧ pj_Inv G' ∧ pj_kpt kc_242_3 G0 G' ∧ ((0 : Int) ≤ y.toInt ∧ y.toInt ≤ 1))) := by
  have c0_ : (Int32.ofInt 0).toInt = 0 := by decide
  have c1_ : (Int32.ofInt 1).toInt = 1 := by decide
  intro mn
  induction mn with
  | zero =>
    intro G hI hK v5 rv5 x0_ hm
    exfalso
    omega
  | succ mn ih =>
    intro G hI hK v5 rv5 x0_ hm
    obtain ⟨y1, hy1⟩ : ∃ z : Int32, z = pj_fi G 171 4 := ⟨_, rfl⟩
    have ey1 : (pj_fi G 171 4).toInt = y1.toInt := by rw [hy1]
    have ry1 : (0 : Int) ≤ y1.toInt ∧ y1.toInt ≤ 10 := by rw [hy1]; exact hI.2.1 171 4 (0, 10) rfl
    refine pj_X_of (fun r h => pj_R_to (G, 36, [(0, .ref 171), (1, .int th), (2, .int c), (3, .int us), (4, .int my), (5, .int v5)], [.ref 171, .int v5], 0, 0) 36 3 (fun _ => rfl) h) ?_
    refine pj_X_of (fun r h => pj_T_gi hI rfl rfl h) ?_
    show pj_X _ _ G 39 [(0, .ref 171), (1, .int th), (2, .int c), (3, .int us), (4, .int my), (5, .int v5)] [.int (pj_fi G 171 5), .int v5] _
    obtain ⟨y2, hy2⟩ : ∃ z : Int32, z = pj_fi G 171 5 := ⟨_, rfl⟩
    refine pj_X_eqi hy2.symm ?_
    have ey2 : (pj_fi G 171 5).toInt = y2.toInt := by rw [hy2]
    have ry2 : (0 : Int) ≤ y2.toInt ∧ y2.toInt ≤ 6 := by rw [hy2]; exact hI.2.1 171 5 (0, 6) rfl
    cases b3 : pj_c1 .ge v5 y2 with
    | true =>
      have ub3 := pj_u_geT b3
      refine pj_X_of (fun r h => pj_R_icT 105 rfl rfl b3 h) ?_
      refine pj_X_of (fun r h => pj_R_to (G, 106, [(0, .ref 171), (1, .int th), (2, .int c), (3, .int us), (4, .int my), (5, .int v5)], [.int (Int32.ofInt 0)], 0, 0) 106 2 (fun _ => rfl) h) ?_
      have q4 : (pj_fi G 171 4).toInt = y1.toInt := by rw [show pj_fi G 171 4 = y1 from hy1.symm]
      exact pj_X_rt rfl rfl ⟨_, rfl, hI, hK, ⟨by omega, by omega⟩⟩
    | false =>
      have ub3 := pj_u_geF b3
      refine pj_X_of (fun r h => pj_R_icF rfl b3 h) ?_
      refine pj_X_of (fun r h => pj_R_to (G, 45, [(0, .ref 171), (1, .int th), (2, .int c), (3, .int us), (4, .int my), (5, .int v5)], [.int v5, .int us], 0, 0) 45 3 (fun _ => rfl) h) ?_
      have q5 : (pj_fi G 171 4).toInt = y1.toInt := by rw [show pj_fi G 171 4 = y1 from hy1.symm]
      refine pj_X_ca (vs := [.int us, .int v5]) rfl (fun _ => rfl) ⟨Nat.le_of_ble_eq_true rfl, Nat.le_of_ble_eq_true rfl, rfl⟩ ⟨rfl, rfl⟩ (pj_Y_up (by decide) (ct_171bx G hI us v5)) ?_
      rintro _ _ ⟨y6, rfl, rfl, ry6, ey6, fy6⟩
      show pj_X _ _ G 48 [(0, .ref 171), (1, .int th), (2, .int c), (3, .int us), (4, .int my), (5, .int v5)] [.int y6] _
      cases b7 : pj_c1 .ne y6 0 with
      | true =>
        have ub7 := pj_u0_neT b7
        refine pj_X_of (fun r h => pj_R_ifT 99 rfl rfl b7 h) ?_
        refine pj_X_of (fun r h => pj_R_to (G, 102, [(5, .int (v5 + Int32.ofInt 1)), (0, .ref 171), (1, .int th), (2, .int c), (3, .int us), (4, .int my)], [], 0, 0) 102 2 (fun _ => rfl) h) ?_
        obtain ⟨z8, hz8⟩ : ∃ z : Int32, z = v5 + Int32.ofInt 1 := ⟨_, rfl⟩
        rw [← hz8]
        have fz8_0 : z8.toInt = v5.toInt + (Int32.ofInt 1).toInt := by rw [hz8]; exact pj_addI (by have := pj_i32 v5; have := pj_i32 (Int32.ofInt 1); omega) (by have := pj_i32 v5; have := pj_i32 (Int32.ofInt 1); omega)
        refine pj_X_of (fun r h => pj_R_to (G, 33, [(5, .int z8), (0, .ref 171), (1, .int th), (2, .int c), (3, .int us), (4, .int my)], [], 0, 0) 33 2 (fun _ => rfl) h) ?_
        have q9 : (pj_fi G 171 4).toInt = y1.toInt := by rw [show pj_fi G 171 4 = y1 from hy1.symm]
        exact pj_X_sub [(0, .ref 171), (1, .int th), (2, .int c), (3, .int us), (4, .int my), (5, .int z8)] (show List.Nodup [0, 1, 2, 3, 4, 5] by decide) ⟨rfl, rfl, rfl, rfl, rfl, rfl, trivial⟩ (ih G hI hK z8 ⟨by omega, by omega⟩ (by omega) (by omega))
      | false =>
        have ub7 := pj_u0_neF b7
        refine pj_X_of (fun r h => pj_R_ifF rfl b7 h) ?_
        refine pj_X_of (fun r h => pj_R_to (G, 52, [(0, .ref 171), (1, .int th), (2, .int c), (3, .int us), (4, .int my), (5, .int v5)], [.ref 171], 0, 0) 52 2 (fun _ => rfl) h) ?_
        refine pj_X_of (fun r h => pj_T_gr hI rfl rfl rfl h) ?_
        refine pj_X_of (fun r h => pj_R_to (G, 57, [(0, .ref 171), (1, .int th), (2, .int c), (3, .int us), (4, .int my), (5, .int v5)], [.int v5, .ref 177], 0, 0) 57 2 (fun _ => rfl) h) ?_
        refine pj_X_of (fun r h => pj_T_il hI rfl rfl (by omega) (by omega) h) ?_
        show pj_X _ _ G 58 [(0, .ref 171), (1, .int th), (2, .int c), (3, .int us), (4, .int my), (5, .int v5)] [.int (pj_ai G 177 v5.toInt.toNat)] _
        obtain ⟨z10, hz10⟩ : ∃ z : Int32, z = pj_ai G 177 v5.toInt.toNat := ⟨_, rfl⟩
        refine pj_X_eqi hz10.symm ?_
        have ez10 : (pj_ai G 177 v5.toInt.toNat).toInt = z10.toInt := by rw [hz10]
        refine pj_X_of (fun r h => pj_R_to (G, 59, [(0, .ref 171), (1, .int th), (2, .int c), (3, .int us), (4, .int my), (5, .int v5)], [.ref 171, .int z10], 0, 0) 59 2 (fun _ => rfl) h) ?_
        refine pj_X_of (fun r h => pj_T_gr hI rfl rfl rfl h) ?_
        refine pj_X_of (fun r h => pj_R_to (G, 63, [(0, .ref 171), (1, .int th), (2, .int c), (3, .int us), (4, .int my), (5, .int v5)], [.int c, .ref 176, .int z10], 0, 0) 63 2 (fun _ => rfl) h) ?_
        refine pj_X_of (fun r h => pj_T_il hI rfl rfl (by omega) (by omega) h) ?_
        show pj_X _ _ G 64 [(0, .ref 171), (1, .int th), (2, .int c), (3, .int us), (4, .int my), (5, .int v5)] [.int (pj_ai G 176 c.toInt.toNat), .int z10] _
        obtain ⟨z11, hz11⟩ : ∃ z : Int32, z = pj_ai G 176 c.toInt.toNat := ⟨_, rfl⟩
        refine pj_X_eqi hz11.symm ?_
        have ez11 : (pj_ai G 176 c.toInt.toNat).toInt = z11.toInt := by rw [hz11]
        cases b12 : pj_c1 .lt z10 z11 with
        | true =>
          have ub12 := pj_u_ltT b12
          refine pj_X_of (fun r h => pj_R_icT 99 rfl rfl b12 h) ?_
          refine pj_X_of (fun r h => pj_R_to (G, 102, [(5, .int (v5 + Int32.ofInt 1)), (0, .ref 171), (1, .int th), (2, .int c), (3, .int us), (4, .int my)], [], 0, 0) 102 2 (fun _ => rfl) h) ?_
          obtain ⟨z13, hz13⟩ : ∃ z : Int32, z = v5 + Int32.ofInt 1 := ⟨_, rfl⟩
          rw [← hz13]
          have fz13_0 : z13.toInt = v5.toInt + (Int32.ofInt 1).toInt := by rw [hz13]; exact pj_addI (by have := pj_i32 v5; have := pj_i32 (Int32.ofInt 1); omega) (by have := pj_i32 v5; have := pj_i32 (Int32.ofInt 1); omega)
          refine pj_X_of (fun r h => pj_R_to (G, 33, [(5, .int z13), (0, .ref 171), (1, .int th), (2, .int c), (3, .int us), (4, .int my)], [], 0, 0) 33 2 (fun _ => rfl) h) ?_
          have q14 : (pj_fi G 171 4).toInt = y1.toInt := by rw [show pj_fi G 171 4 = y1 from hy1.symm]
          exact pj_X_sub [(0, .ref 171), (1, .int th), (2, .int c), (3, .int us), (4, .int my), (5, .int z13)] (show List.Nodup [0, 1, 2, 3, 4, 5] by decide) ⟨rfl, rfl, rfl, rfl, rfl, rfl, trivial⟩ (ih G hI hK z13 ⟨by omega, by omega⟩ (by omega) (by omega))
        | false =>
          have ub12 := pj_u_ltF b12
          refine pj_X_of (fun r h => pj_R_icF rfl b12 h) ?_
          refine pj_X_of (fun r h => pj_R_to (G, 68, [(0, .ref 171), (1, .int th), (2, .int c), (3, .int us), (4, .int my), (5, .int v5)], [.ref 171], 0, 0) 68 2 (fun _ => rfl) h) ?_
          refine pj_X_of (fun r h => pj_T_gr hI rfl rfl rfl h) ?_
          refine pj_X_of (fun r h => pj_R_to (G, 75, [(0, .ref 171), (1, .int th), (2, .int c), (3, .int us), (4, .int my), (5, .int v5)], [.int v5, .int my, .ref 191], 0, 0) 75 3 (fun _ => rfl) h) ?_
          refine pj_X_of (fun r h => pj_T_is hI rfl rfl (by omega) (by omega) h) ?_
          show pj_X _ _ (pj_wa G 191 my.toInt.toNat v5) 76 [(0, .ref 171), (1, .int th), (2, .int c), (3, .int us), (4, .int my), (5, .int v5)] [] _
          obtain ⟨G15, hG15⟩ : ∃ H, H = pj_wa G 191 my.toInt.toNat v5 := ⟨_, rfl⟩
          have iG15 : pj_Inv G15 := by rw [hG15]; exact pj_Inv_wa hI rfl (fun q hq => by cases hq) (fun n hn => by cases hn)
          have kG15 : pj_kpt kc_242_3 G0 G15 := by rw [hG15]; exact pj_kpt_a hK rfl
          rw [← hG15]
          refine pj_X_of (fun r h => pj_R_to (G15, 81, [(0, .ref 171), (1, .int th), (2, .int c), (3, .int us), (4, .int my), (5, .int v5)], [.int (c + (Int32.ofInt 1)), .int th, .ref 171], 0, 0) 81 6 (fun _ => rfl) h) ?_
          obtain ⟨z16, hz16⟩ : ∃ z : Int32, z = c + (Int32.ofInt 1) := ⟨_, rfl⟩
          refine pj_X_eqi hz16.symm ?_
          have fz16_0 : z16.toInt = c.toInt + (Int32.ofInt 1).toInt := by rw [hz16]; exact pj_addI (by have := pj_i32 c; have := pj_i32 (Int32.ofInt 1); omega) (by have := pj_i32 c; have := pj_i32 (Int32.ofInt 1); omega)
          refine pj_X_of (fun r h => pj_R_to (G15, 86, [(0, .ref 171), (1, .int th), (2, .int c), (3, .int us), (4, .int my), (5, .int v5)], [.int ((Int32.ofInt 1) <<< (v5 &&& 31)), .int us, .int z16, .int th, .ref 171], 0, 0) 86 5 (fun _ => rfl) h) ?_
          obtain ⟨z17, hz17⟩ : ∃ z : Int32, z = (Int32.ofInt 1) <<< (v5 &&& 31) := ⟨_, rfl⟩
          refine pj_X_eqi hz17.symm ?_
          have fz17_0 : 1 ≤ z17.toInt ∧ z17.toInt ≤ 32 := by rw [hz17]; exact pj_shlI5 (by omega) (by omega)
          refine pj_X_of (fun r h => pj_R_to (G15, 87, [(0, .ref 171), (1, .int th), (2, .int c), (3, .int us), (4, .int my), (5, .int v5)], [.int (us ||| z17), .int z16, .int th, .ref 171], 0, 0) 87 2 (fun _ => rfl) h) ?_
          obtain ⟨z18, hz18⟩ : ∃ z : Int32, z = us ||| z17 := ⟨_, rfl⟩
          refine pj_X_eqi hz18.symm ?_
          refine pj_X_of (fun r h => pj_R_to (G15, 91, [(0, .ref 171), (1, .int th), (2, .int c), (3, .int us), (4, .int my), (5, .int v5)], [.int (my + (Int32.ofInt 1)), .int z18, .int z16, .int th, .ref 171], 0, 0) 91 4 (fun _ => rfl) h) ?_
          obtain ⟨z19, hz19⟩ : ∃ z : Int32, z = my + (Int32.ofInt 1) := ⟨_, rfl⟩
          refine pj_X_eqi hz19.symm ?_
          have fz19_0 : z19.toInt = my.toInt + (Int32.ofInt 1).toInt := by rw [hz19]; exact pj_addI (by have := pj_i32 my; have := pj_i32 (Int32.ofInt 1); omega) (by have := pj_i32 my; have := pj_i32 (Int32.ofInt 1); omega)
          have q20 : (pj_fi G15 171 4).toInt = y1.toInt := by rw [show pj_fi G15 171 4 = y1 from by rw [hG15, pj_fi_wa]; exact hy1.symm]
          refine pj_X_ca (vs := [.ref 171, .int th, .int z16, .int z18, .int z19]) rfl (fun _ => rfl) ⟨Nat.le_of_ble_eq_true rfl, Nat.le_of_ble_eq_true rfl, pj_T_rcv iG15 rfl⟩ ⟨rfl, rfl⟩ (pj_Y_up (by decide) (ct_242_4 G15 iG15 th z16 z18 z19 ⟨by omega, by omega⟩ ⟨by omega, by omega⟩ (by omega))) ?_
          rintro _ G22 ⟨y21, rfl, iG22, jG22, ry21⟩
          have kG22 : pj_kpt kc_242_3 G0 G22 := pj_kpt_t kG15 (pj_kpt_s jG22 rfl)
          have q23 : (pj_fi G22 171 4).toInt = (pj_fi G15 171 4).toInt := by rw [jG22.1 (171, 4) (by decide)]
          obtain ⟨y24, hy24⟩ : ∃ z : Int32, z = pj_fi G22 171 4 := ⟨_, rfl⟩
          have ey24 : (pj_fi G22 171 4).toInt = y24.toInt := by rw [hy24]
          have ry24 : (0 : Int) ≤ y24.toInt ∧ y24.toInt ≤ 10 := by rw [hy24]; exact iG22.2.1 171 4 (0, 10) rfl
          show pj_X _ _ G22 94 [(0, .ref 171), (1, .int th), (2, .int c), (3, .int us), (4, .int my), (5, .int v5)] [.int y21] _
          cases b25 : pj_c1 .eq y21 0 with
          | true =>
            have ub25 := pj_u0_eqT b25
            refine pj_X_of (fun r h => pj_R_ifT 99 rfl rfl b25 h) ?_
            refine pj_X_of (fun r h => pj_R_to (G22, 102, [(5, .int (v5 + Int32.ofInt 1)), (0, .ref 171), (1, .int th), (2, .int c), (3, .int us), (4, .int my)], [], 0, 0) 102 2 (fun _ => rfl) h) ?_
            obtain ⟨z26, hz26⟩ : ∃ z : Int32, z = v5 + Int32.ofInt 1 := ⟨_, rfl⟩
            rw [← hz26]
            have fz26_0 : z26.toInt = v5.toInt + (Int32.ofInt 1).toInt := by rw [hz26]; exact pj_addI (by have := pj_i32 v5; have := pj_i32 (Int32.ofInt 1); omega) (by have := pj_i32 v5; have := pj_i32 (Int32.ofInt 1); omega)
            refine pj_X_of (fun r h => pj_R_to (G22, 33, [(5, .int z26), (0, .ref 171), (1, .int th), (2, .int c), (3, .int us), (4, .int my)], [], 0, 0) 33 2 (fun _ => rfl) h) ?_
            have q27 : (pj_fi G22 171 4).toInt = y24.toInt := by rw [show pj_fi G22 171 4 = y24 from hy24.symm]
            exact pj_X_sub [(0, .ref 171), (1, .int th), (2, .int c), (3, .int us), (4, .int my), (5, .int z26)] (show List.Nodup [0, 1, 2, 3, 4, 5] by decide) ⟨rfl, rfl, rfl, rfl, rfl, rfl, trivial⟩ (ih G22 iG22 kG22 z26 ⟨by omega, by omega⟩ (by omega) (by omega))
          | false =>
            have ub25 := pj_u0_eqF b25
            refine pj_X_of (fun r h => pj_R_ifF rfl b25 h) ?_
            refine pj_X_of (fun r h => pj_R_to (G22, 98, [(0, .ref 171), (1, .int th), (2, .int c), (3, .int us), (4, .int my), (5, .int v5)], [.int (Int32.ofInt 1)], 0, 0) 98 2 (fun _ => rfl) h) ?_
            have q28 : (pj_fi G22 171 4).toInt = y24.toInt := by rw [show pj_fi G22 171 4 = y24 from hy24.symm]
            exact pj_X_rt rfl rfl ⟨_, rfl, iG22, kG22, ⟨by omega, by omega⟩⟩
theorem ct_242_3 (G0 : pj_G) (hI : pj_Inv G0) (th : Int32) (c : Int32) (us : Int32) (my : Int32) (rc : (3 : Int) ≤ c.toInt ∧ c.toInt ≤ 3) (rmy : (0 : Int) ≤ my.toInt ∧ my.toInt ≤ 3) (p0_ : c.toInt ≤ (pj_fi G0 171 4).toInt) : pj_Y 10 242 [.ref 171, .int th, .int c, .int us, .int my] G0 (fun v G' => ∃ y : Int32, v = some (.int y) ∧ pj_Inv G' ∧ pj_kpt kc_242_3 G0 G' ∧ ((0 : Int) ≤ y.toInt ∧ y.toInt ≤ 1)) := by
  have c0_ : (Int32.ofInt 0).toInt = 0 := by decide
  have c1_ : (Int32.ofInt 1).toInt = 1 := by decide
  refine pj_Y_X (M := pj_m242) rfl rfl (Nat.le_of_ble_eq_true rfl) ?_
  have hK : pj_kpt kc_242_3 G0 G0 := pj_kpt_r _ _
  show pj_X _ _ G0 0 [(0, .ref 171), (1, .int th), (2, .int c), (3, .int us), (4, .int my)] [] _
  obtain ⟨y29, hy29⟩ : ∃ z : Int32, z = pj_fi G0 171 4 := ⟨_, rfl⟩
  have ey29 : (pj_fi G0 171 4).toInt = y29.toInt := by rw [hy29]
  have ry29 : (0 : Int) ≤ y29.toInt ∧ y29.toInt ≤ 10 := by rw [hy29]; exact hI.2.1 171 4 (0, 10) rfl
  refine pj_X_of (fun r h => pj_R_to (G0, 2, [(0, .ref 171), (1, .int th), (2, .int c), (3, .int us), (4, .int my)], [.ref 171, .int c], 0, 0) 2 3 (fun _ => rfl) h) ?_
  refine pj_X_of (fun r h => pj_T_gi hI rfl rfl h) ?_
  show pj_X _ _ G0 5 [(0, .ref 171), (1, .int th), (2, .int c), (3, .int us), (4, .int my)] [.int (pj_fi G0 171 4), .int c] _
  refine pj_X_eqi (show pj_fi G0 171 4 = y29 from hy29.symm) ?_
  cases b30 : pj_c1 .ne c y29 with
  | true =>
    have ub30 := pj_u_neT b30
    refine pj_X_of (fun r h => pj_R_icT 10 rfl rfl b30 h) ?_
    refine pj_X_of (fun r h => pj_R_to (G0, 12, [(0, .ref 171), (1, .int th), (2, .int c), (3, .int us), (4, .int my)], [.int c, .int th], 0, 0) 12 3 (fun _ => rfl) h) ?_
    have q31 : (pj_fi G0 171 4).toInt = y29.toInt := by rw [show pj_fi G0 171 4 = y29 from hy29.symm]
    refine pj_X_ca (vs := [.int th, .int c]) rfl (fun _ => rfl) ⟨Nat.le_of_ble_eq_true rfl, Nat.le_of_ble_eq_true rfl, rfl⟩ ⟨rfl, rfl⟩ (pj_Y_up (by decide) (ct_171bx G0 hI th c)) ?_
    rintro _ _ ⟨y32, rfl, rfl, ry32, ey32, fy32⟩
    show pj_X _ _ G0 15 [(0, .ref 171), (1, .int th), (2, .int c), (3, .int us), (4, .int my)] [.int y32] _
    cases b33 : pj_c1 .ne y32 0 with
    | true =>
      have ub33 := pj_u0_neT b33
      refine pj_X_of (fun r h => pj_R_ifT 30 rfl rfl b33 h) ?_
      refine pj_X_of (fun r h => pj_R_to (G0, 33, [(5, .int (Int32.ofInt 0)), (0, .ref 171), (1, .int th), (2, .int c), (3, .int us), (4, .int my)], [], 0, 0) 33 3 (fun _ => rfl) h) ?_
      have q34 : (pj_fi G0 171 4).toInt = y29.toInt := by rw [show pj_fi G0 171 4 = y29 from hy29.symm]
      exact pj_X_sub [(0, .ref 171), (1, .int th), (2, .int c), (3, .int us), (4, .int my), (5, .int (Int32.ofInt 0))] (show List.Nodup [0, 1, 2, 3, 4, 5] by decide) ⟨rfl, rfl, rfl, rfl, rfl, rfl, trivial⟩ ((lp_ct_242_3 G0 hI th c us my rc rmy p0_ 7) G0 hI hK (Int32.ofInt 0) ⟨by omega, by omega⟩ (by omega) (by omega))
    | false =>
      have ub33 := pj_u0_neF b33
      refine pj_X_of (fun r h => pj_R_ifF rfl b33 h) ?_
      refine pj_X_of (fun r h => pj_R_to (G0, 23, [(0, .ref 171), (1, .int th), (2, .int c), (3, .int us), (4, .int my)], [.int (c + (Int32.ofInt 1)), .int th, .ref 171], 0, 0) 23 6 (fun _ => rfl) h) ?_
      obtain ⟨z35, hz35⟩ : ∃ z : Int32, z = c + (Int32.ofInt 1) := ⟨_, rfl⟩
      refine pj_X_eqi hz35.symm ?_
      have fz35_0 : z35.toInt = c.toInt + (Int32.ofInt 1).toInt := by rw [hz35]; exact pj_addI (by have := pj_i32 c; have := pj_i32 (Int32.ofInt 1); omega) (by have := pj_i32 c; have := pj_i32 (Int32.ofInt 1); omega)
      refine pj_X_of (fun r h => pj_R_to (G0, 26, [(0, .ref 171), (1, .int th), (2, .int c), (3, .int us), (4, .int my)], [.int my, .int us, .int z35, .int th, .ref 171], 0, 0) 26 3 (fun _ => rfl) h) ?_
      have q36 : (pj_fi G0 171 4).toInt = y29.toInt := by rw [show pj_fi G0 171 4 = y29 from hy29.symm]
      refine pj_X_ca (vs := [.ref 171, .int th, .int z35, .int us, .int my]) rfl (fun _ => rfl) ⟨Nat.le_of_ble_eq_true rfl, Nat.le_of_ble_eq_true rfl, pj_T_rcv hI rfl⟩ ⟨rfl, rfl⟩ (pj_Y_up (by decide) (ct_242_4 G0 hI th z35 us my ⟨by omega, by omega⟩ ⟨by omega, by omega⟩ (by omega))) ?_
      rintro _ G38 ⟨y37, rfl, iG38, jG38, ry37⟩
      have kG38 : pj_kpt kc_242_3 G0 G38 := pj_kpt_t hK (pj_kpt_s jG38 rfl)
      have q39 : (pj_fi G38 171 4).toInt = (pj_fi G0 171 4).toInt := by rw [jG38.1 (171, 4) (by decide)]
      obtain ⟨y40, hy40⟩ : ∃ z : Int32, z = pj_fi G38 171 4 := ⟨_, rfl⟩
      have ey40 : (pj_fi G38 171 4).toInt = y40.toInt := by rw [hy40]
      have ry40 : (0 : Int) ≤ y40.toInt ∧ y40.toInt ≤ 10 := by rw [hy40]; exact iG38.2.1 171 4 (0, 10) rfl
      show pj_X _ _ G38 29 [(0, .ref 171), (1, .int th), (2, .int c), (3, .int us), (4, .int my)] [.int y37] _
      have q41 : (pj_fi G38 171 4).toInt = y40.toInt := by rw [show pj_fi G38 171 4 = y40 from hy40.symm]
      exact pj_X_rt (v := some (.int y37)) rfl (pj_rtb ⟨by omega, by omega⟩) ⟨_, rfl, iG38, kG38, ⟨by omega, by omega⟩⟩
  | false =>
    have ub30 := pj_u_neF b30
    refine pj_X_of (fun r h => pj_R_icF rfl b30 h) ?_
    refine pj_X_of (fun r h => pj_R_to (G0, 9, [(0, .ref 171), (1, .int th), (2, .int c), (3, .int us), (4, .int my)], [.int (Int32.ofInt 1)], 0, 0) 9 2 (fun _ => rfl) h) ?_
    have q42 : (pj_fi G0 171 4).toInt = y29.toInt := by rw [show pj_fi G0 171 4 = y29 from hy29.symm]
    exact pj_X_rt rfl rfl ⟨_, rfl, hI, hK, ⟨by omega, by omega⟩⟩
def kc_242_2 : pj_KT := ([], [191], [191])
theorem lp_ct_242_2 (G0 : pj_G) (hI0 : pj_Inv G0) (th : Int32) (c : Int32) (us : Int32) (my : Int32) (rc : (2 : Int) ≤ c.toInt ∧ c.toInt ≤ 2) (rmy : (0 : Int) ≤ my.toInt ∧ my.toInt ≤ 2) (p0_ : c.toInt ≤ (pj_fi G0 171 4).toInt) : ∀ mn : Nat, (∀ (G : pj_G) (hI : pj_Inv G) (hK : pj_kpt kc_242_2 G0 G) (v5 : Int32), ((0 : Int) ≤ v5.toInt ∧ v5.toInt ≤ 6) → (c.toInt < (pj_fi G 171 4).toInt) → 6 - v5.toInt < (mn : Int) → pj_X 10 pj_m242 G 33 [(0, .ref 171), (1, .int th), (2, .int c), (3, .int us), (4, .int my), (5, .int v5)] [] (fun v G' => ∃ y : Int32, v = some (.int y) ∧ pj_Inv G' ∧ pj_kpt kc_242_2 G0 G' ∧ ((0 : Int) ≤ y.toInt ∧ y.toInt ≤ 1))) := by
  have c0_ : (Int32.ofInt 0).toInt = 0 := by decide
  have c1_ : (Int32.ofInt 1).toInt = 1 := by decide
  intro mn
  induction mn with
  | zero =>
    intro G hI hK v5 rv5 x0_ hm
    exfalso
    omega
  | succ mn ih =>
    intro G hI hK v5 rv5 x0_ hm
    obtain ⟨y1, hy1⟩ : ∃ z : Int32, z = pj_fi G 171 4 := ⟨_, rfl⟩
    have ey1 : (pj_fi G 171 4).toInt = y1.toInt := by rw [hy1]
    have ry1 : (0 : Int) ≤ y1.toInt ∧ y1.toInt ≤ 10 := by rw [hy1]; exact hI.2.1 171 4 (0, 10) rfl
    refine pj_X_of (fun r h => pj_R_to (G, 36, [(0, .ref 171), (1, .int th), (2, .int c), (3, .int us), (4, .int my), (5, .int v5)], [.ref 171, .int v5], 0, 0) 36 3 (fun _ => rfl) h) ?_
    refine pj_X_of (fun r h => pj_T_gi hI rfl rfl h) ?_
    show pj_X _ _ G 39 [(0, .ref 171), (1, .int th), (2, .int c), (3, .int us), (4, .int my), (5, .int v5)] [.int (pj_fi G 171 5), .int v5] _
    obtain ⟨y2, hy2⟩ : ∃ z : Int32, z = pj_fi G 171 5 := ⟨_, rfl⟩
    refine pj_X_eqi hy2.symm ?_
    have ey2 : (pj_fi G 171 5).toInt = y2.toInt := by rw [hy2]
    have ry2 : (0 : Int) ≤ y2.toInt ∧ y2.toInt ≤ 6 := by rw [hy2]; exact hI.2.1 171 5 (0, 6) rfl
    cases b3 : pj_c1 .ge v5 y2 with
    | true =>
      have ub3 := pj_u_geT b3
      refine pj_X_of (fun r h => pj_R_icT 105 rfl rfl b3 h) ?_
      refine pj_X_of (fun r h => pj_R_to (G, 106, [(0, .ref 171), (1, .int th), (2, .int c), (3, .int us), (4, .int my), (5, .int v5)], [.int (Int32.ofInt 0)], 0, 0) 106 2 (fun _ => rfl) h) ?_
      have q4 : (pj_fi G 171 4).toInt = y1.toInt := by rw [show pj_fi G 171 4 = y1 from hy1.symm]
      exact pj_X_rt rfl rfl ⟨_, rfl, hI, hK, ⟨by omega, by omega⟩⟩
    | false =>
      have ub3 := pj_u_geF b3
      refine pj_X_of (fun r h => pj_R_icF rfl b3 h) ?_
      refine pj_X_of (fun r h => pj_R_to (G, 45, [(0, .ref 171), (1, .int th), (2, .int c), (3, .int us), (4, .int my), (5, .int v5)], [.int v5, .int us], 0, 0) 45 3 (fun _ => rfl) h) ?_
      have q5 : (pj_fi G 171 4).toInt = y1.toInt := by rw [show pj_fi G 171 4 = y1 from hy1.symm]
      refine pj_X_ca (vs := [.int us, .int v5]) rfl (fun _ => rfl) ⟨Nat.le_of_ble_eq_true rfl, Nat.le_of_ble_eq_true rfl, rfl⟩ ⟨rfl, rfl⟩ (pj_Y_up (by decide) (ct_171bx G hI us v5)) ?_
      rintro _ _ ⟨y6, rfl, rfl, ry6, ey6, fy6⟩
      show pj_X _ _ G 48 [(0, .ref 171), (1, .int th), (2, .int c), (3, .int us), (4, .int my), (5, .int v5)] [.int y6] _
      cases b7 : pj_c1 .ne y6 0 with
      | true =>
        have ub7 := pj_u0_neT b7
        refine pj_X_of (fun r h => pj_R_ifT 99 rfl rfl b7 h) ?_
        refine pj_X_of (fun r h => pj_R_to (G, 102, [(5, .int (v5 + Int32.ofInt 1)), (0, .ref 171), (1, .int th), (2, .int c), (3, .int us), (4, .int my)], [], 0, 0) 102 2 (fun _ => rfl) h) ?_
        obtain ⟨z8, hz8⟩ : ∃ z : Int32, z = v5 + Int32.ofInt 1 := ⟨_, rfl⟩
        rw [← hz8]
        have fz8_0 : z8.toInt = v5.toInt + (Int32.ofInt 1).toInt := by rw [hz8]; exact pj_addI (by have := pj_i32 v5; have := pj_i32 (Int32.ofInt 1); omega) (by have := pj_i32 v5; have := pj_i32 (Int32.ofInt 1); omega)
        refine pj_X_of (fun r h => pj_R_to (G, 33, [(5, .int z8), (0, .ref 171), (1, .int th), (2, .int c), (3, .int us), (4, .int my)], [], 0, 0) 33 2 (fun _ => rfl) h) ?_
        have q9 : (pj_fi G 171 4).toInt = y1.toInt := by rw [show pj_fi G 171 4 = y1 from hy1.symm]
        exact pj_X_sub [(0, .ref 171), (1, .int th), (2, .int c), (3, .int us), (4, .int my), (5, .int z8)] (show List.Nodup [0, 1, 2, 3, 4, 5] by decide) ⟨rfl, rfl, rfl, rfl, rfl, rfl, trivial⟩ (ih G hI hK z8 ⟨by omega, by omega⟩ (by omega) (by omega))
      | false =>
        have ub7 := pj_u0_neF b7
        refine pj_X_of (fun r h => pj_R_ifF rfl b7 h) ?_
        refine pj_X_of (fun r h => pj_R_to (G, 52, [(0, .ref 171), (1, .int th), (2, .int c), (3, .int us), (4, .int my), (5, .int v5)], [.ref 171], 0, 0) 52 2 (fun _ => rfl) h) ?_
        refine pj_X_of (fun r h => pj_T_gr hI rfl rfl rfl h) ?_
        refine pj_X_of (fun r h => pj_R_to (G, 57, [(0, .ref 171), (1, .int th), (2, .int c), (3, .int us), (4, .int my), (5, .int v5)], [.int v5, .ref 177], 0, 0) 57 2 (fun _ => rfl) h) ?_
        refine pj_X_of (fun r h => pj_T_il hI rfl rfl (by omega) (by omega) h) ?_
        show pj_X _ _ G 58 [(0, .ref 171), (1, .int th), (2, .int c), (3, .int us), (4, .int my), (5, .int v5)] [.int (pj_ai G 177 v5.toInt.toNat)] _
        obtain ⟨z10, hz10⟩ : ∃ z : Int32, z = pj_ai G 177 v5.toInt.toNat := ⟨_, rfl⟩
        refine pj_X_eqi hz10.symm ?_
        have ez10 : (pj_ai G 177 v5.toInt.toNat).toInt = z10.toInt := by rw [hz10]
        refine pj_X_of (fun r h => pj_R_to (G, 59, [(0, .ref 171), (1, .int th), (2, .int c), (3, .int us), (4, .int my), (5, .int v5)], [.ref 171, .int z10], 0, 0) 59 2 (fun _ => rfl) h) ?_
        refine pj_X_of (fun r h => pj_T_gr hI rfl rfl rfl h) ?_
        refine pj_X_of (fun r h => pj_R_to (G, 63, [(0, .ref 171), (1, .int th), (2, .int c), (3, .int us), (4, .int my), (5, .int v5)], [.int c, .ref 176, .int z10], 0, 0) 63 2 (fun _ => rfl) h) ?_
        refine pj_X_of (fun r h => pj_T_il hI rfl rfl (by omega) (by omega) h) ?_
        show pj_X _ _ G 64 [(0, .ref 171), (1, .int th), (2, .int c), (3, .int us), (4, .int my), (5, .int v5)] [.int (pj_ai G 176 c.toInt.toNat), .int z10] _
        obtain ⟨z11, hz11⟩ : ∃ z : Int32, z = pj_ai G 176 c.toInt.toNat := ⟨_, rfl⟩
        refine pj_X_eqi hz11.symm ?_
        have ez11 : (pj_ai G 176 c.toInt.toNat).toInt = z11.toInt := by rw [hz11]
        cases b12 : pj_c1 .lt z10 z11 with
        | true =>
          have ub12 := pj_u_ltT b12
          refine pj_X_of (fun r h => pj_R_icT 99 rfl rfl b12 h) ?_
          refine pj_X_of (fun r h => pj_R_to (G, 102, [(5, .int (v5 + Int32.ofInt 1)), (0, .ref 171), (1, .int th), (2, .int c), (3, .int us), (4, .int my)], [], 0, 0) 102 2 (fun _ => rfl) h) ?_
          obtain ⟨z13, hz13⟩ : ∃ z : Int32, z = v5 + Int32.ofInt 1 := ⟨_, rfl⟩
          rw [← hz13]
          have fz13_0 : z13.toInt = v5.toInt + (Int32.ofInt 1).toInt := by rw [hz13]; exact pj_addI (by have := pj_i32 v5; have := pj_i32 (Int32.ofInt 1); omega) (by have := pj_i32 v5; have := pj_i32 (Int32.ofInt 1); omega)
          refine pj_X_of (fun r h => pj_R_to (G, 33, [(5, .int z13), (0, .ref 171), (1, .int th), (2, .int c), (3, .int us), (4, .int my)], [], 0, 0) 33 2 (fun _ => rfl) h) ?_
          have q14 : (pj_fi G 171 4).toInt = y1.toInt := by rw [show pj_fi G 171 4 = y1 from hy1.symm]
          exact pj_X_sub [(0, .ref 171), (1, .int th), (2, .int c), (3, .int us), (4, .int my), (5, .int z13)] (show List.Nodup [0, 1, 2, 3, 4, 5] by decide) ⟨rfl, rfl, rfl, rfl, rfl, rfl, trivial⟩ (ih G hI hK z13 ⟨by omega, by omega⟩ (by omega) (by omega))
        | false =>
          have ub12 := pj_u_ltF b12
          refine pj_X_of (fun r h => pj_R_icF rfl b12 h) ?_
          refine pj_X_of (fun r h => pj_R_to (G, 68, [(0, .ref 171), (1, .int th), (2, .int c), (3, .int us), (4, .int my), (5, .int v5)], [.ref 171], 0, 0) 68 2 (fun _ => rfl) h) ?_
          refine pj_X_of (fun r h => pj_T_gr hI rfl rfl rfl h) ?_
          refine pj_X_of (fun r h => pj_R_to (G, 75, [(0, .ref 171), (1, .int th), (2, .int c), (3, .int us), (4, .int my), (5, .int v5)], [.int v5, .int my, .ref 191], 0, 0) 75 3 (fun _ => rfl) h) ?_
          refine pj_X_of (fun r h => pj_T_is hI rfl rfl (by omega) (by omega) h) ?_
          show pj_X _ _ (pj_wa G 191 my.toInt.toNat v5) 76 [(0, .ref 171), (1, .int th), (2, .int c), (3, .int us), (4, .int my), (5, .int v5)] [] _
          obtain ⟨G15, hG15⟩ : ∃ H, H = pj_wa G 191 my.toInt.toNat v5 := ⟨_, rfl⟩
          have iG15 : pj_Inv G15 := by rw [hG15]; exact pj_Inv_wa hI rfl (fun q hq => by cases hq) (fun n hn => by cases hn)
          have kG15 : pj_kpt kc_242_2 G0 G15 := by rw [hG15]; exact pj_kpt_a hK rfl
          rw [← hG15]
          refine pj_X_of (fun r h => pj_R_to (G15, 81, [(0, .ref 171), (1, .int th), (2, .int c), (3, .int us), (4, .int my), (5, .int v5)], [.int (c + (Int32.ofInt 1)), .int th, .ref 171], 0, 0) 81 6 (fun _ => rfl) h) ?_
          obtain ⟨z16, hz16⟩ : ∃ z : Int32, z = c + (Int32.ofInt 1) := ⟨_, rfl⟩
          refine pj_X_eqi hz16.symm ?_
          have fz16_0 : z16.toInt = c.toInt + (Int32.ofInt 1).toInt := by rw [hz16]; exact pj_addI (by have := pj_i32 c; have := pj_i32 (Int32.ofInt 1); omega) (by have := pj_i32 c; have := pj_i32 (Int32.ofInt 1); omega)
          refine pj_X_of (fun r h => pj_R_to (G15, 86, [(0, .ref 171), (1, .int th), (2, .int c), (3, .int us), (4, .int my), (5, .int v5)], [.int ((Int32.ofInt 1) <<< (v5 &&& 31)), .int us, .int z16, .int th, .ref 171], 0, 0) 86 5 (fun _ => rfl) h) ?_
          obtain ⟨z17, hz17⟩ : ∃ z : Int32, z = (Int32.ofInt 1) <<< (v5 &&& 31) := ⟨_, rfl⟩
          refine pj_X_eqi hz17.symm ?_
          have fz17_0 : 1 ≤ z17.toInt ∧ z17.toInt ≤ 32 := by rw [hz17]; exact pj_shlI5 (by omega) (by omega)
          refine pj_X_of (fun r h => pj_R_to (G15, 87, [(0, .ref 171), (1, .int th), (2, .int c), (3, .int us), (4, .int my), (5, .int v5)], [.int (us ||| z17), .int z16, .int th, .ref 171], 0, 0) 87 2 (fun _ => rfl) h) ?_
          obtain ⟨z18, hz18⟩ : ∃ z : Int32, z = us ||| z17 := ⟨_, rfl⟩
          refine pj_X_eqi hz18.symm ?_
          refine pj_X_of (fun r h => pj_R_to (G15, 91, [(0, .ref 171), (1, .int th), (2, .int c), (3, .int us), (4, .int my), (5, .int v5)], [.int (my + (Int32.ofInt 1)), .int z18, .int z16, .int th, .ref 171], 0, 0) 91 4 (fun _ => rfl) h) ?_
          obtain ⟨z19, hz19⟩ : ∃ z : Int32, z = my + (Int32.ofInt 1) := ⟨_, rfl⟩
          refine pj_X_eqi hz19.symm ?_
          have fz19_0 : z19.toInt = my.toInt + (Int32.ofInt 1).toInt := by rw [hz19]; exact pj_addI (by have := pj_i32 my; have := pj_i32 (Int32.ofInt 1); omega) (by have := pj_i32 my; have := pj_i32 (Int32.ofInt 1); omega)
          have q20 : (pj_fi G15 171 4).toInt = y1.toInt := by rw [show pj_fi G15 171 4 = y1 from by rw [hG15, pj_fi_wa]; exact hy1.symm]
          refine pj_X_ca (vs := [.ref 171, .int th, .int z16, .int z18, .int z19]) rfl (fun _ => rfl) ⟨Nat.le_of_ble_eq_true rfl, Nat.le_of_ble_eq_true rfl, pj_T_rcv iG15 rfl⟩ ⟨rfl, rfl⟩ (pj_Y_up (by decide) (ct_242_3 G15 iG15 th z16 z18 z19 ⟨by omega, by omega⟩ ⟨by omega, by omega⟩ (by omega))) ?_
          rintro _ G22 ⟨y21, rfl, iG22, jG22, ry21⟩
          have kG22 : pj_kpt kc_242_2 G0 G22 := pj_kpt_t kG15 (pj_kpt_s jG22 rfl)
          have q23 : (pj_fi G22 171 4).toInt = (pj_fi G15 171 4).toInt := by rw [jG22.1 (171, 4) (by decide)]
          obtain ⟨y24, hy24⟩ : ∃ z : Int32, z = pj_fi G22 171 4 := ⟨_, rfl⟩
          have ey24 : (pj_fi G22 171 4).toInt = y24.toInt := by rw [hy24]
          have ry24 : (0 : Int) ≤ y24.toInt ∧ y24.toInt ≤ 10 := by rw [hy24]; exact iG22.2.1 171 4 (0, 10) rfl
          show pj_X _ _ G22 94 [(0, .ref 171), (1, .int th), (2, .int c), (3, .int us), (4, .int my), (5, .int v5)] [.int y21] _
          cases b25 : pj_c1 .eq y21 0 with
          | true =>
            have ub25 := pj_u0_eqT b25
            refine pj_X_of (fun r h => pj_R_ifT 99 rfl rfl b25 h) ?_
            refine pj_X_of (fun r h => pj_R_to (G22, 102, [(5, .int (v5 + Int32.ofInt 1)), (0, .ref 171), (1, .int th), (2, .int c), (3, .int us), (4, .int my)], [], 0, 0) 102 2 (fun _ => rfl) h) ?_
            obtain ⟨z26, hz26⟩ : ∃ z : Int32, z = v5 + Int32.ofInt 1 := ⟨_, rfl⟩
            rw [← hz26]
            have fz26_0 : z26.toInt = v5.toInt + (Int32.ofInt 1).toInt := by rw [hz26]; exact pj_addI (by have := pj_i32 v5; have := pj_i32 (Int32.ofInt 1); omega) (by have := pj_i32 v5; have := pj_i32 (Int32.ofInt 1); omega)
            refine pj_X_of (fun r h => pj_R_to (G22, 33, [(5, .int z26), (0, .ref 171), (1, .int th), (2, .int c), (3, .int us), (4, .int my)], [], 0, 0) 33 2 (fun _ => rfl) h) ?_
            have q27 : (pj_fi G22 171 4).toInt = y24.toInt := by rw [show pj_fi G22 171 4 = y24 from hy24.symm]
            exact pj_X_sub [(0, .ref 171), (1, .int th), (2, .int c), (3, .int us), (4, .int my), (5, .int z26)] (show List.Nodup [0, 1, 2, 3, 4, 5] by decide) ⟨rfl, rfl, rfl, rfl, rfl, rfl, trivial⟩ (ih G22 iG22 kG22 z26 ⟨by omega, by omega⟩ (by omega) (by omega))
          | false =>
            have ub25 := pj_u0_eqF b25
            refine pj_X_of (fun r h => pj_R_ifF rfl b25 h) ?_
            refine pj_X_of (fun r h => pj_R_to (G22, 98, [(0, .ref 171), (1, .int th), (2, .int c), (3, .int us), (4, .int my), (5, .int v5)], [.int (Int32.ofInt 1)], 0, 0) 98 2 (fun _ => rfl) h) ?_
            have q28 : (pj_fi G22 171 4).toInt = y24.toInt := by rw [show pj_fi G22 171 4 = y24 from hy24.symm]
            exact pj_X_rt rfl rfl ⟨_, rfl, iG22, kG22, ⟨by omega, by omega⟩⟩
theorem ct_242_2 (G0 : pj_G) (hI : pj_Inv G0) (th : Int32) (c : Int32) (us : Int32) (my : Int32) (rc : (2 : Int) ≤ c.toInt ∧ c.toInt ≤ 2) (rmy : (0 : Int) ≤ my.toInt ∧ my.toInt ≤ 2) (p0_ : c.toInt ≤ (pj_fi G0 171 4).toInt) : pj_Y 11 242 [.ref 171, .int th, .int c, .int us, .int my] G0 (fun v G' => ∃ y : Int32, v = some (.int y) ∧ pj_Inv G' ∧ pj_kpt kc_242_2 G0 G' ∧ ((0 : Int) ≤ y.toInt ∧ y.toInt ≤ 1)) := by
  have c0_ : (Int32.ofInt 0).toInt = 0 := by decide
  have c1_ : (Int32.ofInt 1).toInt = 1 := by decide
  refine pj_Y_X (M := pj_m242) rfl rfl (Nat.le_of_ble_eq_true rfl) ?_
  have hK : pj_kpt kc_242_2 G0 G0 := pj_kpt_r _ _
  show pj_X _ _ G0 0 [(0, .ref 171), (1, .int th), (2, .int c), (3, .int us), (4, .int my)] [] _
  obtain ⟨y29, hy29⟩ : ∃ z : Int32, z = pj_fi G0 171 4 := ⟨_, rfl⟩
  have ey29 : (pj_fi G0 171 4).toInt = y29.toInt := by rw [hy29]
  have ry29 : (0 : Int) ≤ y29.toInt ∧ y29.toInt ≤ 10 := by rw [hy29]; exact hI.2.1 171 4 (0, 10) rfl
  refine pj_X_of (fun r h => pj_R_to (G0, 2, [(0, .ref 171), (1, .int th), (2, .int c), (3, .int us), (4, .int my)], [.ref 171, .int c], 0, 0) 2 3 (fun _ => rfl) h) ?_
  refine pj_X_of (fun r h => pj_T_gi hI rfl rfl h) ?_
  show pj_X _ _ G0 5 [(0, .ref 171), (1, .int th), (2, .int c), (3, .int us), (4, .int my)] [.int (pj_fi G0 171 4), .int c] _
  refine pj_X_eqi (show pj_fi G0 171 4 = y29 from hy29.symm) ?_
  cases b30 : pj_c1 .ne c y29 with
  | true =>
    have ub30 := pj_u_neT b30
    refine pj_X_of (fun r h => pj_R_icT 10 rfl rfl b30 h) ?_
    refine pj_X_of (fun r h => pj_R_to (G0, 12, [(0, .ref 171), (1, .int th), (2, .int c), (3, .int us), (4, .int my)], [.int c, .int th], 0, 0) 12 3 (fun _ => rfl) h) ?_
    have q31 : (pj_fi G0 171 4).toInt = y29.toInt := by rw [show pj_fi G0 171 4 = y29 from hy29.symm]
    refine pj_X_ca (vs := [.int th, .int c]) rfl (fun _ => rfl) ⟨Nat.le_of_ble_eq_true rfl, Nat.le_of_ble_eq_true rfl, rfl⟩ ⟨rfl, rfl⟩ (pj_Y_up (by decide) (ct_171bx G0 hI th c)) ?_
    rintro _ _ ⟨y32, rfl, rfl, ry32, ey32, fy32⟩
    show pj_X _ _ G0 15 [(0, .ref 171), (1, .int th), (2, .int c), (3, .int us), (4, .int my)] [.int y32] _
    cases b33 : pj_c1 .ne y32 0 with
    | true =>
      have ub33 := pj_u0_neT b33
      refine pj_X_of (fun r h => pj_R_ifT 30 rfl rfl b33 h) ?_
      refine pj_X_of (fun r h => pj_R_to (G0, 33, [(5, .int (Int32.ofInt 0)), (0, .ref 171), (1, .int th), (2, .int c), (3, .int us), (4, .int my)], [], 0, 0) 33 3 (fun _ => rfl) h) ?_
      have q34 : (pj_fi G0 171 4).toInt = y29.toInt := by rw [show pj_fi G0 171 4 = y29 from hy29.symm]
      exact pj_X_sub [(0, .ref 171), (1, .int th), (2, .int c), (3, .int us), (4, .int my), (5, .int (Int32.ofInt 0))] (show List.Nodup [0, 1, 2, 3, 4, 5] by decide) ⟨rfl, rfl, rfl, rfl, rfl, rfl, trivial⟩ ((lp_ct_242_2 G0 hI th c us my rc rmy p0_ 7) G0 hI hK (Int32.ofInt 0) ⟨by omega, by omega⟩ (by omega) (by omega))
    | false =>
      have ub33 := pj_u0_neF b33
      refine pj_X_of (fun r h => pj_R_ifF rfl b33 h) ?_
      refine pj_X_of (fun r h => pj_R_to (G0, 23, [(0, .ref 171), (1, .int th), (2, .int c), (3, .int us), (4, .int my)], [.int (c + (Int32.ofInt 1)), .int th, .ref 171], 0, 0) 23 6 (fun _ => rfl) h) ?_
      obtain ⟨z35, hz35⟩ : ∃ z : Int32, z = c + (Int32.ofInt 1) := ⟨_, rfl⟩
      refine pj_X_eqi hz35.symm ?_
      have fz35_0 : z35.toInt = c.toInt + (Int32.ofInt 1).toInt := by rw [hz35]; exact pj_addI (by have := pj_i32 c; have := pj_i32 (Int32.ofInt 1); omega) (by have := pj_i32 c; have := pj_i32 (Int32.ofInt 1); omega)
      refine pj_X_of (fun r h => pj_R_to (G0, 26, [(0, .ref 171), (1, .int th), (2, .int c), (3, .int us), (4, .int my)], [.int my, .int us, .int z35, .int th, .ref 171], 0, 0) 26 3 (fun _ => rfl) h) ?_
      have q36 : (pj_fi G0 171 4).toInt = y29.toInt := by rw [show pj_fi G0 171 4 = y29 from hy29.symm]
      refine pj_X_ca (vs := [.ref 171, .int th, .int z35, .int us, .int my]) rfl (fun _ => rfl) ⟨Nat.le_of_ble_eq_true rfl, Nat.le_of_ble_eq_true rfl, pj_T_rcv hI rfl⟩ ⟨rfl, rfl⟩ (pj_Y_up (by decide) (ct_242_3 G0 hI th z35 us my ⟨by omega, by omega⟩ ⟨by omega, by omega⟩ (by omega))) ?_
      rintro _ G38 ⟨y37, rfl, iG38, jG38, ry37⟩
      have kG38 : pj_kpt kc_242_2 G0 G38 := pj_kpt_t hK (pj_kpt_s jG38 rfl)
      have q39 : (pj_fi G38 171 4).toInt = (pj_fi G0 171 4).toInt := by rw [jG38.1 (171, 4) (by decide)]
      obtain ⟨y40, hy40⟩ : ∃ z : Int32, z = pj_fi G38 171 4 := ⟨_, rfl⟩
      have ey40 : (pj_fi G38 171 4).toInt = y40.toInt := by rw [hy40]
      have ry40 : (0 : Int) ≤ y40.toInt ∧ y40.toInt ≤ 10 := by rw [hy40]; exact iG38.2.1 171 4 (0, 10) rfl
      show pj_X _ _ G38 29 [(0, .ref 171), (1, .int th), (2, .int c), (3, .int us), (4, .int my)] [.int y37] _
      have q41 : (pj_fi G38 171 4).toInt = y40.toInt := by rw [show pj_fi G38 171 4 = y40 from hy40.symm]
      exact pj_X_rt (v := some (.int y37)) rfl (pj_rtb ⟨by omega, by omega⟩) ⟨_, rfl, iG38, kG38, ⟨by omega, by omega⟩⟩
  | false =>
    have ub30 := pj_u_neF b30
    refine pj_X_of (fun r h => pj_R_icF rfl b30 h) ?_
    refine pj_X_of (fun r h => pj_R_to (G0, 9, [(0, .ref 171), (1, .int th), (2, .int c), (3, .int us), (4, .int my)], [.int (Int32.ofInt 1)], 0, 0) 9 2 (fun _ => rfl) h) ?_
    have q42 : (pj_fi G0 171 4).toInt = y29.toInt := by rw [show pj_fi G0 171 4 = y29 from hy29.symm]
    exact pj_X_rt rfl rfl ⟨_, rfl, hI, hK, ⟨by omega, by omega⟩⟩
def kc_242_1 : pj_KT := ([], [191], [191])
theorem lp_ct_242_1 (G0 : pj_G) (hI0 : pj_Inv G0) (th : Int32) (c : Int32) (us : Int32) (my : Int32) (rc : (1 : Int) ≤ c.toInt ∧ c.toInt ≤ 1) (rmy : (0 : Int) ≤ my.toInt ∧ my.toInt ≤ 1) (p0_ : c.toInt ≤ (pj_fi G0 171 4).toInt) : ∀ mn : Nat, (∀ (G : pj_G) (hI : pj_Inv G) (hK : pj_kpt kc_242_1 G0 G) (v5 : Int32), ((0 : Int) ≤ v5.toInt ∧ v5.toInt ≤ 6) → (c.toInt < (pj_fi G 171 4).toInt) → 6 - v5.toInt < (mn : Int) → pj_X 11 pj_m242 G 33 [(0, .ref 171), (1, .int th), (2, .int c), (3, .int us), (4, .int my), (5, .int v5)] [] (fun v G' => ∃ y : Int32, v = some (.int y) ∧ pj_Inv G' ∧ pj_kpt kc_242_1 G0 G' ∧ ((0 : Int) ≤ y.toInt ∧ y.toInt ≤ 1))) := by
  have c0_ : (Int32.ofInt 0).toInt = 0 := by decide
  have c1_ : (Int32.ofInt 1).toInt = 1 := by decide
  intro mn
  induction mn with
  | zero =>
    intro G hI hK v5 rv5 x0_ hm
    exfalso
    omega
  | succ mn ih =>
    intro G hI hK v5 rv5 x0_ hm
    obtain ⟨y1, hy1⟩ : ∃ z : Int32, z = pj_fi G 171 4 := ⟨_, rfl⟩
    have ey1 : (pj_fi G 171 4).toInt = y1.toInt := by rw [hy1]
    have ry1 : (0 : Int) ≤ y1.toInt ∧ y1.toInt ≤ 10 := by rw [hy1]; exact hI.2.1 171 4 (0, 10) rfl
    refine pj_X_of (fun r h => pj_R_to (G, 36, [(0, .ref 171), (1, .int th), (2, .int c), (3, .int us), (4, .int my), (5, .int v5)], [.ref 171, .int v5], 0, 0) 36 3 (fun _ => rfl) h) ?_
    refine pj_X_of (fun r h => pj_T_gi hI rfl rfl h) ?_
    show pj_X _ _ G 39 [(0, .ref 171), (1, .int th), (2, .int c), (3, .int us), (4, .int my), (5, .int v5)] [.int (pj_fi G 171 5), .int v5] _
    obtain ⟨y2, hy2⟩ : ∃ z : Int32, z = pj_fi G 171 5 := ⟨_, rfl⟩
    refine pj_X_eqi hy2.symm ?_
    have ey2 : (pj_fi G 171 5).toInt = y2.toInt := by rw [hy2]
    have ry2 : (0 : Int) ≤ y2.toInt ∧ y2.toInt ≤ 6 := by rw [hy2]; exact hI.2.1 171 5 (0, 6) rfl
    cases b3 : pj_c1 .ge v5 y2 with
    | true =>
      have ub3 := pj_u_geT b3
      refine pj_X_of (fun r h => pj_R_icT 105 rfl rfl b3 h) ?_
      refine pj_X_of (fun r h => pj_R_to (G, 106, [(0, .ref 171), (1, .int th), (2, .int c), (3, .int us), (4, .int my), (5, .int v5)], [.int (Int32.ofInt 0)], 0, 0) 106 2 (fun _ => rfl) h) ?_
      have q4 : (pj_fi G 171 4).toInt = y1.toInt := by rw [show pj_fi G 171 4 = y1 from hy1.symm]
      exact pj_X_rt rfl rfl ⟨_, rfl, hI, hK, ⟨by omega, by omega⟩⟩
    | false =>
      have ub3 := pj_u_geF b3
      refine pj_X_of (fun r h => pj_R_icF rfl b3 h) ?_
      refine pj_X_of (fun r h => pj_R_to (G, 45, [(0, .ref 171), (1, .int th), (2, .int c), (3, .int us), (4, .int my), (5, .int v5)], [.int v5, .int us], 0, 0) 45 3 (fun _ => rfl) h) ?_
      have q5 : (pj_fi G 171 4).toInt = y1.toInt := by rw [show pj_fi G 171 4 = y1 from hy1.symm]
      refine pj_X_ca (vs := [.int us, .int v5]) rfl (fun _ => rfl) ⟨Nat.le_of_ble_eq_true rfl, Nat.le_of_ble_eq_true rfl, rfl⟩ ⟨rfl, rfl⟩ (pj_Y_up (by decide) (ct_171bx G hI us v5)) ?_
      rintro _ _ ⟨y6, rfl, rfl, ry6, ey6, fy6⟩
      show pj_X _ _ G 48 [(0, .ref 171), (1, .int th), (2, .int c), (3, .int us), (4, .int my), (5, .int v5)] [.int y6] _
      cases b7 : pj_c1 .ne y6 0 with
      | true =>
        have ub7 := pj_u0_neT b7
        refine pj_X_of (fun r h => pj_R_ifT 99 rfl rfl b7 h) ?_
        refine pj_X_of (fun r h => pj_R_to (G, 102, [(5, .int (v5 + Int32.ofInt 1)), (0, .ref 171), (1, .int th), (2, .int c), (3, .int us), (4, .int my)], [], 0, 0) 102 2 (fun _ => rfl) h) ?_
        obtain ⟨z8, hz8⟩ : ∃ z : Int32, z = v5 + Int32.ofInt 1 := ⟨_, rfl⟩
        rw [← hz8]
        have fz8_0 : z8.toInt = v5.toInt + (Int32.ofInt 1).toInt := by rw [hz8]; exact pj_addI (by have := pj_i32 v5; have := pj_i32 (Int32.ofInt 1); omega) (by have := pj_i32 v5; have := pj_i32 (Int32.ofInt 1); omega)
        refine pj_X_of (fun r h => pj_R_to (G, 33, [(5, .int z8), (0, .ref 171), (1, .int th), (2, .int c), (3, .int us), (4, .int my)], [], 0, 0) 33 2 (fun _ => rfl) h) ?_
        have q9 : (pj_fi G 171 4).toInt = y1.toInt := by rw [show pj_fi G 171 4 = y1 from hy1.symm]
        exact pj_X_sub [(0, .ref 171), (1, .int th), (2, .int c), (3, .int us), (4, .int my), (5, .int z8)] (show List.Nodup [0, 1, 2, 3, 4, 5] by decide) ⟨rfl, rfl, rfl, rfl, rfl, rfl, trivial⟩ (ih G hI hK z8 ⟨by omega, by omega⟩ (by omega) (by omega))
      | false =>
        have ub7 := pj_u0_neF b7
        refine pj_X_of (fun r h => pj_R_ifF rfl b7 h) ?_
        refine pj_X_of (fun r h => pj_R_to (G, 52, [(0, .ref 171), (1, .int th), (2, .int c), (3, .int us), (4, .int my), (5, .int v5)], [.ref 171], 0, 0) 52 2 (fun _ => rfl) h) ?_
        refine pj_X_of (fun r h => pj_T_gr hI rfl rfl rfl h) ?_
        refine pj_X_of (fun r h => pj_R_to (G, 57, [(0, .ref 171), (1, .int th), (2, .int c), (3, .int us), (4, .int my), (5, .int v5)], [.int v5, .ref 177], 0, 0) 57 2 (fun _ => rfl) h) ?_
        refine pj_X_of (fun r h => pj_T_il hI rfl rfl (by omega) (by omega) h) ?_
        show pj_X _ _ G 58 [(0, .ref 171), (1, .int th), (2, .int c), (3, .int us), (4, .int my), (5, .int v5)] [.int (pj_ai G 177 v5.toInt.toNat)] _
        obtain ⟨z10, hz10⟩ : ∃ z : Int32, z = pj_ai G 177 v5.toInt.toNat := ⟨_, rfl⟩
        refine pj_X_eqi hz10.symm ?_
        have ez10 : (pj_ai G 177 v5.toInt.toNat).toInt = z10.toInt := by rw [hz10]
        refine pj_X_of (fun r h => pj_R_to (G, 59, [(0, .ref 171), (1, .int th), (2, .int c), (3, .int us), (4, .int my), (5, .int v5)], [.ref 171, .int z10], 0, 0) 59 2 (fun _ => rfl) h) ?_
        refine pj_X_of (fun r h => pj_T_gr hI rfl rfl rfl h) ?_
        refine pj_X_of (fun r h => pj_R_to (G, 63, [(0, .ref 171), (1, .int th), (2, .int c), (3, .int us), (4, .int my), (5, .int v5)], [.int c, .ref 176, .int z10], 0, 0) 63 2 (fun _ => rfl) h) ?_
        refine pj_X_of (fun r h => pj_T_il hI rfl rfl (by omega) (by omega) h) ?_
        show pj_X _ _ G 64 [(0, .ref 171), (1, .int th), (2, .int c), (3, .int us), (4, .int my), (5, .int v5)] [.int (pj_ai G 176 c.toInt.toNat), .int z10] _
        obtain ⟨z11, hz11⟩ : ∃ z : Int32, z = pj_ai G 176 c.toInt.toNat := ⟨_, rfl⟩
        refine pj_X_eqi hz11.symm ?_
        have ez11 : (pj_ai G 176 c.toInt.toNat).toInt = z11.toInt := by rw [hz11]
        cases b12 : pj_c1 .lt z10 z11 with
        | true =>
          have ub12 := pj_u_ltT b12
          refine pj_X_of (fun r h => pj_R_icT 99 rfl rfl b12 h) ?_
          refine pj_X_of (fun r h => pj_R_to (G, 102, [(5, .int (v5 + Int32.ofInt 1)), (0, .ref 171), (1, .int th), (2, .int c), (3, .int us), (4, .int my)], [], 0, 0) 102 2 (fun _ => rfl) h) ?_
          obtain ⟨z13, hz13⟩ : ∃ z : Int32, z = v5 + Int32.ofInt 1 := ⟨_, rfl⟩
          rw [← hz13]
          have fz13_0 : z13.toInt = v5.toInt + (Int32.ofInt 1).toInt := by rw [hz13]; exact pj_addI (by have := pj_i32 v5; have := pj_i32 (Int32.ofInt 1); omega) (by have := pj_i32 v5; have := pj_i32 (Int32.ofInt 1); omega)
          refine pj_X_of (fun r h => pj_R_to (G, 33, [(5, .int z13), (0, .ref 171), (1, .int th), (2, .int c), (3, .int us), (4, .int my)], [], 0, 0) 33 2 (fun _ => rfl) h) ?_
          have q14 : (pj_fi G 171 4).toInt = y1.toInt := by rw [show pj_fi G 171 4 = y1 from hy1.symm]
          exact pj_X_sub [(0, .ref 171), (1, .int th), (2, .int c), (3, .int us), (4, .int my), (5, .int z13)] (show List.Nodup [0, 1, 2, 3, 4, 5] by decide) ⟨rfl, rfl, rfl, rfl, rfl, rfl, trivial⟩ (ih G hI hK z13 ⟨by omega, by omega⟩ (by omega) (by omega))
        | false =>
          have ub12 := pj_u_ltF b12
          refine pj_X_of (fun r h => pj_R_icF rfl b12 h) ?_
          refine pj_X_of (fun r h => pj_R_to (G, 68, [(0, .ref 171), (1, .int th), (2, .int c), (3, .int us), (4, .int my), (5, .int v5)], [.ref 171], 0, 0) 68 2 (fun _ => rfl) h) ?_
          refine pj_X_of (fun r h => pj_T_gr hI rfl rfl rfl h) ?_
          refine pj_X_of (fun r h => pj_R_to (G, 75, [(0, .ref 171), (1, .int th), (2, .int c), (3, .int us), (4, .int my), (5, .int v5)], [.int v5, .int my, .ref 191], 0, 0) 75 3 (fun _ => rfl) h) ?_
          refine pj_X_of (fun r h => pj_T_is hI rfl rfl (by omega) (by omega) h) ?_
          show pj_X _ _ (pj_wa G 191 my.toInt.toNat v5) 76 [(0, .ref 171), (1, .int th), (2, .int c), (3, .int us), (4, .int my), (5, .int v5)] [] _
          obtain ⟨G15, hG15⟩ : ∃ H, H = pj_wa G 191 my.toInt.toNat v5 := ⟨_, rfl⟩
          have iG15 : pj_Inv G15 := by rw [hG15]; exact pj_Inv_wa hI rfl (fun q hq => by cases hq) (fun n hn => by cases hn)
          have kG15 : pj_kpt kc_242_1 G0 G15 := by rw [hG15]; exact pj_kpt_a hK rfl
          rw [← hG15]
          refine pj_X_of (fun r h => pj_R_to (G15, 81, [(0, .ref 171), (1, .int th), (2, .int c), (3, .int us), (4, .int my), (5, .int v5)], [.int (c + (Int32.ofInt 1)), .int th, .ref 171], 0, 0) 81 6 (fun _ => rfl) h) ?_
          obtain ⟨z16, hz16⟩ : ∃ z : Int32, z = c + (Int32.ofInt 1) := ⟨_, rfl⟩
          refine pj_X_eqi hz16.symm ?_
          have fz16_0 : z16.toInt = c.toInt + (Int32.ofInt 1).toInt := by rw [hz16]; exact pj_addI (by have := pj_i32 c; have := pj_i32 (Int32.ofInt 1); omega) (by have := pj_i32 c; have := pj_i32 (Int32.ofInt 1); omega)
          refine pj_X_of (fun r h => pj_R_to (G15, 86, [(0, .ref 171), (1, .int th), (2, .int c), (3, .int us), (4, .int my), (5, .int v5)], [.int ((Int32.ofInt 1) <<< (v5 &&& 31)), .int us, .int z16, .int th, .ref 171], 0, 0) 86 5 (fun _ => rfl) h) ?_
          obtain ⟨z17, hz17⟩ : ∃ z : Int32, z = (Int32.ofInt 1) <<< (v5 &&& 31) := ⟨_, rfl⟩
          refine pj_X_eqi hz17.symm ?_
          have fz17_0 : 1 ≤ z17.toInt ∧ z17.toInt ≤ 32 := by rw [hz17]; exact pj_shlI5 (by omega) (by omega)
          refine pj_X_of (fun r h => pj_R_to (G15, 87, [(0, .ref 171), (1, .int th), (2, .int c), (3, .int us), (4, .int my), (5, .int v5)], [.int (us ||| z17), .int z16, .int th, .ref 171], 0, 0) 87 2 (fun _ => rfl) h) ?_
          obtain ⟨z18, hz18⟩ : ∃ z : Int32, z = us ||| z17 := ⟨_, rfl⟩
          refine pj_X_eqi hz18.symm ?_
          refine pj_X_of (fun r h => pj_R_to (G15, 91, [(0, .ref 171), (1, .int th), (2, .int c), (3, .int us), (4, .int my), (5, .int v5)], [.int (my + (Int32.ofInt 1)), .int z18, .int z16, .int th, .ref 171], 0, 0) 91 4 (fun _ => rfl) h) ?_
          obtain ⟨z19, hz19⟩ : ∃ z : Int32, z = my + (Int32.ofInt 1) := ⟨_, rfl⟩
          refine pj_X_eqi hz19.symm ?_
          have fz19_0 : z19.toInt = my.toInt + (Int32.ofInt 1).toInt := by rw [hz19]; exact pj_addI (by have := pj_i32 my; have := pj_i32 (Int32.ofInt 1); omega) (by have := pj_i32 my; have := pj_i32 (Int32.ofInt 1); omega)
          have q20 : (pj_fi G15 171 4).toInt = y1.toInt := by rw [show pj_fi G15 171 4 = y1 from by rw [hG15, pj_fi_wa]; exact hy1.symm]
          refine pj_X_ca (vs := [.ref 171, .int th, .int z16, .int z18, .int z19]) rfl (fun _ => rfl) ⟨Nat.le_of_ble_eq_true rfl, Nat.le_of_ble_eq_true rfl, pj_T_rcv iG15 rfl⟩ ⟨rfl, rfl⟩ (pj_Y_up (by decide) (ct_242_2 G15 iG15 th z16 z18 z19 ⟨by omega, by omega⟩ ⟨by omega, by omega⟩ (by omega))) ?_
          rintro _ G22 ⟨y21, rfl, iG22, jG22, ry21⟩
          have kG22 : pj_kpt kc_242_1 G0 G22 := pj_kpt_t kG15 (pj_kpt_s jG22 rfl)
          have q23 : (pj_fi G22 171 4).toInt = (pj_fi G15 171 4).toInt := by rw [jG22.1 (171, 4) (by decide)]
          obtain ⟨y24, hy24⟩ : ∃ z : Int32, z = pj_fi G22 171 4 := ⟨_, rfl⟩
          have ey24 : (pj_fi G22 171 4).toInt = y24.toInt := by rw [hy24]
          have ry24 : (0 : Int) ≤ y24.toInt ∧ y24.toInt ≤ 10 := by rw [hy24]; exact iG22.2.1 171 4 (0, 10) rfl
          show pj_X _ _ G22 94 [(0, .ref 171), (1, .int th), (2, .int c), (3, .int us), (4, .int my), (5, .int v5)] [.int y21] _
          cases b25 : pj_c1 .eq y21 0 with
          | true =>
            have ub25 := pj_u0_eqT b25
            refine pj_X_of (fun r h => pj_R_ifT 99 rfl rfl b25 h) ?_
            refine pj_X_of (fun r h => pj_R_to (G22, 102, [(5, .int (v5 + Int32.ofInt 1)), (0, .ref 171), (1, .int th), (2, .int c), (3, .int us), (4, .int my)], [], 0, 0) 102 2 (fun _ => rfl) h) ?_
            obtain ⟨z26, hz26⟩ : ∃ z : Int32, z = v5 + Int32.ofInt 1 := ⟨_, rfl⟩
            rw [← hz26]
            have fz26_0 : z26.toInt = v5.toInt + (Int32.ofInt 1).toInt := by rw [hz26]; exact pj_addI (by have := pj_i32 v5; have := pj_i32 (Int32.ofInt 1); omega) (by have := pj_i32 v5; have := pj_i32 (Int32.ofInt 1); omega)
            refine pj_X_of (fun r h => pj_R_to (G22, 33, [(5, .int z26), (0, .ref 171), (1, .int th), (2, .int c), (3, .int us), (4, .int my)], [], 0, 0) 33 2 (fun _ => rfl) h) ?_
            have q27 : (pj_fi G22 171 4).toInt = y24.toInt := by rw [show pj_fi G22 171 4 = y24 from hy24.symm]
            exact pj_X_sub [(0, .ref 171), (1, .int th), (2, .int c), (3, .int us), (4, .int my), (5, .int z26)] (show List.Nodup [0, 1, 2, 3, 4, 5] by decide) ⟨rfl, rfl, rfl, rfl, rfl, rfl, trivial⟩ (ih G22 iG22 kG22 z26 ⟨by omega, by omega⟩ (by omega) (by omega))
          | false =>
            have ub25 := pj_u0_eqF b25
            refine pj_X_of (fun r h => pj_R_ifF rfl b25 h) ?_
            refine pj_X_of (fun r h => pj_R_to (G22, 98, [(0, .ref 171), (1, .int th), (2, .int c), (3, .int us), (4, .int my), (5, .int v5)], [.int (Int32.ofInt 1)], 0, 0) 98 2 (fun _ => rfl) h) ?_
            have q28 : (pj_fi G22 171 4).toInt = y24.toInt := by rw [show pj_fi G22 171 4 = y24 from hy24.symm]
            exact pj_X_rt rfl rfl ⟨_, rfl, iG22, kG22, ⟨by omega, by omega⟩⟩
theorem ct_242_1 (G0 : pj_G) (hI : pj_Inv G0) (th : Int32) (c : Int32) (us : Int32) (my : Int32) (rc : (1 : Int) ≤ c.toInt ∧ c.toInt ≤ 1) (rmy : (0 : Int) ≤ my.toInt ∧ my.toInt ≤ 1) (p0_ : c.toInt ≤ (pj_fi G0 171 4).toInt) : pj_Y 12 242 [.ref 171, .int th, .int c, .int us, .int my] G0 (fun v G' => ∃ y : Int32, v = some (.int y) ∧ pj_Inv G' ∧ pj_kpt kc_242_1 G0 G' ∧ ((0 : Int) ≤ y.toInt ∧ y.toInt ≤ 1)) := by
  have c0_ : (Int32.ofInt 0).toInt = 0 := by decide
  have c1_ : (Int32.ofInt 1).toInt = 1 := by decide
  refine pj_Y_X (M := pj_m242) rfl rfl (Nat.le_of_ble_eq_true rfl) ?_
  have hK : pj_kpt kc_242_1 G0 G0 := pj_kpt_r _ _
  show pj_X _ _ G0 0 [(0, .ref 171), (1, .int th), (2, .int c), (3, .int us), (4, .int my)] [] _
  obtain ⟨y29, hy29⟩ : ∃ z : Int32, z = pj_fi G0 171 4 := ⟨_, rfl⟩
  have ey29 : (pj_fi G0 171 4).toInt = y29.toInt := by rw [hy29]
  have ry29 : (0 : Int) ≤ y29.toInt ∧ y29.toInt ≤ 10 := by rw [hy29]; exact hI.2.1 171 4 (0, 10) rfl
  refine pj_X_of (fun r h => pj_R_to (G0, 2, [(0, .ref 171), (1, .int th), (2, .int c), (3, .int us), (4, .int my)], [.ref 171, .int c], 0, 0) 2 3 (fun _ => rfl) h) ?_
  refine pj_X_of (fun r h => pj_T_gi hI rfl rfl h) ?_
  show pj_X _ _ G0 5 [(0, .ref 171), (1, .int th), (2, .int c), (3, .int us), (4, .int my)] [.int (pj_fi G0 171 4), .int c] _
  refine pj_X_eqi (show pj_fi G0 171 4 = y29 from hy29.symm) ?_
  cases b30 : pj_c1 .ne c y29 with
  | true =>
    have ub30 := pj_u_neT b30
    refine pj_X_of (fun r h => pj_R_icT 10 rfl rfl b30 h) ?_
    refine pj_X_of (fun r h => pj_R_to (G0, 12, [(0, .ref 171), (1, .int th), (2, .int c), (3, .int us), (4, .int my)], [.int c, .int th], 0, 0) 12 3 (fun _ => rfl) h) ?_
    have q31 : (pj_fi G0 171 4).toInt = y29.toInt := by rw [show pj_fi G0 171 4 = y29 from hy29.symm]
    refine pj_X_ca (vs := [.int th, .int c]) rfl (fun _ => rfl) ⟨Nat.le_of_ble_eq_true rfl, Nat.le_of_ble_eq_true rfl, rfl⟩ ⟨rfl, rfl⟩ (pj_Y_up (by decide) (ct_171bx G0 hI th c)) ?_
    rintro _ _ ⟨y32, rfl, rfl, ry32, ey32, fy32⟩
    show pj_X _ _ G0 15 [(0, .ref 171), (1, .int th), (2, .int c), (3, .int us), (4, .int my)] [.int y32] _
    cases b33 : pj_c1 .ne y32 0 with
    | true =>
      have ub33 := pj_u0_neT b33
      refine pj_X_of (fun r h => pj_R_ifT 30 rfl rfl b33 h) ?_
      refine pj_X_of (fun r h => pj_R_to (G0, 33, [(5, .int (Int32.ofInt 0)), (0, .ref 171), (1, .int th), (2, .int c), (3, .int us), (4, .int my)], [], 0, 0) 33 3 (fun _ => rfl) h) ?_
      have q34 : (pj_fi G0 171 4).toInt = y29.toInt := by rw [show pj_fi G0 171 4 = y29 from hy29.symm]
      exact pj_X_sub [(0, .ref 171), (1, .int th), (2, .int c), (3, .int us), (4, .int my), (5, .int (Int32.ofInt 0))] (show List.Nodup [0, 1, 2, 3, 4, 5] by decide) ⟨rfl, rfl, rfl, rfl, rfl, rfl, trivial⟩ ((lp_ct_242_1 G0 hI th c us my rc rmy p0_ 7) G0 hI hK (Int32.ofInt 0) ⟨by omega, by omega⟩ (by omega) (by omega))
    | false =>
      have ub33 := pj_u0_neF b33
      refine pj_X_of (fun r h => pj_R_ifF rfl b33 h) ?_
      refine pj_X_of (fun r h => pj_R_to (G0, 23, [(0, .ref 171), (1, .int th), (2, .int c), (3, .int us), (4, .int my)], [.int (c + (Int32.ofInt 1)), .int th, .ref 171], 0, 0) 23 6 (fun _ => rfl) h) ?_
      obtain ⟨z35, hz35⟩ : ∃ z : Int32, z = c + (Int32.ofInt 1) := ⟨_, rfl⟩
      refine pj_X_eqi hz35.symm ?_
      have fz35_0 : z35.toInt = c.toInt + (Int32.ofInt 1).toInt := by rw [hz35]; exact pj_addI (by have := pj_i32 c; have := pj_i32 (Int32.ofInt 1); omega) (by have := pj_i32 c; have := pj_i32 (Int32.ofInt 1); omega)
      refine pj_X_of (fun r h => pj_R_to (G0, 26, [(0, .ref 171), (1, .int th), (2, .int c), (3, .int us), (4, .int my)], [.int my, .int us, .int z35, .int th, .ref 171], 0, 0) 26 3 (fun _ => rfl) h) ?_
      have q36 : (pj_fi G0 171 4).toInt = y29.toInt := by rw [show pj_fi G0 171 4 = y29 from hy29.symm]
      refine pj_X_ca (vs := [.ref 171, .int th, .int z35, .int us, .int my]) rfl (fun _ => rfl) ⟨Nat.le_of_ble_eq_true rfl, Nat.le_of_ble_eq_true rfl, pj_T_rcv hI rfl⟩ ⟨rfl, rfl⟩ (pj_Y_up (by decide) (ct_242_2 G0 hI th z35 us my ⟨by omega, by omega⟩ ⟨by omega, by omega⟩ (by omega))) ?_
      rintro _ G38 ⟨y37, rfl, iG38, jG38, ry37⟩
      have kG38 : pj_kpt kc_242_1 G0 G38 := pj_kpt_t hK (pj_kpt_s jG38 rfl)
      have q39 : (pj_fi G38 171 4).toInt = (pj_fi G0 171 4).toInt := by rw [jG38.1 (171, 4) (by decide)]
      obtain ⟨y40, hy40⟩ : ∃ z : Int32, z = pj_fi G38 171 4 := ⟨_, rfl⟩
      have ey40 : (pj_fi G38 171 4).toInt = y40.toInt := by rw [hy40]
      have ry40 : (0 : Int) ≤ y40.toInt ∧ y40.toInt ≤ 10 := by rw [hy40]; exact iG38.2.1 171 4 (0, 10) rfl
      show pj_X _ _ G38 29 [(0, .ref 171), (1, .int th), (2, .int c), (3, .int us), (4, .int my)] [.int y37] _
      have q41 : (pj_fi G38 171 4).toInt = y40.toInt := by rw [show pj_fi G38 171 4 = y40 from hy40.symm]
      exact pj_X_rt (v := some (.int y37)) rfl (pj_rtb ⟨by omega, by omega⟩) ⟨_, rfl, iG38, kG38, ⟨by omega, by omega⟩⟩
  | false =>
    have ub30 := pj_u_neF b30
    refine pj_X_of (fun r h => pj_R_icF rfl b30 h) ?_
    refine pj_X_of (fun r h => pj_R_to (G0, 9, [(0, .ref 171), (1, .int th), (2, .int c), (3, .int us), (4, .int my)], [.int (Int32.ofInt 1)], 0, 0) 9 2 (fun _ => rfl) h) ?_
    have q42 : (pj_fi G0 171 4).toInt = y29.toInt := by rw [show pj_fi G0 171 4 = y29 from hy29.symm]
    exact pj_X_rt rfl rfl ⟨_, rfl, hI, hK, ⟨by omega, by omega⟩⟩
def kc_242_0 : pj_KT := ([], [191], [191])
theorem lp_ct_242_0 (G0 : pj_G) (hI0 : pj_Inv G0) (th : Int32) (c : Int32) (us : Int32) (my : Int32) (rc : (0 : Int) ≤ c.toInt ∧ c.toInt ≤ 0) (rmy : (0 : Int) ≤ my.toInt ∧ my.toInt ≤ 0) (p0_ : c.toInt ≤ (pj_fi G0 171 4).toInt) : ∀ mn : Nat, (∀ (G : pj_G) (hI : pj_Inv G) (hK : pj_kpt kc_242_0 G0 G) (v5 : Int32), ((0 : Int) ≤ v5.toInt ∧ v5.toInt ≤ 6) → (c.toInt < (pj_fi G 171 4).toInt) → 6 - v5.toInt < (mn : Int) → pj_X 12 pj_m242 G 33 [(0, .ref 171), (1, .int th), (2, .int c), (3, .int us), (4, .int my), (5, .int v5)] [] (fun v G' => ∃ y : Int32, v = some (.int y) ∧ pj_Inv G' ∧ pj_kpt kc_242_0 G0 G' ∧ ((0 : Int) ≤ y.toInt ∧ y.toInt ≤ 1))) := by
  have c0_ : (Int32.ofInt 0).toInt = 0 := by decide
  have c1_ : (Int32.ofInt 1).toInt = 1 := by decide
  intro mn
  induction mn with
  | zero =>
    intro G hI hK v5 rv5 x0_ hm
    exfalso
    omega
  | succ mn ih =>
    intro G hI hK v5 rv5 x0_ hm
    obtain ⟨y1, hy1⟩ : ∃ z : Int32, z = pj_fi G 171 4 := ⟨_, rfl⟩
    have ey1 : (pj_fi G 171 4).toInt = y1.toInt := by rw [hy1]
    have ry1 : (0 : Int) ≤ y1.toInt ∧ y1.toInt ≤ 10 := by rw [hy1]; exact hI.2.1 171 4 (0, 10) rfl
    refine pj_X_of (fun r h => pj_R_to (G, 36, [(0, .ref 171), (1, .int th), (2, .int c), (3, .int us), (4, .int my), (5, .int v5)], [.ref 171, .int v5], 0, 0) 36 3 (fun _ => rfl) h) ?_
    refine pj_X_of (fun r h => pj_T_gi hI rfl rfl h) ?_
    show pj_X _ _ G 39 [(0, .ref 171), (1, .int th), (2, .int c), (3, .int us), (4, .int my), (5, .int v5)] [.int (pj_fi G 171 5), .int v5] _
    obtain ⟨y2, hy2⟩ : ∃ z : Int32, z = pj_fi G 171 5 := ⟨_, rfl⟩
    refine pj_X_eqi hy2.symm ?_
    have ey2 : (pj_fi G 171 5).toInt = y2.toInt := by rw [hy2]
    have ry2 : (0 : Int) ≤ y2.toInt ∧ y2.toInt ≤ 6 := by rw [hy2]; exact hI.2.1 171 5 (0, 6) rfl
    cases b3 : pj_c1 .ge v5 y2 with
    | true =>
      have ub3 := pj_u_geT b3
      refine pj_X_of (fun r h => pj_R_icT 105 rfl rfl b3 h) ?_
      refine pj_X_of (fun r h => pj_R_to (G, 106, [(0, .ref 171), (1, .int th), (2, .int c), (3, .int us), (4, .int my), (5, .int v5)], [.int (Int32.ofInt 0)], 0, 0) 106 2 (fun _ => rfl) h) ?_
      have q4 : (pj_fi G 171 4).toInt = y1.toInt := by rw [show pj_fi G 171 4 = y1 from hy1.symm]
      exact pj_X_rt rfl rfl ⟨_, rfl, hI, hK, ⟨by omega, by omega⟩⟩
    | false =>
      have ub3 := pj_u_geF b3
      refine pj_X_of (fun r h => pj_R_icF rfl b3 h) ?_
      refine pj_X_of (fun r h => pj_R_to (G, 45, [(0, .ref 171), (1, .int th), (2, .int c), (3, .int us), (4, .int my), (5, .int v5)], [.int v5, .int us], 0, 0) 45 3 (fun _ => rfl) h) ?_
      have q5 : (pj_fi G 171 4).toInt = y1.toInt := by rw [show pj_fi G 171 4 = y1 from hy1.symm]
      refine pj_X_ca (vs := [.int us, .int v5]) rfl (fun _ => rfl) ⟨Nat.le_of_ble_eq_true rfl, Nat.le_of_ble_eq_true rfl, rfl⟩ ⟨rfl, rfl⟩ (pj_Y_up (by decide) (ct_171bx G hI us v5)) ?_
      rintro _ _ ⟨y6, rfl, rfl, ry6, ey6, fy6⟩
      show pj_X _ _ G 48 [(0, .ref 171), (1, .int th), (2, .int c), (3, .int us), (4, .int my), (5, .int v5)] [.int y6] _
      cases b7 : pj_c1 .ne y6 0 with
      | true =>
        have ub7 := pj_u0_neT b7
        refine pj_X_of (fun r h => pj_R_ifT 99 rfl rfl b7 h) ?_
        refine pj_X_of (fun r h => pj_R_to (G, 102, [(5, .int (v5 + Int32.ofInt 1)), (0, .ref 171), (1, .int th), (2, .int c), (3, .int us), (4, .int my)], [], 0, 0) 102 2 (fun _ => rfl) h) ?_
        obtain ⟨z8, hz8⟩ : ∃ z : Int32, z = v5 + Int32.ofInt 1 := ⟨_, rfl⟩
        rw [← hz8]
        have fz8_0 : z8.toInt = v5.toInt + (Int32.ofInt 1).toInt := by rw [hz8]; exact pj_addI (by have := pj_i32 v5; have := pj_i32 (Int32.ofInt 1); omega) (by have := pj_i32 v5; have := pj_i32 (Int32.ofInt 1); omega)
        refine pj_X_of (fun r h => pj_R_to (G, 33, [(5, .int z8), (0, .ref 171), (1, .int th), (2, .int c), (3, .int us), (4, .int my)], [], 0, 0) 33 2 (fun _ => rfl) h) ?_
        have q9 : (pj_fi G 171 4).toInt = y1.toInt := by rw [show pj_fi G 171 4 = y1 from hy1.symm]
        exact pj_X_sub [(0, .ref 171), (1, .int th), (2, .int c), (3, .int us), (4, .int my), (5, .int z8)] (show List.Nodup [0, 1, 2, 3, 4, 5] by decide) ⟨rfl, rfl, rfl, rfl, rfl, rfl, trivial⟩ (ih G hI hK z8 ⟨by omega, by omega⟩ (by omega) (by omega))
      | false =>
        have ub7 := pj_u0_neF b7
        refine pj_X_of (fun r h => pj_R_ifF rfl b7 h) ?_
        refine pj_X_of (fun r h => pj_R_to (G, 52, [(0, .ref 171), (1, .int th), (2, .int c), (3, .int us), (4, .int my), (5, .int v5)], [.ref 171], 0, 0) 52 2 (fun _ => rfl) h) ?_
        refine pj_X_of (fun r h => pj_T_gr hI rfl rfl rfl h) ?_
        refine pj_X_of (fun r h => pj_R_to (G, 57, [(0, .ref 171), (1, .int th), (2, .int c), (3, .int us), (4, .int my), (5, .int v5)], [.int v5, .ref 177], 0, 0) 57 2 (fun _ => rfl) h) ?_
        refine pj_X_of (fun r h => pj_T_il hI rfl rfl (by omega) (by omega) h) ?_
        show pj_X _ _ G 58 [(0, .ref 171), (1, .int th), (2, .int c), (3, .int us), (4, .int my), (5, .int v5)] [.int (pj_ai G 177 v5.toInt.toNat)] _
        obtain ⟨z10, hz10⟩ : ∃ z : Int32, z = pj_ai G 177 v5.toInt.toNat := ⟨_, rfl⟩
        refine pj_X_eqi hz10.symm ?_
        have ez10 : (pj_ai G 177 v5.toInt.toNat).toInt = z10.toInt := by rw [hz10]
        refine pj_X_of (fun r h => pj_R_to (G, 59, [(0, .ref 171), (1, .int th), (2, .int c), (3, .int us), (4, .int my), (5, .int v5)], [.ref 171, .int z10], 0, 0) 59 2 (fun _ => rfl) h) ?_
        refine pj_X_of (fun r h => pj_T_gr hI rfl rfl rfl h) ?_
        refine pj_X_of (fun r h => pj_R_to (G, 63, [(0, .ref 171), (1, .int th), (2, .int c), (3, .int us), (4, .int my), (5, .int v5)], [.int c, .ref 176, .int z10], 0, 0) 63 2 (fun _ => rfl) h) ?_
        refine pj_X_of (fun r h => pj_T_il hI rfl rfl (by omega) (by omega) h) ?_
        show pj_X _ _ G 64 [(0, .ref 171), (1, .int th), (2, .int c), (3, .int us), (4, .int my), (5, .int v5)] [.int (pj_ai G 176 c.toInt.toNat), .int z10] _
        obtain ⟨z11, hz11⟩ : ∃ z : Int32, z = pj_ai G 176 c.toInt.toNat := ⟨_, rfl⟩
        refine pj_X_eqi hz11.symm ?_
        have ez11 : (pj_ai G 176 c.toInt.toNat).toInt = z11.toInt := by rw [hz11]
        cases b12 : pj_c1 .lt z10 z11 with
        | true =>
          have ub12 := pj_u_ltT b12
          refine pj_X_of (fun r h => pj_R_icT 99 rfl rfl b12 h) ?_
          refine pj_X_of (fun r h => pj_R_to (G, 102, [(5, .int (v5 + Int32.ofInt 1)), (0, .ref 171), (1, .int th), (2, .int c), (3, .int us), (4, .int my)], [], 0, 0) 102 2 (fun _ => rfl) h) ?_
          obtain ⟨z13, hz13⟩ : ∃ z : Int32, z = v5 + Int32.ofInt 1 := ⟨_, rfl⟩
          rw [← hz13]
          have fz13_0 : z13.toInt = v5.toInt + (Int32.ofInt 1).toInt := by rw [hz13]; exact pj_addI (by have := pj_i32 v5; have := pj_i32 (Int32.ofInt 1); omega) (by have := pj_i32 v5; have := pj_i32 (Int32.ofInt 1); omega)
          refine pj_X_of (fun r h => pj_R_to (G, 33, [(5, .int z13), (0, .ref 171), (1, .int th), (2, .int c), (3, .int us), (4, .int my)], [], 0, 0) 33 2 (fun _ => rfl) h) ?_
          have q14 : (pj_fi G 171 4).toInt = y1.toInt := by rw [show pj_fi G 171 4 = y1 from hy1.symm]
          exact pj_X_sub [(0, .ref 171), (1, .int th), (2, .int c), (3, .int us), (4, .int my), (5, .int z13)] (show List.Nodup [0, 1, 2, 3, 4, 5] by decide) ⟨rfl, rfl, rfl, rfl, rfl, rfl, trivial⟩ (ih G hI hK z13 ⟨by omega, by omega⟩ (by omega) (by omega))
        | false =>
          have ub12 := pj_u_ltF b12
          refine pj_X_of (fun r h => pj_R_icF rfl b12 h) ?_
          refine pj_X_of (fun r h => pj_R_to (G, 68, [(0, .ref 171), (1, .int th), (2, .int c), (3, .int us), (4, .int my), (5, .int v5)], [.ref 171], 0, 0) 68 2 (fun _ => rfl) h) ?_
          refine pj_X_of (fun r h => pj_T_gr hI rfl rfl rfl h) ?_
          refine pj_X_of (fun r h => pj_R_to (G, 75, [(0, .ref 171), (1, .int th), (2, .int c), (3, .int us), (4, .int my), (5, .int v5)], [.int v5, .int my, .ref 191], 0, 0) 75 3 (fun _ => rfl) h) ?_
          refine pj_X_of (fun r h => pj_T_is hI rfl rfl (by omega) (by omega) h) ?_
          show pj_X _ _ (pj_wa G 191 my.toInt.toNat v5) 76 [(0, .ref 171), (1, .int th), (2, .int c), (3, .int us), (4, .int my), (5, .int v5)] [] _
          obtain ⟨G15, hG15⟩ : ∃ H, H = pj_wa G 191 my.toInt.toNat v5 := ⟨_, rfl⟩
          have iG15 : pj_Inv G15 := by rw [hG15]; exact pj_Inv_wa hI rfl (fun q hq => by cases hq) (fun n hn => by cases hn)
          have kG15 : pj_kpt kc_242_0 G0 G15 := by rw [hG15]; exact pj_kpt_a hK rfl
          rw [← hG15]
          refine pj_X_of (fun r h => pj_R_to (G15, 81, [(0, .ref 171), (1, .int th), (2, .int c), (3, .int us), (4, .int my), (5, .int v5)], [.int (c + (Int32.ofInt 1)), .int th, .ref 171], 0, 0) 81 6 (fun _ => rfl) h) ?_
          obtain ⟨z16, hz16⟩ : ∃ z : Int32, z = c + (Int32.ofInt 1) := ⟨_, rfl⟩
          refine pj_X_eqi hz16.symm ?_
          have fz16_0 : z16.toInt = c.toInt + (Int32.ofInt 1).toInt := by rw [hz16]; exact pj_addI (by have := pj_i32 c; have := pj_i32 (Int32.ofInt 1); omega) (by have := pj_i32 c; have := pj_i32 (Int32.ofInt 1); omega)
          refine pj_X_of (fun r h => pj_R_to (G15, 86, [(0, .ref 171), (1, .int th), (2, .int c), (3, .int us), (4, .int my), (5, .int v5)], [.int ((Int32.ofInt 1) <<< (v5 &&& 31)), .int us, .int z16, .int th, .ref 171], 0, 0) 86 5 (fun _ => rfl) h) ?_
          obtain ⟨z17, hz17⟩ : ∃ z : Int32, z = (Int32.ofInt 1) <<< (v5 &&& 31) := ⟨_, rfl⟩
          refine pj_X_eqi hz17.symm ?_
          have fz17_0 : 1 ≤ z17.toInt ∧ z17.toInt ≤ 32 := by rw [hz17]; exact pj_shlI5 (by omega) (by omega)
          refine pj_X_of (fun r h => pj_R_to (G15, 87, [(0, .ref 171), (1, .int th), (2, .int c), (3, .int us), (4, .int my), (5, .int v5)], [.int (us ||| z17), .int z16, .int th, .ref 171], 0, 0) 87 2 (fun _ => rfl) h) ?_
          obtain ⟨z18, hz18⟩ : ∃ z : Int32, z = us ||| z17 := ⟨_, rfl⟩
          refine pj_X_eqi hz18.symm ?_
          refine pj_X_of (fun r h => pj_R_to (G15, 91, [(0, .ref 171), (1, .int th), (2, .int c), (3, .int us), (4, .int my), (5, .int v5)], [.int (my + (Int32.ofInt 1)), .int z18, .int z16, .int th, .ref 171], 0, 0) 91 4 (fun _ => rfl) h) ?_
          obtain ⟨z19, hz19⟩ : ∃ z : Int32, z = my + (Int32.ofInt 1) := ⟨_, rfl⟩
          refine pj_X_eqi hz19.symm ?_
          have fz19_0 : z19.toInt = my.toInt + (Int32.ofInt 1).toInt := by rw [hz19]; exact pj_addI (by have := pj_i32 my; have := pj_i32 (Int32.ofInt 1); omega) (by have := pj_i32 my; have := pj_i32 (Int32.ofInt 1); omega)
          have q20 : (pj_fi G15 171 4).toInt = y1.toInt := by rw [show pj_fi G15 171 4 = y1 from by rw [hG15, pj_fi_wa]; exact hy1.symm]
          refine pj_X_ca (vs := [.ref 171, .int th, .int z16, .int z18, .int z19]) rfl (fun _ => rfl) ⟨Nat.le_of_ble_eq_true rfl, Nat.le_of_ble_eq_true rfl, pj_T_rcv iG15 rfl⟩ ⟨rfl, rfl⟩ (pj_Y_up (by decide) (ct_242_1 G15 iG15 th z16 z18 z19 ⟨by omega, by omega⟩ ⟨by omega, by omega⟩ (by omega))) ?_
          rintro _ G22 ⟨y21, rfl, iG22, jG22, ry21⟩
          have kG22 : pj_kpt kc_242_0 G0 G22 := pj_kpt_t kG15 (pj_kpt_s jG22 rfl)
          have q23 : (pj_fi G22 171 4).toInt = (pj_fi G15 171 4).toInt := by rw [jG22.1 (171, 4) (by decide)]
          obtain ⟨y24, hy24⟩ : ∃ z : Int32, z = pj_fi G22 171 4 := ⟨_, rfl⟩
          have ey24 : (pj_fi G22 171 4).toInt = y24.toInt := by rw [hy24]
          have ry24 : (0 : Int) ≤ y24.toInt ∧ y24.toInt ≤ 10 := by rw [hy24]; exact iG22.2.1 171 4 (0, 10) rfl
          show pj_X _ _ G22 94 [(0, .ref 171), (1, .int th), (2, .int c), (3, .int us), (4, .int my), (5, .int v5)] [.int y21] _
          cases b25 : pj_c1 .eq y21 0 with
          | true =>
            have ub25 := pj_u0_eqT b25
            refine pj_X_of (fun r h => pj_R_ifT 99 rfl rfl b25 h) ?_
            refine pj_X_of (fun r h => pj_R_to (G22, 102, [(5, .int (v5 + Int32.ofInt 1)), (0, .ref 171), (1, .int th), (2, .int c), (3, .int us), (4, .int my)], [], 0, 0) 102 2 (fun _ => rfl) h) ?_
            obtain ⟨z26, hz26⟩ : ∃ z : Int32, z = v5 + Int32.ofInt 1 := ⟨_, rfl⟩
            rw [← hz26]
            have fz26_0 : z26.toInt = v5.toInt + (Int32.ofInt 1).toInt := by rw [hz26]; exact pj_addI (by have := pj_i32 v5; have := pj_i32 (Int32.ofInt 1); omega) (by have := pj_i32 v5; have := pj_i32 (Int32.ofInt 1); omega)
            refine pj_X_of (fun r h => pj_R_to (G22, 33, [(5, .int z26), (0, .ref 171), (1, .int th), (2, .int c), (3, .int us), (4, .int my)], [], 0, 0) 33 2 (fun _ => rfl) h) ?_
            have q27 : (pj_fi G22 171 4).toInt = y24.toInt := by rw [show pj_fi G22 171 4 = y24 from hy24.symm]
            exact pj_X_sub [(0, .ref 171), (1, .int th), (2, .int c), (3, .int us), (4, .int my), (5, .int z26)] (show List.Nodup [0, 1, 2, 3, 4, 5] by decide) ⟨rfl, rfl, rfl, rfl, rfl, rfl, trivial⟩ (ih G22 iG22 kG22 z26 ⟨by omega, by omega⟩ (by omega) (by omega))
          | false =>
            have ub25 := pj_u0_eqF b25
            refine pj_X_of (fun r h => pj_R_ifF rfl b25 h) ?_
            refine pj_X_of (fun r h => pj_R_to (G22, 98, [(0, .ref 171), (1, .int th), (2, .int c), (3, .int us), (4, .int my), (5, .int v5)], [.int (Int32.ofInt 1)], 0, 0) 98 2 (fun _ => rfl) h) ?_
            have q28 : (pj_fi G22 171 4).toInt = y24.toInt := by rw [show pj_fi G22 171 4 = y24 from hy24.symm]
            exact pj_X_rt rfl rfl ⟨_, rfl, iG22, kG22, ⟨by omega, by omega⟩⟩
theorem ct_242_0 (G0 : pj_G) (hI : pj_Inv G0) (th : Int32) (c : Int32) (us : Int32) (my : Int32) (rc : (0 : Int) ≤ c.toInt ∧ c.toInt ≤ 0) (rmy : (0 : Int) ≤ my.toInt ∧ my.toInt ≤ 0) (p0_ : c.toInt ≤ (pj_fi G0 171 4).toInt) : pj_Y 13 242 [.ref 171, .int th, .int c, .int us, .int my] G0 (fun v G' => ∃ y : Int32, v = some (.int y) ∧ pj_Inv G' ∧ pj_kpt kc_242_0 G0 G' ∧ ((0 : Int) ≤ y.toInt ∧ y.toInt ≤ 1)) := by
  have c0_ : (Int32.ofInt 0).toInt = 0 := by decide
  have c1_ : (Int32.ofInt 1).toInt = 1 := by decide
  refine pj_Y_X (M := pj_m242) rfl rfl (Nat.le_of_ble_eq_true rfl) ?_
  have hK : pj_kpt kc_242_0 G0 G0 := pj_kpt_r _ _
  show pj_X _ _ G0 0 [(0, .ref 171), (1, .int th), (2, .int c), (3, .int us), (4, .int my)] [] _
  obtain ⟨y29, hy29⟩ : ∃ z : Int32, z = pj_fi G0 171 4 := ⟨_, rfl⟩
  have ey29 : (pj_fi G0 171 4).toInt = y29.toInt := by rw [hy29]
  have ry29 : (0 : Int) ≤ y29.toInt ∧ y29.toInt ≤ 10 := by rw [hy29]; exact hI.2.1 171 4 (0, 10) rfl
  refine pj_X_of (fun r h => pj_R_to (G0, 2, [(0, .ref 171), (1, .int th), (2, .int c), (3, .int us), (4, .int my)], [.ref 171, .int c], 0, 0) 2 3 (fun _ => rfl) h) ?_
  refine pj_X_of (fun r h => pj_T_gi hI rfl rfl h) ?_
  show pj_X _ _ G0 5 [(0, .ref 171), (1, .int th), (2, .int c), (3, .int us), (4, .int my)] [.int (pj_fi G0 171 4), .int c] _
  refine pj_X_eqi (show pj_fi G0 171 4 = y29 from hy29.symm) ?_
  cases b30 : pj_c1 .ne c y29 with
  | true =>
    have ub30 := pj_u_neT b30
    refine pj_X_of (fun r h => pj_R_icT 10 rfl rfl b30 h) ?_
    refine pj_X_of (fun r h => pj_R_to (G0, 12, [(0, .ref 171), (1, .int th), (2, .int c), (3, .int us), (4, .int my)], [.int c, .int th], 0, 0) 12 3 (fun _ => rfl) h) ?_
    have q31 : (pj_fi G0 171 4).toInt = y29.toInt := by rw [show pj_fi G0 171 4 = y29 from hy29.symm]
    refine pj_X_ca (vs := [.int th, .int c]) rfl (fun _ => rfl) ⟨Nat.le_of_ble_eq_true rfl, Nat.le_of_ble_eq_true rfl, rfl⟩ ⟨rfl, rfl⟩ (pj_Y_up (by decide) (ct_171bx G0 hI th c)) ?_
    rintro _ _ ⟨y32, rfl, rfl, ry32, ey32, fy32⟩
    show pj_X _ _ G0 15 [(0, .ref 171), (1, .int th), (2, .int c), (3, .int us), (4, .int my)] [.int y32] _
    cases b33 : pj_c1 .ne y32 0 with
    | true =>
      have ub33 := pj_u0_neT b33
      refine pj_X_of (fun r h => pj_R_ifT 30 rfl rfl b33 h) ?_
      refine pj_X_of (fun r h => pj_R_to (G0, 33, [(5, .int (Int32.ofInt 0)), (0, .ref 171), (1, .int th), (2, .int c), (3, .int us), (4, .int my)], [], 0, 0) 33 3 (fun _ => rfl) h) ?_
      have q34 : (pj_fi G0 171 4).toInt = y29.toInt := by rw [show pj_fi G0 171 4 = y29 from hy29.symm]
      exact pj_X_sub [(0, .ref 171), (1, .int th), (2, .int c), (3, .int us), (4, .int my), (5, .int (Int32.ofInt 0))] (show List.Nodup [0, 1, 2, 3, 4, 5] by decide) ⟨rfl, rfl, rfl, rfl, rfl, rfl, trivial⟩ ((lp_ct_242_0 G0 hI th c us my rc rmy p0_ 7) G0 hI hK (Int32.ofInt 0) ⟨by omega, by omega⟩ (by omega) (by omega))
    | false =>
      have ub33 := pj_u0_neF b33
      refine pj_X_of (fun r h => pj_R_ifF rfl b33 h) ?_
      refine pj_X_of (fun r h => pj_R_to (G0, 23, [(0, .ref 171), (1, .int th), (2, .int c), (3, .int us), (4, .int my)], [.int (c + (Int32.ofInt 1)), .int th, .ref 171], 0, 0) 23 6 (fun _ => rfl) h) ?_
      obtain ⟨z35, hz35⟩ : ∃ z : Int32, z = c + (Int32.ofInt 1) := ⟨_, rfl⟩
      refine pj_X_eqi hz35.symm ?_
      have fz35_0 : z35.toInt = c.toInt + (Int32.ofInt 1).toInt := by rw [hz35]; exact pj_addI (by have := pj_i32 c; have := pj_i32 (Int32.ofInt 1); omega) (by have := pj_i32 c; have := pj_i32 (Int32.ofInt 1); omega)
      refine pj_X_of (fun r h => pj_R_to (G0, 26, [(0, .ref 171), (1, .int th), (2, .int c), (3, .int us), (4, .int my)], [.int my, .int us, .int z35, .int th, .ref 171], 0, 0) 26 3 (fun _ => rfl) h) ?_
      have q36 : (pj_fi G0 171 4).toInt = y29.toInt := by rw [show pj_fi G0 171 4 = y29 from hy29.symm]
      refine pj_X_ca (vs := [.ref 171, .int th, .int z35, .int us, .int my]) rfl (fun _ => rfl) ⟨Nat.le_of_ble_eq_true rfl, Nat.le_of_ble_eq_true rfl, pj_T_rcv hI rfl⟩ ⟨rfl, rfl⟩ (pj_Y_up (by decide) (ct_242_1 G0 hI th z35 us my ⟨by omega, by omega⟩ ⟨by omega, by omega⟩ (by omega))) ?_
      rintro _ G38 ⟨y37, rfl, iG38, jG38, ry37⟩
      have kG38 : pj_kpt kc_242_0 G0 G38 := pj_kpt_t hK (pj_kpt_s jG38 rfl)
      have q39 : (pj_fi G38 171 4).toInt = (pj_fi G0 171 4).toInt := by rw [jG38.1 (171, 4) (by decide)]
      obtain ⟨y40, hy40⟩ : ∃ z : Int32, z = pj_fi G38 171 4 := ⟨_, rfl⟩
      have ey40 : (pj_fi G38 171 4).toInt = y40.toInt := by rw [hy40]
      have ry40 : (0 : Int) ≤ y40.toInt ∧ y40.toInt ≤ 10 := by rw [hy40]; exact iG38.2.1 171 4 (0, 10) rfl
      show pj_X _ _ G38 29 [(0, .ref 171), (1, .int th), (2, .int c), (3, .int us), (4, .int my)] [.int y37] _
      have q41 : (pj_fi G38 171 4).toInt = y40.toInt := by rw [show pj_fi G38 171 4 = y40 from hy40.symm]
      exact pj_X_rt (v := some (.int y37)) rfl (pj_rtb ⟨by omega, by omega⟩) ⟨_, rfl, iG38, kG38, ⟨by omega, by omega⟩⟩
  | false =>
    have ub30 := pj_u_neF b30
    refine pj_X_of (fun r h => pj_R_icF rfl b30 h) ?_
    refine pj_X_of (fun r h => pj_R_to (G0, 9, [(0, .ref 171), (1, .int th), (2, .int c), (3, .int us), (4, .int my)], [.int (Int32.ofInt 1)], 0, 0) 9 2 (fun _ => rfl) h) ?_
    have q42 : (pj_fi G0 171 4).toInt = y29.toInt := by rw [show pj_fi G0 171 4 = y29 from hy29.symm]
    exact pj_X_rt rfl rfl ⟨_, rfl, hI, hK, ⟨by omega, by omega⟩⟩
theorem lp_ct_243 (G0 : pj_G) (hI : pj_Inv G0) (th : Int32) : ∀ mn : Nat, (∀ (v2 : Int32) (v3 : Int32), ((0 : Int) ≤ v2.toInt ∧ v2.toInt ≤ 1) → ((1 : Int) ≤ v3.toInt ∧ v3.toInt ≤ 10) → 60 * (10 - v3.toInt) < (mn : Int) → pj_X 1 pj_m243 G0 4 [(0, .ref 171), (1, .int th), (2, .int v2), (3, .int v3)] [] (fun v G' => ∃ y : Int32, v = some (.int y) ∧ G0 = G' ∧ ((0 : Int) ≤ y.toInt ∧ y.toInt ≤ 1))) ∧ (∀ (v2 : Int32) (v3 : Int32) (v4 : Int32) (v5 : Int32) (v6 : Int32), ((0 : Int) ≤ v2.toInt ∧ v2.toInt ≤ 1) → ((1 : Int) ≤ v3.toInt ∧ v3.toInt ≤ 9) → ((-2147483648 : Int) ≤ v4.toInt ∧ v4.toInt ≤ 2147483647) → ((-2147483648 : Int) ≤ v5.toInt ∧ v5.toInt ≤ 2147483647) → ((0 : Int) ≤ v6.toInt ∧ v6.toInt ≤ 10) → 60 * (10 - v3.toInt) - 1 - v6.toInt < (mn : Int) → pj_X 1 pj_m243 G0 19 [(0, .ref 171), (1, .int th), (2, .int v2), (3, .int v3), (4, .int v4), (5, .int v5), (6, .int v6)] [] (fun v G' => ∃ y : Int32, v = some (.int y) ∧ G0 = G' ∧ ((0 : Int) ≤ y.toInt ∧ y.toInt ≤ 1))) ∧ (∀ (v2 : Int32) (v3 : Int32) (v4 : Int32) (v5 : Int32) (v6 : Int32), ((0 : Int) ≤ v2.toInt ∧ v2.toInt ≤ 1) → ((1 : Int) ≤ v3.toInt ∧ v3.toInt ≤ 9) → ((-2147483648 : Int) ≤ v4.toInt ∧ v4.toInt ≤ 2147483647) → ((-2147483648 : Int) ≤ v5.toInt ∧ v5.toInt ≤ 2147483647) → ((0 : Int) ≤ v6.toInt ∧ v6.toInt ≤ 6) → 60 * (10 - v3.toInt) - 20 - v6.toInt < (mn : Int) → pj_X 1 pj_m243 G0 70 [(0, .ref 171), (1, .int th), (2, .int v2), (3, .int v3), (4, .int v4), (5, .int v5), (6, .int v6)] [] (fun v G' => ∃ y : Int32, v = some (.int y) ∧ G0 = G' ∧ ((0 : Int) ≤ y.toInt ∧ y.toInt ≤ 1))) := by
  have c0_ : ((Int8.ofInt 9).toInt32).toInt = 9 := by decide
  have c1_ : (Int32.ofInt 0).toInt = 0 := by decide
  have c2_ : (Int32.ofInt 1).toInt = 1 := by decide
  have hK : pj_kpt ([], [], []) G0 G0 := pj_kpt_r _ _
  intro mn
  induction mn with
  | zero =>
    refine ⟨?_, ?_, ?_⟩
    · intro v2 v3 rv2 rv3 hm
      exfalso
      omega
    · intro v2 v3 v4 v5 v6 rv2 rv3 rv4 rv5 rv6 hm
      exfalso
      omega
    · intro v2 v3 v4 v5 v6 rv2 rv3 rv4 rv5 rv6 hm
      exfalso
      omega
  | succ mn ih =>
    refine ⟨?_, ?_, ?_⟩
    · intro v2 v3 rv2 rv3 hm
      refine pj_X_of (fun r h => pj_R_to (G0, 7, [(0, .ref 171), (1, .int th), (2, .int v2), (3, .int v3)], [.int ((Int8.ofInt 9).toInt32), .int v3], 0, 0) 7 3 (fun _ => rfl) h) ?_
      cases b1 : pj_c1 .gt v3 ((Int8.ofInt 9).toInt32) with
      | true =>
        have ub1 := pj_u_gtT b1
        refine pj_X_of (fun r h => pj_R_icT 132 rfl rfl b1 h) ?_
        refine pj_X_of (fun r h => pj_R_to (G0, 133, [(0, .ref 171), (1, .int th), (2, .int v2), (3, .int v3)], [.int v2], 0, 0) 133 2 (fun _ => rfl) h) ?_
        exact pj_X_rt (v := some (.int v2)) rfl (pj_rtb ⟨by omega, by omega⟩) ⟨_, rfl, rfl, ⟨by omega, by omega⟩⟩
      | false =>
        have ub1 := pj_u_gtF b1
        refine pj_X_of (fun r h => pj_R_icF rfl b1 h) ?_
        refine pj_X_of (fun r h => pj_R_to (G0, 19, [(6, .int (Int32.ofInt 0)), (5, .int (Int32.ofInt 0)), (4, .int (Int32.ofInt 0)), (0, .ref 171), (1, .int th), (2, .int v2), (3, .int v3)], [], 0, 0) 19 7 (fun _ => rfl) h) ?_
        exact pj_X_sub [(0, .ref 171), (1, .int th), (2, .int v2), (3, .int v3), (4, .int (Int32.ofInt 0)), (5, .int (Int32.ofInt 0)), (6, .int (Int32.ofInt 0))] (show List.Nodup [0, 1, 2, 3, 4, 5, 6] by decide) ⟨rfl, rfl, rfl, rfl, rfl, rfl, rfl, trivial⟩ (ih.2.1 v2 v3 (Int32.ofInt 0) (Int32.ofInt 0) (Int32.ofInt 0) ⟨by omega, by omega⟩ ⟨by omega, by omega⟩ (pj_i32 _) (pj_i32 _) ⟨by omega, by omega⟩ (by omega))
    · intro v2 v3 v4 v5 v6 rv2 rv3 rv4 rv5 rv6 hm
      refine pj_X_of (fun r h => pj_R_to (G0, 22, [(0, .ref 171), (1, .int th), (2, .int v2), (3, .int v3), (4, .int v4), (5, .int v5), (6, .int v6)], [.ref 171, .int v6], 0, 0) 22 3 (fun _ => rfl) h) ?_
      refine pj_X_of (fun r h => pj_T_gi hI rfl rfl h) ?_
      show pj_X _ _ G0 25 [(0, .ref 171), (1, .int th), (2, .int v2), (3, .int v3), (4, .int v4), (5, .int v5), (6, .int v6)] [.int (pj_fi G0 171 4), .int v6] _
      obtain ⟨y2, hy2⟩ : ∃ z : Int32, z = pj_fi G0 171 4 := ⟨_, rfl⟩
      refine pj_X_eqi hy2.symm ?_
      have ey2 : (pj_fi G0 171 4).toInt = y2.toInt := by rw [hy2]
      have ry2 : (0 : Int) ≤ y2.toInt ∧ y2.toInt ≤ 10 := by rw [hy2]; exact hI.2.1 171 4 (0, 10) rfl
      cases b3 : pj_c1 .ge v6 y2 with
      | true =>
        have ub3 := pj_u_geT b3
        refine pj_X_of (fun r h => pj_R_icT 67 rfl rfl b3 h) ?_
        refine pj_X_of (fun r h => pj_R_to (G0, 70, [(6, .int (Int32.ofInt 0)), (0, .ref 171), (1, .int th), (2, .int v2), (3, .int v3), (4, .int v4), (5, .int v5)], [], 0, 0) 70 3 (fun _ => rfl) h) ?_
        exact pj_X_sub [(0, .ref 171), (1, .int th), (2, .int v2), (3, .int v3), (4, .int v4), (5, .int v5), (6, .int (Int32.ofInt 0))] (show List.Nodup [0, 1, 2, 3, 4, 5, 6] by decide) ⟨rfl, rfl, rfl, rfl, rfl, rfl, rfl, trivial⟩ (ih.2.2 v2 v3 v4 v5 (Int32.ofInt 0) ⟨by omega, by omega⟩ ⟨by omega, by omega⟩ (pj_i32 _) (pj_i32 _) ⟨by omega, by omega⟩ (by omega))
      | false =>
        have ub3 := pj_u_geF b3
        refine pj_X_of (fun r h => pj_R_icF rfl b3 h) ?_
        refine pj_X_of (fun r h => pj_R_to (G0, 33, [(0, .ref 171), (1, .int th), (2, .int v2), (3, .int v3), (4, .int v4), (5, .int v5), (6, .int v6)], [.int v6, .int th, .int v4], 0, 0) 33 4 (fun _ => rfl) h) ?_
        refine pj_X_ca (vs := [.int th, .int v6]) rfl (fun _ => rfl) ⟨Nat.le_of_ble_eq_true rfl, Nat.le_of_ble_eq_true rfl, rfl⟩ ⟨rfl, rfl⟩ (pj_Y_up (by decide) (ct_171bx G0 hI th v6)) ?_
        rintro _ _ ⟨y4, rfl, rfl, ry4, ey4, fy4⟩
        show pj_X _ _ G0 36 [(0, .ref 171), (1, .int th), (2, .int v2), (3, .int v3), (4, .int v4), (5, .int v5), (6, .int v6)] [.int y4, .int v4] _
        cases b5 : pj_c1 .eq y4 0 with
        | true =>
          have ub5 := pj_u0_eqT b5
          refine pj_X_of (fun r h => pj_R_ifT 54 rfl rfl b5 h) ?_
          refine pj_X_of (fun r h => pj_R_to (G0, 55, [(0, .ref 171), (1, .int th), (2, .int v2), (3, .int v3), (4, .int v4), (5, .int v5), (6, .int v6)], [.int (Int32.ofInt 0), .int v4], 0, 0) 55 2 (fun _ => rfl) h) ?_
          refine pj_X_ca (vs := [.int (Int32.ofInt 0)]) rfl (fun _ => rfl) ⟨Nat.le_of_ble_eq_true rfl, Nat.le_of_ble_eq_true rfl, rfl⟩ ⟨rfl, rfl⟩ (pj_Y_up (by decide) (ct_172x G0 hI (Int32.ofInt 0) ⟨by omega, by omega⟩)) ?_
          rintro _ _ ⟨y6, rfl, rfl, ry6, ey6, fy6⟩
          show pj_X _ _ G0 58 [(0, .ref 171), (1, .int th), (2, .int v2), (3, .int v3), (4, .int v4), (5, .int v5), (6, .int v6)] [.int y6, .int v4] _
          refine pj_X_of (fun r h => pj_R_to (G0, 59, [(0, .ref 171), (1, .int th), (2, .int v2), (3, .int v3), (4, .int v4), (5, .int v5), (6, .int v6)], [.int (v4 + y6)], 0, 0) 59 2 (fun _ => rfl) h) ?_
          obtain ⟨z7, hz7⟩ : ∃ z : Int32, z = v4 + y6 := ⟨_, rfl⟩
          refine pj_X_eqi hz7.symm ?_
          refine pj_X_of (fun r h => pj_R_to (G0, 64, [(6, .int (v6 + Int32.ofInt 1)), (4, .int z7), (0, .ref 171), (1, .int th), (2, .int v2), (3, .int v3), (5, .int v5)], [], 0, 0) 64 3 (fun _ => rfl) h) ?_
          obtain ⟨z8, hz8⟩ : ∃ z : Int32, z = v6 + Int32.ofInt 1 := ⟨_, rfl⟩
          rw [← hz8]
          have fz8_0 : z8.toInt = v6.toInt + (Int32.ofInt 1).toInt := by rw [hz8]; exact pj_addI (by have := pj_i32 v6; have := pj_i32 (Int32.ofInt 1); omega) (by have := pj_i32 v6; have := pj_i32 (Int32.ofInt 1); omega)
          refine pj_X_of (fun r h => pj_R_to (G0, 19, [(6, .int z8), (4, .int z7), (0, .ref 171), (1, .int th), (2, .int v2), (3, .int v3), (5, .int v5)], [], 0, 0) 19 2 (fun _ => rfl) h) ?_
          exact pj_X_sub [(0, .ref 171), (1, .int th), (2, .int v2), (3, .int v3), (4, .int z7), (5, .int v5), (6, .int z8)] (show List.Nodup [0, 1, 2, 3, 4, 5, 6] by decide) ⟨rfl, rfl, rfl, rfl, rfl, rfl, rfl, trivial⟩ (ih.2.1 v2 v3 z7 v5 z8 ⟨by omega, by omega⟩ ⟨by omega, by omega⟩ (pj_i32 _) (pj_i32 _) ⟨by omega, by omega⟩ (by omega))
        | false =>
          have ub5 := pj_u0_eqF b5
          refine pj_X_of (fun r h => pj_R_ifF rfl b5 h) ?_
          refine pj_X_of (fun r h => pj_R_to (G0, 40, [(0, .ref 171), (1, .int th), (2, .int v2), (3, .int v3), (4, .int v4), (5, .int v5), (6, .int v6)], [.ref 171, .int v4], 0, 0) 40 2 (fun _ => rfl) h) ?_
          refine pj_X_of (fun r h => pj_T_gr hI rfl rfl rfl h) ?_
          refine pj_X_of (fun r h => pj_R_to (G0, 45, [(0, .ref 171), (1, .int th), (2, .int v2), (3, .int v3), (4, .int v4), (5, .int v5), (6, .int v6)], [.int v6, .ref 176, .int v4], 0, 0) 45 2 (fun _ => rfl) h) ?_
          refine pj_X_of (fun r h => pj_T_il hI rfl rfl (by omega) (by omega) h) ?_
          show pj_X _ _ G0 46 [(0, .ref 171), (1, .int th), (2, .int v2), (3, .int v3), (4, .int v4), (5, .int v5), (6, .int v6)] [.int (pj_ai G0 176 v6.toInt.toNat), .int v4] _
          obtain ⟨z9, hz9⟩ : ∃ z : Int32, z = pj_ai G0 176 v6.toInt.toNat := ⟨_, rfl⟩
          refine pj_X_eqi hz9.symm ?_
          have ez9 : (pj_ai G0 176 v6.toInt.toNat).toInt = z9.toInt := by rw [hz9]
          refine pj_X_of (fun r h => pj_R_to (G0, 47, [(0, .ref 171), (1, .int th), (2, .int v2), (3, .int v3), (4, .int v4), (5, .int v5), (6, .int v6)], [.int v3, .int z9, .int v4], 0, 0) 47 2 (fun _ => rfl) h) ?_
          cases b10 : pj_c1 .lt z9 v3 with
          | true =>
            have ub10 := pj_u_ltT b10
            refine pj_X_of (fun r h => pj_R_icT 54 rfl rfl b10 h) ?_
            refine pj_X_of (fun r h => pj_R_to (G0, 55, [(0, .ref 171), (1, .int th), (2, .int v2), (3, .int v3), (4, .int v4), (5, .int v5), (6, .int v6)], [.int (Int32.ofInt 0), .int v4], 0, 0) 55 2 (fun _ => rfl) h) ?_
            refine pj_X_ca (vs := [.int (Int32.ofInt 0)]) rfl (fun _ => rfl) ⟨Nat.le_of_ble_eq_true rfl, Nat.le_of_ble_eq_true rfl, rfl⟩ ⟨rfl, rfl⟩ (pj_Y_up (by decide) (ct_172x G0 hI (Int32.ofInt 0) ⟨by omega, by omega⟩)) ?_
            rintro _ _ ⟨y11, rfl, rfl, ry11, ey11, fy11⟩
            show pj_X _ _ G0 58 [(0, .ref 171), (1, .int th), (2, .int v2), (3, .int v3), (4, .int v4), (5, .int v5), (6, .int v6)] [.int y11, .int v4] _
            refine pj_X_of (fun r h => pj_R_to (G0, 59, [(0, .ref 171), (1, .int th), (2, .int v2), (3, .int v3), (4, .int v4), (5, .int v5), (6, .int v6)], [.int (v4 + y11)], 0, 0) 59 2 (fun _ => rfl) h) ?_
            obtain ⟨z12, hz12⟩ : ∃ z : Int32, z = v4 + y11 := ⟨_, rfl⟩
            refine pj_X_eqi hz12.symm ?_
            refine pj_X_of (fun r h => pj_R_to (G0, 64, [(6, .int (v6 + Int32.ofInt 1)), (4, .int z12), (0, .ref 171), (1, .int th), (2, .int v2), (3, .int v3), (5, .int v5)], [], 0, 0) 64 3 (fun _ => rfl) h) ?_
            obtain ⟨z13, hz13⟩ : ∃ z : Int32, z = v6 + Int32.ofInt 1 := ⟨_, rfl⟩
            rw [← hz13]
            have fz13_0 : z13.toInt = v6.toInt + (Int32.ofInt 1).toInt := by rw [hz13]; exact pj_addI (by have := pj_i32 v6; have := pj_i32 (Int32.ofInt 1); omega) (by have := pj_i32 v6; have := pj_i32 (Int32.ofInt 1); omega)
            refine pj_X_of (fun r h => pj_R_to (G0, 19, [(6, .int z13), (4, .int z12), (0, .ref 171), (1, .int th), (2, .int v2), (3, .int v3), (5, .int v5)], [], 0, 0) 19 2 (fun _ => rfl) h) ?_
            exact pj_X_sub [(0, .ref 171), (1, .int th), (2, .int v2), (3, .int v3), (4, .int z12), (5, .int v5), (6, .int z13)] (show List.Nodup [0, 1, 2, 3, 4, 5, 6] by decide) ⟨rfl, rfl, rfl, rfl, rfl, rfl, rfl, trivial⟩ (ih.2.1 v2 v3 z12 v5 z13 ⟨by omega, by omega⟩ ⟨by omega, by omega⟩ (pj_i32 _) (pj_i32 _) ⟨by omega, by omega⟩ (by omega))
          | false =>
            have ub10 := pj_u_ltF b10
            refine pj_X_of (fun r h => pj_R_icF rfl b10 h) ?_
            refine pj_X_of (fun r h => pj_R_to (G0, 55, [(0, .ref 171), (1, .int th), (2, .int v2), (3, .int v3), (4, .int v4), (5, .int v5), (6, .int v6)], [.int (Int32.ofInt 1), .int v4], 0, 0) 55 3 (fun _ => rfl) h) ?_
            refine pj_X_ca (vs := [.int (Int32.ofInt 1)]) rfl (fun _ => rfl) ⟨Nat.le_of_ble_eq_true rfl, Nat.le_of_ble_eq_true rfl, rfl⟩ ⟨rfl, rfl⟩ (pj_Y_up (by decide) (ct_172x G0 hI (Int32.ofInt 1) ⟨by omega, by omega⟩)) ?_
            rintro _ _ ⟨y14, rfl, rfl, ry14, ey14, fy14⟩
            show pj_X _ _ G0 58 [(0, .ref 171), (1, .int th), (2, .int v2), (3, .int v3), (4, .int v4), (5, .int v5), (6, .int v6)] [.int y14, .int v4] _
            refine pj_X_of (fun r h => pj_R_to (G0, 59, [(0, .ref 171), (1, .int th), (2, .int v2), (3, .int v3), (4, .int v4), (5, .int v5), (6, .int v6)], [.int (v4 + y14)], 0, 0) 59 2 (fun _ => rfl) h) ?_
            obtain ⟨z15, hz15⟩ : ∃ z : Int32, z = v4 + y14 := ⟨_, rfl⟩
            refine pj_X_eqi hz15.symm ?_
            refine pj_X_of (fun r h => pj_R_to (G0, 64, [(6, .int (v6 + Int32.ofInt 1)), (4, .int z15), (0, .ref 171), (1, .int th), (2, .int v2), (3, .int v3), (5, .int v5)], [], 0, 0) 64 3 (fun _ => rfl) h) ?_
            obtain ⟨z16, hz16⟩ : ∃ z : Int32, z = v6 + Int32.ofInt 1 := ⟨_, rfl⟩
            rw [← hz16]
            have fz16_0 : z16.toInt = v6.toInt + (Int32.ofInt 1).toInt := by rw [hz16]; exact pj_addI (by have := pj_i32 v6; have := pj_i32 (Int32.ofInt 1); omega) (by have := pj_i32 v6; have := pj_i32 (Int32.ofInt 1); omega)
            refine pj_X_of (fun r h => pj_R_to (G0, 19, [(6, .int z16), (4, .int z15), (0, .ref 171), (1, .int th), (2, .int v2), (3, .int v3), (5, .int v5)], [], 0, 0) 19 2 (fun _ => rfl) h) ?_
            exact pj_X_sub [(0, .ref 171), (1, .int th), (2, .int v2), (3, .int v3), (4, .int z15), (5, .int v5), (6, .int z16)] (show List.Nodup [0, 1, 2, 3, 4, 5, 6] by decide) ⟨rfl, rfl, rfl, rfl, rfl, rfl, rfl, trivial⟩ (ih.2.1 v2 v3 z15 v5 z16 ⟨by omega, by omega⟩ ⟨by omega, by omega⟩ (pj_i32 _) (pj_i32 _) ⟨by omega, by omega⟩ (by omega))
    · intro v2 v3 v4 v5 v6 rv2 rv3 rv4 rv5 rv6 hm
      refine pj_X_of (fun r h => pj_R_to (G0, 73, [(0, .ref 171), (1, .int th), (2, .int v2), (3, .int v3), (4, .int v4), (5, .int v5), (6, .int v6)], [.ref 171, .int v6], 0, 0) 73 3 (fun _ => rfl) h) ?_
      refine pj_X_of (fun r h => pj_T_gi hI rfl rfl h) ?_
      show pj_X _ _ G0 76 [(0, .ref 171), (1, .int th), (2, .int v2), (3, .int v3), (4, .int v4), (5, .int v5), (6, .int v6)] [.int (pj_fi G0 171 5), .int v6] _
      obtain ⟨y17, hy17⟩ : ∃ z : Int32, z = pj_fi G0 171 5 := ⟨_, rfl⟩
      refine pj_X_eqi hy17.symm ?_
      have ey17 : (pj_fi G0 171 5).toInt = y17.toInt := by rw [hy17]
      have ry17 : (0 : Int) ≤ y17.toInt ∧ y17.toInt ≤ 6 := by rw [hy17]; exact hI.2.1 171 5 (0, 6) rfl
      cases b18 : pj_c1 .ge v6 y17 with
      | true =>
        have ub18 := pj_u_geT b18
        refine pj_X_of (fun r h => pj_R_icT 109 rfl rfl b18 h) ?_
        refine pj_X_of (fun r h => pj_R_to (G0, 110, [(0, .ref 171), (1, .int th), (2, .int v2), (3, .int v3), (4, .int v4), (5, .int v5), (6, .int v6)], [.int v2], 0, 0) 110 2 (fun _ => rfl) h) ?_
        cases b19 : pj_c1 .eq v2 0 with
        | true =>
          have ub19 := pj_u0_eqT b19
          refine pj_X_of (fun r h => pj_R_ifT 124 rfl rfl b19 h) ?_
          refine pj_X_of (fun r h => pj_R_to (G0, 129, [(3, .int (v3 + Int32.ofInt 1)), (2, .int (Int32.ofInt 0)), (0, .ref 171), (1, .int th), (4, .int v4), (5, .int v5), (6, .int v6)], [], 0, 0) 129 4 (fun _ => rfl) h) ?_
          obtain ⟨z20, hz20⟩ : ∃ z : Int32, z = v3 + Int32.ofInt 1 := ⟨_, rfl⟩
          rw [← hz20]
          have fz20_0 : z20.toInt = v3.toInt + (Int32.ofInt 1).toInt := by rw [hz20]; exact pj_addI (by have := pj_i32 v3; have := pj_i32 (Int32.ofInt 1); omega) (by have := pj_i32 v3; have := pj_i32 (Int32.ofInt 1); omega)
          refine pj_X_of (fun r h => pj_R_to (G0, 4, [(3, .int z20), (2, .int (Int32.ofInt 0)), (0, .ref 171), (1, .int th), (4, .int v4), (5, .int v5), (6, .int v6)], [], 0, 0) 4 2 (fun _ => rfl) h) ?_
          exact pj_X_sub [(0, .ref 171), (1, .int th), (2, .int (Int32.ofInt 0)), (3, .int z20)] (show List.Nodup [0, 1, 2, 3] by decide) ⟨rfl, rfl, rfl, rfl, trivial⟩ (ih.1 (Int32.ofInt 0) z20 ⟨by omega, by omega⟩ ⟨by omega, by omega⟩ (by omega))
        | false =>
          have ub19 := pj_u0_eqF b19
          refine pj_X_of (fun r h => pj_R_ifF rfl b19 h) ?_
          refine pj_X_of (fun r h => pj_R_to (G0, 117, [(0, .ref 171), (1, .int th), (2, .int v2), (3, .int v3), (4, .int v4), (5, .int v5), (6, .int v6)], [.int v5, .int v4], 0, 0) 117 3 (fun _ => rfl) h) ?_
          cases b21 : pj_c1 .gt v4 v5 with
          | true =>
            have ub21 := pj_u_gtT b21
            refine pj_X_of (fun r h => pj_R_icT 124 rfl rfl b21 h) ?_
            refine pj_X_of (fun r h => pj_R_to (G0, 129, [(3, .int (v3 + Int32.ofInt 1)), (2, .int (Int32.ofInt 0)), (0, .ref 171), (1, .int th), (4, .int v4), (5, .int v5), (6, .int v6)], [], 0, 0) 129 4 (fun _ => rfl) h) ?_
            obtain ⟨z22, hz22⟩ : ∃ z : Int32, z = v3 + Int32.ofInt 1 := ⟨_, rfl⟩
            rw [← hz22]
            have fz22_0 : z22.toInt = v3.toInt + (Int32.ofInt 1).toInt := by rw [hz22]; exact pj_addI (by have := pj_i32 v3; have := pj_i32 (Int32.ofInt 1); omega) (by have := pj_i32 v3; have := pj_i32 (Int32.ofInt 1); omega)
            refine pj_X_of (fun r h => pj_R_to (G0, 4, [(3, .int z22), (2, .int (Int32.ofInt 0)), (0, .ref 171), (1, .int th), (4, .int v4), (5, .int v5), (6, .int v6)], [], 0, 0) 4 2 (fun _ => rfl) h) ?_
            exact pj_X_sub [(0, .ref 171), (1, .int th), (2, .int (Int32.ofInt 0)), (3, .int z22)] (show List.Nodup [0, 1, 2, 3] by decide) ⟨rfl, rfl, rfl, rfl, trivial⟩ (ih.1 (Int32.ofInt 0) z22 ⟨by omega, by omega⟩ ⟨by omega, by omega⟩ (by omega))
          | false =>
            have ub21 := pj_u_gtF b21
            refine pj_X_of (fun r h => pj_R_icF rfl b21 h) ?_
            refine pj_X_of (fun r h => pj_R_to (G0, 129, [(3, .int (v3 + Int32.ofInt 1)), (2, .int (Int32.ofInt 1)), (0, .ref 171), (1, .int th), (4, .int v4), (5, .int v5), (6, .int v6)], [], 0, 0) 129 5 (fun _ => rfl) h) ?_
            obtain ⟨z23, hz23⟩ : ∃ z : Int32, z = v3 + Int32.ofInt 1 := ⟨_, rfl⟩
            rw [← hz23]
            have fz23_0 : z23.toInt = v3.toInt + (Int32.ofInt 1).toInt := by rw [hz23]; exact pj_addI (by have := pj_i32 v3; have := pj_i32 (Int32.ofInt 1); omega) (by have := pj_i32 v3; have := pj_i32 (Int32.ofInt 1); omega)
            refine pj_X_of (fun r h => pj_R_to (G0, 4, [(3, .int z23), (2, .int (Int32.ofInt 1)), (0, .ref 171), (1, .int th), (4, .int v4), (5, .int v5), (6, .int v6)], [], 0, 0) 4 2 (fun _ => rfl) h) ?_
            exact pj_X_sub [(0, .ref 171), (1, .int th), (2, .int (Int32.ofInt 1)), (3, .int z23)] (show List.Nodup [0, 1, 2, 3] by decide) ⟨rfl, rfl, rfl, rfl, trivial⟩ (ih.1 (Int32.ofInt 1) z23 ⟨by omega, by omega⟩ ⟨by omega, by omega⟩ (by omega))
      | false =>
        have ub18 := pj_u_geF b18
        refine pj_X_of (fun r h => pj_R_icF rfl b18 h) ?_
        refine pj_X_of (fun r h => pj_R_to (G0, 82, [(0, .ref 171), (1, .int th), (2, .int v2), (3, .int v3), (4, .int v4), (5, .int v5), (6, .int v6)], [.ref 171, .int v5], 0, 0) 82 3 (fun _ => rfl) h) ?_
        refine pj_X_of (fun r h => pj_T_gr hI rfl rfl rfl h) ?_
        refine pj_X_of (fun r h => pj_R_to (G0, 87, [(0, .ref 171), (1, .int th), (2, .int v2), (3, .int v3), (4, .int v4), (5, .int v5), (6, .int v6)], [.int v6, .ref 177, .int v5], 0, 0) 87 2 (fun _ => rfl) h) ?_
        refine pj_X_of (fun r h => pj_T_il hI rfl rfl (by omega) (by omega) h) ?_
        show pj_X _ _ G0 88 [(0, .ref 171), (1, .int th), (2, .int v2), (3, .int v3), (4, .int v4), (5, .int v5), (6, .int v6)] [.int (pj_ai G0 177 v6.toInt.toNat), .int v5] _
        obtain ⟨z24, hz24⟩ : ∃ z : Int32, z = pj_ai G0 177 v6.toInt.toNat := ⟨_, rfl⟩
        refine pj_X_eqi hz24.symm ?_
        have ez24 : (pj_ai G0 177 v6.toInt.toNat).toInt = z24.toInt := by rw [hz24]
        refine pj_X_of (fun r h => pj_R_to (G0, 89, [(0, .ref 171), (1, .int th), (2, .int v2), (3, .int v3), (4, .int v4), (5, .int v5), (6, .int v6)], [.int v3, .int z24, .int v5], 0, 0) 89 2 (fun _ => rfl) h) ?_
        cases b25 : pj_c1 .lt z24 v3 with
        | true =>
          have ub25 := pj_u_ltT b25
          refine pj_X_of (fun r h => pj_R_icT 96 rfl rfl b25 h) ?_
          refine pj_X_of (fun r h => pj_R_to (G0, 97, [(0, .ref 171), (1, .int th), (2, .int v2), (3, .int v3), (4, .int v4), (5, .int v5), (6, .int v6)], [.int (Int32.ofInt 0), .int v5], 0, 0) 97 2 (fun _ => rfl) h) ?_
          refine pj_X_ca (vs := [.int (Int32.ofInt 0)]) rfl (fun _ => rfl) ⟨Nat.le_of_ble_eq_true rfl, Nat.le_of_ble_eq_true rfl, rfl⟩ ⟨rfl, rfl⟩ (pj_Y_up (by decide) (ct_172x G0 hI (Int32.ofInt 0) ⟨by omega, by omega⟩)) ?_
          rintro _ _ ⟨y26, rfl, rfl, ry26, ey26, fy26⟩
          show pj_X _ _ G0 100 [(0, .ref 171), (1, .int th), (2, .int v2), (3, .int v3), (4, .int v4), (5, .int v5), (6, .int v6)] [.int y26, .int v5] _
          refine pj_X_of (fun r h => pj_R_to (G0, 101, [(0, .ref 171), (1, .int th), (2, .int v2), (3, .int v3), (4, .int v4), (5, .int v5), (6, .int v6)], [.int (v5 + y26)], 0, 0) 101 2 (fun _ => rfl) h) ?_
          obtain ⟨z27, hz27⟩ : ∃ z : Int32, z = v5 + y26 := ⟨_, rfl⟩
          refine pj_X_eqi hz27.symm ?_
          refine pj_X_of (fun r h => pj_R_to (G0, 106, [(6, .int (v6 + Int32.ofInt 1)), (5, .int z27), (0, .ref 171), (1, .int th), (2, .int v2), (3, .int v3), (4, .int v4)], [], 0, 0) 106 3 (fun _ => rfl) h) ?_
          obtain ⟨z28, hz28⟩ : ∃ z : Int32, z = v6 + Int32.ofInt 1 := ⟨_, rfl⟩
          rw [← hz28]
          have fz28_0 : z28.toInt = v6.toInt + (Int32.ofInt 1).toInt := by rw [hz28]; exact pj_addI (by have := pj_i32 v6; have := pj_i32 (Int32.ofInt 1); omega) (by have := pj_i32 v6; have := pj_i32 (Int32.ofInt 1); omega)
          refine pj_X_of (fun r h => pj_R_to (G0, 70, [(6, .int z28), (5, .int z27), (0, .ref 171), (1, .int th), (2, .int v2), (3, .int v3), (4, .int v4)], [], 0, 0) 70 2 (fun _ => rfl) h) ?_
          exact pj_X_sub [(0, .ref 171), (1, .int th), (2, .int v2), (3, .int v3), (4, .int v4), (5, .int z27), (6, .int z28)] (show List.Nodup [0, 1, 2, 3, 4, 5, 6] by decide) ⟨rfl, rfl, rfl, rfl, rfl, rfl, rfl, trivial⟩ (ih.2.2 v2 v3 v4 z27 z28 ⟨by omega, by omega⟩ ⟨by omega, by omega⟩ (pj_i32 _) (pj_i32 _) ⟨by omega, by omega⟩ (by omega))
        | false =>
          have ub25 := pj_u_ltF b25
          refine pj_X_of (fun r h => pj_R_icF rfl b25 h) ?_
          refine pj_X_of (fun r h => pj_R_to (G0, 97, [(0, .ref 171), (1, .int th), (2, .int v2), (3, .int v3), (4, .int v4), (5, .int v5), (6, .int v6)], [.int (Int32.ofInt 1), .int v5], 0, 0) 97 3 (fun _ => rfl) h) ?_
          refine pj_X_ca (vs := [.int (Int32.ofInt 1)]) rfl (fun _ => rfl) ⟨Nat.le_of_ble_eq_true rfl, Nat.le_of_ble_eq_true rfl, rfl⟩ ⟨rfl, rfl⟩ (pj_Y_up (by decide) (ct_172x G0 hI (Int32.ofInt 1) ⟨by omega, by omega⟩)) ?_
          rintro _ _ ⟨y29, rfl, rfl, ry29, ey29, fy29⟩
          show pj_X _ _ G0 100 [(0, .ref 171), (1, .int th), (2, .int v2), (3, .int v3), (4, .int v4), (5, .int v5), (6, .int v6)] [.int y29, .int v5] _
          refine pj_X_of (fun r h => pj_R_to (G0, 101, [(0, .ref 171), (1, .int th), (2, .int v2), (3, .int v3), (4, .int v4), (5, .int v5), (6, .int v6)], [.int (v5 + y29)], 0, 0) 101 2 (fun _ => rfl) h) ?_
          obtain ⟨z30, hz30⟩ : ∃ z : Int32, z = v5 + y29 := ⟨_, rfl⟩
          refine pj_X_eqi hz30.symm ?_
          refine pj_X_of (fun r h => pj_R_to (G0, 106, [(6, .int (v6 + Int32.ofInt 1)), (5, .int z30), (0, .ref 171), (1, .int th), (2, .int v2), (3, .int v3), (4, .int v4)], [], 0, 0) 106 3 (fun _ => rfl) h) ?_
          obtain ⟨z31, hz31⟩ : ∃ z : Int32, z = v6 + Int32.ofInt 1 := ⟨_, rfl⟩
          rw [← hz31]
          have fz31_0 : z31.toInt = v6.toInt + (Int32.ofInt 1).toInt := by rw [hz31]; exact pj_addI (by have := pj_i32 v6; have := pj_i32 (Int32.ofInt 1); omega) (by have := pj_i32 v6; have := pj_i32 (Int32.ofInt 1); omega)
          refine pj_X_of (fun r h => pj_R_to (G0, 70, [(6, .int z31), (5, .int z30), (0, .ref 171), (1, .int th), (2, .int v2), (3, .int v3), (4, .int v4)], [], 0, 0) 70 2 (fun _ => rfl) h) ?_
          exact pj_X_sub [(0, .ref 171), (1, .int th), (2, .int v2), (3, .int v3), (4, .int v4), (5, .int z30), (6, .int z31)] (show List.Nodup [0, 1, 2, 3, 4, 5, 6] by decide) ⟨rfl, rfl, rfl, rfl, rfl, rfl, rfl, trivial⟩ (ih.2.2 v2 v3 v4 z30 z31 ⟨by omega, by omega⟩ ⟨by omega, by omega⟩ (pj_i32 _) (pj_i32 _) ⟨by omega, by omega⟩ (by omega))
theorem ct_243 (G0 : pj_G) (hI : pj_Inv G0) (th : Int32) : pj_Y 2 243 [.ref 171, .int th] G0 (fun v G' => ∃ y : Int32, v = some (.int y) ∧ G0 = G' ∧ ((0 : Int) ≤ y.toInt ∧ y.toInt ≤ 1)) := by
  have c0_ : ((Int8.ofInt 9).toInt32).toInt = 9 := by decide
  have c1_ : (Int32.ofInt 0).toInt = 0 := by decide
  have c2_ : (Int32.ofInt 1).toInt = 1 := by decide
  refine pj_Y_X (M := pj_m243) rfl rfl (Nat.le_of_ble_eq_true rfl) ?_
  have hK : pj_kpt ([], [], []) G0 G0 := pj_kpt_r _ _
  show pj_X _ _ G0 0 [(0, .ref 171), (1, .int th)] [] _
  refine pj_X_of (fun r h => pj_R_to (G0, 4, [(3, .int (Int32.ofInt 1)), (2, .int (Int32.ofInt 1)), (0, .ref 171), (1, .int th)], [], 0, 0) 4 5 (fun _ => rfl) h) ?_
  exact pj_X_sub [(0, .ref 171), (1, .int th), (2, .int (Int32.ofInt 1)), (3, .int (Int32.ofInt 1))] (show List.Nodup [0, 1, 2, 3] by decide) ⟨rfl, rfl, rfl, rfl, trivial⟩ ((lp_ct_243 G0 hI th  1001).1 (Int32.ofInt 1) (Int32.ofInt 1) ⟨by omega, by omega⟩ ⟨by omega, by omega⟩ (by omega))
theorem ct_244 (G0 : pj_G) (hI : pj_Inv G0) : pj_Y 1 244 [.ref 171] G0 (fun v G' => ∃ y : Int32, v = some (.int y) ∧ G0 = G' ∧ ((0 : Int) ≤ y.toInt ∧ y.toInt ≤ 1023)) := by
  have c0_ : (Int32.ofInt 1).toInt = 1 := by decide
  refine pj_Y_X (M := pj_m244) rfl rfl (Nat.le_of_ble_eq_true rfl) ?_
  have hK : pj_kpt ([], [], []) G0 G0 := pj_kpt_r _ _
  show pj_X _ _ G0 0 [(0, .ref 171)] [] _
  refine pj_X_of (fun r h => pj_R_to (G0, 2, [(0, .ref 171)], [.ref 171, .int (Int32.ofInt 1)], 0, 0) 2 3 (fun _ => rfl) h) ?_
  refine pj_X_of (fun r h => pj_T_gi hI rfl rfl h) ?_
  show pj_X _ _ G0 5 [(0, .ref 171)] [.int (pj_fi G0 171 4), .int (Int32.ofInt 1)] _
  obtain ⟨y1, hy1⟩ : ∃ z : Int32, z = pj_fi G0 171 4 := ⟨_, rfl⟩
  refine pj_X_eqi hy1.symm ?_
  have ey1 : (pj_fi G0 171 4).toInt = y1.toInt := by rw [hy1]
  have ry1 : (0 : Int) ≤ y1.toInt ∧ y1.toInt ≤ 10 := by rw [hy1]; exact hI.2.1 171 4 (0, 10) rfl
  refine pj_X_of (fun r h => pj_R_to (G0, 6, [(0, .ref 171)], [.int ((Int32.ofInt 1) <<< (y1 &&& 31))], 0, 0) 6 2 (fun _ => rfl) h) ?_
  obtain ⟨z2, hz2⟩ : ∃ z : Int32, z = (Int32.ofInt 1) <<< (y1 &&& 31) := ⟨_, rfl⟩
  refine pj_X_eqi hz2.symm ?_
  have fz2_0 : 1 ≤ z2.toInt ∧ z2.toInt ≤ 1024 := by rw [hz2]; exact pj_shlI10 (by omega) (by omega)
  refine pj_X_of (fun r h => pj_R_to (G0, 8, [(0, .ref 171)], [.int (z2 - (Int32.ofInt 1))], 0, 0) 8 3 (fun _ => rfl) h) ?_
  obtain ⟨z3, hz3⟩ : ∃ z : Int32, z = z2 - (Int32.ofInt 1) := ⟨_, rfl⟩
  refine pj_X_eqi hz3.symm ?_
  have fz3_0 : z3.toInt = z2.toInt - (Int32.ofInt 1).toInt := by rw [hz3]; exact pj_subI (by have := pj_i32 z2; have := pj_i32 (Int32.ofInt 1); omega) (by have := pj_i32 z2; have := pj_i32 (Int32.ofInt 1); omega)
  exact pj_X_rt rfl rfl ⟨_, rfl, rfl, ⟨by omega, by omega⟩⟩
theorem lp_ct_246 (G0 : pj_G) (hI : pj_Inv G0) (op : Int32) : ∀ mn : Nat, (∀ (v2 : Int32) (v3 : Int32), ((0 : Int) ≤ v2.toInt ∧ v2.toInt ≤ 1) → ((0 : Int) ≤ v3.toInt ∧ v3.toInt ≤ 16) → 16 - v3.toInt < (mn : Int) → pj_X 3 pj_m246 G0 4 [(0, .ref 171), (1, .int op), (2, .int v2), (3, .int v3)] [] (fun v G' => ∃ y : Int32, v = some (.int y) ∧ G0 = G' ∧ ((0 : Int) ≤ y.toInt ∧ y.toInt ≤ 1))) := by
  have c0_ : (Int32.ofInt 0).toInt = 0 := by decide
  have c1_ : (Int32.ofInt 1).toInt = 1 := by decide
  have hK : pj_kpt ([], [], []) G0 G0 := pj_kpt_r _ _
  intro mn
  induction mn with
  | zero =>
    intro v2 v3 rv2 rv3 hm
    exfalso
    omega
  | succ mn ih =>
    intro v2 v3 rv2 rv3 hm
    refine pj_X_of (fun r h => pj_R_to (G0, 6, [(0, .ref 171), (1, .int op), (2, .int v2), (3, .int v3)], [.ref 171, .int v3], 0, 0) 6 3 (fun _ => rfl) h) ?_
    refine pj_X_of (fun r h => pj_T_gi hI rfl rfl h) ?_
    show pj_X _ _ G0 9 [(0, .ref 171), (1, .int op), (2, .int v2), (3, .int v3)] [.int (pj_fi G0 171 44), .int v3] _
    obtain ⟨y1, hy1⟩ : ∃ z : Int32, z = pj_fi G0 171 44 := ⟨_, rfl⟩
    refine pj_X_eqi hy1.symm ?_
    have ey1 : (pj_fi G0 171 44).toInt = y1.toInt := by rw [hy1]
    have ry1 : (0 : Int) ≤ y1.toInt ∧ y1.toInt ≤ 16 := by rw [hy1]; exact hI.2.1 171 44 (0, 16) rfl
    cases b2 : pj_c1 .ge v3 y1 with
    | true =>
      have ub2 := pj_u_geT b2
      refine pj_X_of (fun r h => pj_R_icT 45 rfl rfl b2 h) ?_
      refine pj_X_of (fun r h => pj_R_to (G0, 46, [(0, .ref 171), (1, .int op), (2, .int v2), (3, .int v3)], [.int v2], 0, 0) 46 2 (fun _ => rfl) h) ?_
      exact pj_X_rt (v := some (.int v2)) rfl (pj_rtb ⟨by omega, by omega⟩) ⟨_, rfl, rfl, ⟨by omega, by omega⟩⟩
    | false =>
      have ub2 := pj_u_geF b2
      refine pj_X_of (fun r h => pj_R_icF rfl b2 h) ?_
      refine pj_X_of (fun r h => pj_R_to (G0, 13, [(0, .ref 171), (1, .int op), (2, .int v2), (3, .int v3)], [.int v2], 0, 0) 13 2 (fun _ => rfl) h) ?_
      cases b3 : pj_c1 .eq v2 0 with
      | true =>
        have ub3 := pj_u0_eqT b3
        refine pj_X_of (fun r h => pj_R_ifT 45 rfl rfl b3 h) ?_
        refine pj_X_of (fun r h => pj_R_to (G0, 46, [(0, .ref 171), (1, .int op), (2, .int v2), (3, .int v3)], [.int v2], 0, 0) 46 2 (fun _ => rfl) h) ?_
        exact pj_X_rt (v := some (.int v2)) rfl (pj_rtb ⟨by omega, by omega⟩) ⟨_, rfl, rfl, ⟨by omega, by omega⟩⟩
      | false =>
        have ub3 := pj_u0_eqF b3
        refine pj_X_of (fun r h => pj_R_ifF rfl b3 h) ?_
        refine pj_X_of (fun r h => pj_R_to (G0, 19, [(0, .ref 171), (1, .int op), (2, .int v2), (3, .int v3)], [.ref 171, .int (Int32.ofInt 1), .ref 171], 0, 0) 19 4 (fun _ => rfl) h) ?_
        refine pj_X_of (fun r h => pj_T_gr hI rfl rfl rfl h) ?_
        refine pj_X_of (fun r h => pj_R_to (G0, 23, [(0, .ref 171), (1, .int op), (2, .int v2), (3, .int v3)], [.int v3, .ref 192, .int (Int32.ofInt 1), .ref 171], 0, 0) 23 2 (fun _ => rfl) h) ?_
        refine pj_X_of (fun r h => pj_T_il hI rfl rfl (by omega) (by omega) h) ?_
        show pj_X _ _ G0 24 [(0, .ref 171), (1, .int op), (2, .int v2), (3, .int v3)] [.int (pj_ai G0 192 v3.toInt.toNat), .int (Int32.ofInt 1), .ref 171] _
        obtain ⟨z4, hz4⟩ : ∃ z : Int32, z = pj_ai G0 192 v3.toInt.toNat := ⟨_, rfl⟩
        refine pj_X_eqi hz4.symm ?_
        have ez4 : (pj_ai G0 192 v3.toInt.toNat).toInt = z4.toInt := by rw [hz4]
        refine pj_X_of (fun r h => pj_R_to (G0, 25, [(0, .ref 171), (1, .int op), (2, .int v2), (3, .int v3)], [.int ((Int32.ofInt 1) <<< (z4 &&& 31)), .ref 171], 0, 0) 25 2 (fun _ => rfl) h) ?_
        obtain ⟨z5, hz5⟩ : ∃ z : Int32, z = (Int32.ofInt 1) <<< (z4 &&& 31) := ⟨_, rfl⟩
        refine pj_X_eqi hz5.symm ?_
        refine pj_X_of (fun r h => pj_R_to (G0, 26, [(0, .ref 171), (1, .int op), (2, .int v2), (3, .int v3)], [.int op, .int z5, .ref 171], 0, 0) 26 2 (fun _ => rfl) h) ?_
        refine pj_X_ca (vs := [.ref 171, .int z5, .int op]) rfl (fun _ => rfl) ⟨Nat.le_of_ble_eq_true rfl, Nat.le_of_ble_eq_true rfl, pj_T_rcv hI rfl⟩ ⟨rfl, rfl⟩ (pj_Y_up (by decide) (ct_208 G0 hI z5 op)) ?_
        rintro _ _ ⟨y6, rfl, rfl, ry6⟩
        show pj_X _ _ G0 29 [(0, .ref 171), (1, .int op), (2, .int v2), (3, .int v3)] [.int y6] _
        refine pj_X_of (fun r h => pj_R_to (G0, 30, [(0, .ref 171), (1, .int op), (2, .int v2), (3, .int v3)], [.ref 171, .int y6], 0, 0) 30 2 (fun _ => rfl) h) ?_
        refine pj_X_of (fun r h => pj_T_gr hI rfl rfl rfl h) ?_
        refine pj_X_of (fun r h => pj_R_to (G0, 34, [(0, .ref 171), (1, .int op), (2, .int v2), (3, .int v3)], [.int v3, .ref 193, .int y6], 0, 0) 34 2 (fun _ => rfl) h) ?_
        refine pj_X_of (fun r h => pj_T_il hI rfl rfl (by omega) (by omega) h) ?_
        show pj_X _ _ G0 35 [(0, .ref 171), (1, .int op), (2, .int v2), (3, .int v3)] [.int (pj_ai G0 193 v3.toInt.toNat), .int y6] _
        obtain ⟨z7, hz7⟩ : ∃ z : Int32, z = pj_ai G0 193 v3.toInt.toNat := ⟨_, rfl⟩
        refine pj_X_eqi hz7.symm ?_
        have ez7 : (pj_ai G0 193 v3.toInt.toNat).toInt = z7.toInt := by rw [hz7]
        refine pj_X_ca (vs := [.int y6, .int z7]) rfl (fun _ => rfl) ⟨Nat.le_of_ble_eq_true rfl, Nat.le_of_ble_eq_true rfl, rfl⟩ ⟨rfl, rfl⟩ (pj_Y_up (by decide) (ct_171bx G0 hI y6 z7)) ?_
        rintro _ _ ⟨y8, rfl, rfl, ry8, ey8, fy8⟩
        show pj_X _ _ G0 38 [(0, .ref 171), (1, .int op), (2, .int v2), (3, .int v3)] [.int y8] _
        refine pj_X_of (fun r h => pj_R_to (G0, 42, [(3, .int (v3 + Int32.ofInt 1)), (2, .int y8), (0, .ref 171), (1, .int op)], [], 0, 0) 42 3 (fun _ => rfl) h) ?_
        obtain ⟨z9, hz9⟩ : ∃ z : Int32, z = v3 + Int32.ofInt 1 := ⟨_, rfl⟩
        rw [← hz9]
        have fz9_0 : z9.toInt = v3.toInt + (Int32.ofInt 1).toInt := by rw [hz9]; exact pj_addI (by have := pj_i32 v3; have := pj_i32 (Int32.ofInt 1); omega) (by have := pj_i32 v3; have := pj_i32 (Int32.ofInt 1); omega)
        refine pj_X_of (fun r h => pj_R_to (G0, 4, [(3, .int z9), (2, .int y8), (0, .ref 171), (1, .int op)], [], 0, 0) 4 2 (fun _ => rfl) h) ?_
        exact pj_X_sub [(0, .ref 171), (1, .int op), (2, .int y8), (3, .int z9)] (show List.Nodup [0, 1, 2, 3] by decide) ⟨rfl, rfl, rfl, rfl, trivial⟩ (ih y8 z9 ⟨by omega, by omega⟩ ⟨by omega, by omega⟩ (by omega))
theorem ct_246 (G0 : pj_G) (hI : pj_Inv G0) (op : Int32) : pj_Y 4 246 [.ref 171, .int op] G0 (fun v G' => ∃ y : Int32, v = some (.int y) ∧ G0 = G' ∧ ((0 : Int) ≤ y.toInt ∧ y.toInt ≤ 1)) := by
  have c0_ : (Int32.ofInt 0).toInt = 0 := by decide
  have c1_ : (Int32.ofInt 1).toInt = 1 := by decide
  refine pj_Y_X (M := pj_m246) rfl rfl (Nat.le_of_ble_eq_true rfl) ?_
  have hK : pj_kpt ([], [], []) G0 G0 := pj_kpt_r _ _
  show pj_X _ _ G0 0 [(0, .ref 171), (1, .int op)] [] _
  refine pj_X_of (fun r h => pj_R_to (G0, 4, [(3, .int (Int32.ofInt 0)), (2, .int (Int32.ofInt 1)), (0, .ref 171), (1, .int op)], [], 0, 0) 4 5 (fun _ => rfl) h) ?_
  exact pj_X_sub [(0, .ref 171), (1, .int op), (2, .int (Int32.ofInt 1)), (3, .int (Int32.ofInt 0))] (show List.Nodup [0, 1, 2, 3] by decide) ⟨rfl, rfl, rfl, rfl, trivial⟩ ((lp_ct_246 G0 hI op  17) (Int32.ofInt 1) (Int32.ofInt 0) ⟨by omega, by omega⟩ ⟨by omega, by omega⟩ (by omega))
def kc_247 : pj_KT := ([(171, 1)], [171, 172], [])
theorem lp_ct_247 (G0 : pj_G) (hI0 : pj_Inv G0) : ∀ mn : Nat, (∀ (G : pj_G) (hI : pj_Inv G) (hK : pj_kpt kc_247 G0 G) (v1 : Int32) (v2 : Int32), ((-2147483648 : Int) ≤ v1.toInt ∧ v1.toInt ≤ 2147483647) → ((0 : Int) ≤ v2.toInt ∧ v2.toInt ≤ 1024) → 1024 - v2.toInt < (mn : Int) → pj_X 4 pj_m247 G 4 [(0, .ref 171), (1, .int v1), (2, .int v2)] [] (fun v G' => ∃ y : Int32, v = some (.int y) ∧ pj_Inv G' ∧ pj_kpt kc_247 G0 G' ∧ ((-2147483648 : Int) ≤ y.toInt ∧ y.toInt ≤ 2147483647))) := by
  have c0_ : ((Int8.ofInt (-2)).toInt32).toInt = -2 := by decide
  have c1_ : (Int32.ofInt (-1)).toInt = -1 := by decide
  have c2_ : (Int32.ofInt 0).toInt = 0 := by decide
  have c3_ : (Int32.ofInt 1).toInt = 1 := by decide
  intro mn
  induction mn with
  | zero =>
    intro G hI hK v1 v2 rv1 rv2 hm
    exfalso
    omega
  | succ mn ih =>
    intro G hI hK v1 v2 rv1 rv2 hm
    obtain ⟨y1, hy1⟩ : ∃ z : Int32, z = pj_fi G 171 1 := ⟨_, rfl⟩
    have ey1 : (pj_fi G 171 1).toInt = y1.toInt := by rw [hy1]
    have ry1 : (0 : Int) ≤ y1.toInt ∧ y1.toInt ≤ 24 := by rw [hy1]; exact hI.2.1 171 1 (0, 24) rfl
    refine pj_X_of (fun r h => pj_R_to (G, 6, [(0, .ref 171), (1, .int v1), (2, .int v2)], [.ref 171, .int v2], 0, 0) 6 3 (fun _ => rfl) h) ?_
    have q2 : (pj_fi G 171 1).toInt = y1.toInt := by rw [show pj_fi G 171 1 = y1 from hy1.symm]
    refine pj_X_ca (vs := [.ref 171]) rfl (fun _ => rfl) ⟨Nat.le_of_ble_eq_true rfl, Nat.le_of_ble_eq_true rfl, pj_T_rcv hI rfl⟩ ⟨rfl, rfl⟩ (pj_Y_up (by decide) (ct_244 G hI)) ?_
    rintro _ _ ⟨y3, rfl, rfl, ry3⟩
    show pj_X _ _ G 9 [(0, .ref 171), (1, .int v1), (2, .int v2)] [.int y3, .int v2] _
    cases b4 : pj_c1 .gt v2 y3 with
    | true =>
      have ub4 := pj_u_gtT b4
      refine pj_X_of (fun r h => pj_R_icT 65 rfl rfl b4 h) ?_
      refine pj_X_of (fun r h => pj_R_to (G, 66, [(0, .ref 171), (1, .int v1), (2, .int v2)], [.int v1], 0, 0) 66 2 (fun _ => rfl) h) ?_
      cases b5 : pj_c1 .ge v1 0 with
      | true =>
        have ub5 := pj_u0_geT b5
        refine pj_X_of (fun r h => pj_R_ifT 72 rfl rfl b5 h) ?_
        refine pj_X_of (fun r h => pj_R_to (G, 74, [(0, .ref 171), (1, .int v1), (2, .int v2)], [.int (Int32.ofInt 0), .ref 171], 0, 0) 74 3 (fun _ => rfl) h) ?_
        refine pj_X_of (fun r h => pj_T_pf hI rfl rfl rfl h) ?_
        show pj_X _ _ (pj_wv G 171 1 (.int (Int32.ofInt 0))) 77 [(0, .ref 171), (1, .int v1), (2, .int v2)] [] _
        obtain ⟨G6, hG6⟩ : ∃ H, H = pj_wv G 171 1 (.int (Int32.ofInt 0)) := ⟨_, rfl⟩
        have iG6 : pj_Inv G6 := by rw [hG6]; exact pj_Inv_wi hI (ci := 12) rfl (fun q hq => by cases hq; exact ⟨by show (0 : Int) ≤ _; omega, by show _ ≤ (24 : Int); omega⟩)
        have kG6 : pj_kpt kc_247 G0 G6 := by rw [hG6]; exact pj_kpt_v hK rfl
        rw [← hG6]
        refine pj_X_of (fun r h => pj_R_to (G6, 80, [(0, .ref 171), (1, .int v1), (2, .int v2)], [.long v1.toInt64, .ref 171], 0, 0) 80 4 (fun _ => rfl) h) ?_
        have q7 : (pj_fi G6 171 1).toInt = (Int32.ofInt 0).toInt := by rw [show pj_fi G6 171 1 = Int32.ofInt 0 from by rw [hG6]; exact pj_fi_wi hI.1 (ci := 12) rfl _]
        have lc8 : (v1.toInt64).toInt = v1.toInt := Int32.toInt_toInt64 _
        refine pj_X_ca (vs := [.ref 171, .long v1.toInt64]) rfl (fun _ => rfl) ⟨Nat.le_of_ble_eq_true rfl, Nat.le_of_ble_eq_true rfl, pj_T_rcv iG6 rfl⟩ ⟨rfl, rfl⟩ (pj_Y_up (by decide) (ct_174x G6 iG6 v1.toInt64 (by omega))) ?_
        rintro _ G10 ⟨rfl, iG10, jG10, eG10, fy9⟩
        replace eG10 := eG10 _ rfl
        have kG10 : pj_kpt kc_247 G0 G10 := pj_kpt_t kG6 (pj_kpt_s jG10 rfl)
        obtain ⟨y11, hy11⟩ : ∃ z : Int32, z = pj_fi G10 171 1 := ⟨_, rfl⟩
        have ey11 : (pj_fi G10 171 1).toInt = y11.toInt := by rw [hy11]
        have ry11 : (0 : Int) ≤ y11.toInt ∧ y11.toInt ≤ 24 := by rw [hy11]; exact iG10.2.1 171 1 (0, 24) rfl
        show pj_X _ _ G10 83 [(0, .ref 171), (1, .int v1), (2, .int v2)] [] _
        refine pj_X_of (fun r h => pj_R_to (G10, 84, [(0, .ref 171), (1, .int v1), (2, .int v2)], [.int v1], 0, 0) 84 2 (fun _ => rfl) h) ?_
        have q12 : (pj_fi G10 171 1).toInt = y11.toInt := by rw [show pj_fi G10 171 1 = y11 from hy11.symm]
        refine pj_X_ca (vs := [.int v1]) rfl (fun _ => rfl) ⟨Nat.le_of_ble_eq_true rfl, Nat.le_of_ble_eq_true rfl, rfl⟩ ⟨rfl, rfl⟩ (pj_Y_up (by decide) (ct_287 G10 iG10 v1)) ?_
        rintro _ _ ⟨y13, rfl, rfl, ry13⟩
        show pj_X _ _ G10 87 [(0, .ref 171), (1, .int v1), (2, .int v2)] [.int y13] _
        have q14 : (pj_fi G10 171 1).toInt = y11.toInt := by rw [show pj_fi G10 171 1 = y11 from hy11.symm]
        exact pj_X_rt rfl rfl ⟨_, rfl, iG10, kG10, pj_i32 _⟩
      | false =>
        have ub5 := pj_u0_geF b5
        refine pj_X_of (fun r h => pj_R_ifF rfl b5 h) ?_
        refine pj_X_of (fun r h => pj_R_to (G, 71, [(0, .ref 171), (1, .int v1), (2, .int v2)], [.int ((Int8.ofInt (-2)).toInt32)], 0, 0) 71 2 (fun _ => rfl) h) ?_
        have q15 : (pj_fi G 171 1).toInt = y1.toInt := by rw [show pj_fi G 171 1 = y1 from hy1.symm]
        exact pj_X_rt rfl rfl ⟨_, rfl, hI, hK, pj_i32 _⟩
    | false =>
      have ub4 := pj_u_gtF b4
      refine pj_X_of (fun r h => pj_R_icF rfl b4 h) ?_
      refine pj_X_of (fun r h => pj_R_to (G, 13, [(0, .ref 171), (1, .int v1), (2, .int v2)], [.int v1], 0, 0) 13 2 (fun _ => rfl) h) ?_
      cases b16 : pj_c1 .lt v1 0 with
      | true =>
        have ub16 := pj_u0_ltT b16
        refine pj_X_of (fun r h => pj_R_ifT 27 rfl rfl b16 h) ?_
        refine pj_X_of (fun r h => pj_R_to (G, 34, [(3, .int (Int32.ofInt 1)), (0, .ref 171), (1, .int v1), (2, .int v2)], [.int (Int32.ofInt 1)], 0, 0) 34 5 (fun _ => rfl) h) ?_
        refine pj_X_of (fun r h => pj_R_ifF rfl (pj_b0_eqF (by omega)) h) ?_
        refine pj_X_of (fun r h => pj_R_to (G, 39, [(3, .int (Int32.ofInt 1)), (0, .ref 171), (1, .int v1), (2, .int v2)], [.int v2, .ref 171], 0, 0) 39 3 (fun _ => rfl) h) ?_
        have q17 : (pj_fi G 171 1).toInt = y1.toInt := by rw [show pj_fi G 171 1 = y1 from hy1.symm]
        refine pj_X_ca (vs := [.ref 171, .int v2]) rfl (fun _ => rfl) ⟨Nat.le_of_ble_eq_true rfl, Nat.le_of_ble_eq_true rfl, pj_T_rcv hI rfl⟩ ⟨rfl, rfl⟩ (pj_Y_up (by decide) (ct_246 G hI v2)) ?_
        rintro _ _ ⟨y18, rfl, rfl, ry18⟩
        show pj_X _ _ G 42 [(3, .int (Int32.ofInt 1)), (0, .ref 171), (1, .int v1), (2, .int v2)] [.int y18] _
        cases b19 : pj_c1 .eq y18 0 with
        | true =>
          have ub19 := pj_u0_eqT b19
          refine pj_X_of (fun r h => pj_R_ifT 57 rfl rfl b19 h) ?_
          refine pj_X_of (fun r h => pj_R_to (G, 62, [(2, .int (v2 + Int32.ofInt 1)), (1, .int v1), (3, .int (Int32.ofInt 1)), (0, .ref 171)], [], 0, 0) 62 4 (fun _ => rfl) h) ?_
          obtain ⟨z20, hz20⟩ : ∃ z : Int32, z = v2 + Int32.ofInt 1 := ⟨_, rfl⟩
          rw [← hz20]
          have fz20_0 : z20.toInt = v2.toInt + (Int32.ofInt 1).toInt := by rw [hz20]; exact pj_addI (by have := pj_i32 v2; have := pj_i32 (Int32.ofInt 1); omega) (by have := pj_i32 v2; have := pj_i32 (Int32.ofInt 1); omega)
          refine pj_X_of (fun r h => pj_R_to (G, 4, [(2, .int z20), (1, .int v1), (3, .int (Int32.ofInt 1)), (0, .ref 171)], [], 0, 0) 4 2 (fun _ => rfl) h) ?_
          have q21 : (pj_fi G 171 1).toInt = y1.toInt := by rw [show pj_fi G 171 1 = y1 from hy1.symm]
          exact pj_X_sub [(0, .ref 171), (1, .int v1), (2, .int z20)] (show List.Nodup [0, 1, 2] by decide) ⟨rfl, rfl, rfl, trivial⟩ (ih G hI hK v1 z20 (pj_i32 _) ⟨by omega, by omega⟩ (by omega))
        | false =>
          have ub19 := pj_u0_eqF b19
          refine pj_X_of (fun r h => pj_R_ifF rfl b19 h) ?_
          refine pj_X_of (fun r h => pj_R_to (G, 47, [(3, .int (Int32.ofInt 1)), (0, .ref 171), (1, .int v1), (2, .int v2)], [.int v2, .ref 171], 0, 0) 47 3 (fun _ => rfl) h) ?_
          have q22 : (pj_fi G 171 1).toInt = y1.toInt := by rw [show pj_fi G 171 1 = y1 from hy1.symm]
          refine pj_X_ca (vs := [.ref 171, .int v2]) rfl (fun _ => rfl) ⟨Nat.le_of_ble_eq_true rfl, Nat.le_of_ble_eq_true rfl, pj_T_rcv hI rfl⟩ ⟨rfl, rfl⟩ (pj_Y_up (by decide) (ct_243 G hI v2)) ?_
          rintro _ _ ⟨y23, rfl, rfl, ry23⟩
          show pj_X _ _ G 50 [(3, .int (Int32.ofInt 1)), (0, .ref 171), (1, .int v1), (2, .int v2)] [.int y23] _
          cases b24 : pj_c1 .eq y23 0 with
          | true =>
            have ub24 := pj_u0_eqT b24
            refine pj_X_of (fun r h => pj_R_ifT 57 rfl rfl b24 h) ?_
            refine pj_X_of (fun r h => pj_R_to (G, 62, [(2, .int (v2 + Int32.ofInt 1)), (1, .int v1), (3, .int (Int32.ofInt 1)), (0, .ref 171)], [], 0, 0) 62 4 (fun _ => rfl) h) ?_
            obtain ⟨z25, hz25⟩ : ∃ z : Int32, z = v2 + Int32.ofInt 1 := ⟨_, rfl⟩
            rw [← hz25]
            have fz25_0 : z25.toInt = v2.toInt + (Int32.ofInt 1).toInt := by rw [hz25]; exact pj_addI (by have := pj_i32 v2; have := pj_i32 (Int32.ofInt 1); omega) (by have := pj_i32 v2; have := pj_i32 (Int32.ofInt 1); omega)
            refine pj_X_of (fun r h => pj_R_to (G, 4, [(2, .int z25), (1, .int v1), (3, .int (Int32.ofInt 1)), (0, .ref 171)], [], 0, 0) 4 2 (fun _ => rfl) h) ?_
            have q26 : (pj_fi G 171 1).toInt = y1.toInt := by rw [show pj_fi G 171 1 = y1 from hy1.symm]
            exact pj_X_sub [(0, .ref 171), (1, .int v1), (2, .int z25)] (show List.Nodup [0, 1, 2] by decide) ⟨rfl, rfl, rfl, trivial⟩ (ih G hI hK v1 z25 (pj_i32 _) ⟨by omega, by omega⟩ (by omega))
          | false =>
            have ub24 := pj_u0_eqF b24
            refine pj_X_of (fun r h => pj_R_ifF rfl b24 h) ?_
            refine pj_X_of (fun r h => pj_R_to (G, 62, [(2, .int (v2 + Int32.ofInt 1)), (1, .int v2), (3, .int (Int32.ofInt 1)), (0, .ref 171)], [], 0, 0) 62 5 (fun _ => rfl) h) ?_
            obtain ⟨z27, hz27⟩ : ∃ z : Int32, z = v2 + Int32.ofInt 1 := ⟨_, rfl⟩
            rw [← hz27]
            have fz27_0 : z27.toInt = v2.toInt + (Int32.ofInt 1).toInt := by rw [hz27]; exact pj_addI (by have := pj_i32 v2; have := pj_i32 (Int32.ofInt 1); omega) (by have := pj_i32 v2; have := pj_i32 (Int32.ofInt 1); omega)
            refine pj_X_of (fun r h => pj_R_to (G, 4, [(2, .int z27), (1, .int v2), (3, .int (Int32.ofInt 1)), (0, .ref 171)], [], 0, 0) 4 2 (fun _ => rfl) h) ?_
            have q28 : (pj_fi G 171 1).toInt = y1.toInt := by rw [show pj_fi G 171 1 = y1 from hy1.symm]
            exact pj_X_sub [(0, .ref 171), (1, .int v2), (2, .int z27)] (show List.Nodup [0, 1, 2] by decide) ⟨rfl, rfl, rfl, trivial⟩ (ih G hI hK v2 z27 (pj_i32 _) ⟨by omega, by omega⟩ (by omega))
      | false =>
        have ub16 := pj_u0_ltF b16
        refine pj_X_of (fun r h => pj_R_ifF rfl b16 h) ?_
        refine pj_X_of (fun r h => pj_R_to (G, 17, [(0, .ref 171), (1, .int v1), (2, .int v2)], [.int v2], 0, 0) 17 2 (fun _ => rfl) h) ?_
        have q29 : (pj_fi G 171 1).toInt = y1.toInt := by rw [show pj_fi G 171 1 = y1 from hy1.symm]
        refine pj_X_ca (vs := [.int v2]) rfl (fun _ => rfl) ⟨Nat.le_of_ble_eq_true rfl, Nat.le_of_ble_eq_true rfl, rfl⟩ ⟨rfl, rfl⟩ (pj_Y_up (by decide) (ct_287 G hI v2)) ?_
        rintro _ _ ⟨y30, rfl, rfl, ry30⟩
        show pj_X _ _ G 20 [(0, .ref 171), (1, .int v1), (2, .int v2)] [.int y30] _
        refine pj_X_of (fun r h => pj_R_to (G, 21, [(0, .ref 171), (1, .int v1), (2, .int v2)], [.int v1, .int y30], 0, 0) 21 2 (fun _ => rfl) h) ?_
        have q31 : (pj_fi G 171 1).toInt = y1.toInt := by rw [show pj_fi G 171 1 = y1 from hy1.symm]
        refine pj_X_ca (vs := [.int v1]) rfl (fun _ => rfl) ⟨Nat.le_of_ble_eq_true rfl, Nat.le_of_ble_eq_true rfl, rfl⟩ ⟨rfl, rfl⟩ (pj_Y_up (by decide) (ct_287 G hI v1)) ?_
        rintro _ _ ⟨y32, rfl, rfl, ry32⟩
        show pj_X _ _ G 24 [(0, .ref 171), (1, .int v1), (2, .int v2)] [.int y32, .int y30] _
        cases b33 : pj_c1 .ge y30 y32 with
        | true =>
          have ub33 := pj_u_geT b33
          refine pj_X_of (fun r h => pj_R_icT 31 rfl rfl b33 h) ?_
          refine pj_X_of (fun r h => pj_R_to (G, 34, [(3, .int (Int32.ofInt 0)), (0, .ref 171), (1, .int v1), (2, .int v2)], [.int (Int32.ofInt 0)], 0, 0) 34 4 (fun _ => rfl) h) ?_
          refine pj_X_of (fun r h => pj_R_ifT 57 rfl rfl (pj_b0_eqT (by omega)) h) ?_
          refine pj_X_of (fun r h => pj_R_to (G, 62, [(2, .int (v2 + Int32.ofInt 1)), (1, .int v1), (3, .int (Int32.ofInt 0)), (0, .ref 171)], [], 0, 0) 62 4 (fun _ => rfl) h) ?_
          obtain ⟨z34, hz34⟩ : ∃ z : Int32, z = v2 + Int32.ofInt 1 := ⟨_, rfl⟩
          rw [← hz34]
          have fz34_0 : z34.toInt = v2.toInt + (Int32.ofInt 1).toInt := by rw [hz34]; exact pj_addI (by have := pj_i32 v2; have := pj_i32 (Int32.ofInt 1); omega) (by have := pj_i32 v2; have := pj_i32 (Int32.ofInt 1); omega)
          refine pj_X_of (fun r h => pj_R_to (G, 4, [(2, .int z34), (1, .int v1), (3, .int (Int32.ofInt 0)), (0, .ref 171)], [], 0, 0) 4 2 (fun _ => rfl) h) ?_
          have q35 : (pj_fi G 171 1).toInt = y1.toInt := by rw [show pj_fi G 171 1 = y1 from hy1.symm]
          exact pj_X_sub [(0, .ref 171), (1, .int v1), (2, .int z34)] (show List.Nodup [0, 1, 2] by decide) ⟨rfl, rfl, rfl, trivial⟩ (ih G hI hK v1 z34 (pj_i32 _) ⟨by omega, by omega⟩ (by omega))
        | false =>
          have ub33 := pj_u_geF b33
          refine pj_X_of (fun r h => pj_R_icF rfl b33 h) ?_
          refine pj_X_of (fun r h => pj_R_to (G, 34, [(3, .int (Int32.ofInt 1)), (0, .ref 171), (1, .int v1), (2, .int v2)], [.int (Int32.ofInt 1)], 0, 0) 34 5 (fun _ => rfl) h) ?_
          refine pj_X_of (fun r h => pj_R_ifF rfl (pj_b0_eqF (by omega)) h) ?_
          refine pj_X_of (fun r h => pj_R_to (G, 39, [(3, .int (Int32.ofInt 1)), (0, .ref 171), (1, .int v1), (2, .int v2)], [.int v2, .ref 171], 0, 0) 39 3 (fun _ => rfl) h) ?_
          have q36 : (pj_fi G 171 1).toInt = y1.toInt := by rw [show pj_fi G 171 1 = y1 from hy1.symm]
          refine pj_X_ca (vs := [.ref 171, .int v2]) rfl (fun _ => rfl) ⟨Nat.le_of_ble_eq_true rfl, Nat.le_of_ble_eq_true rfl, pj_T_rcv hI rfl⟩ ⟨rfl, rfl⟩ (pj_Y_up (by decide) (ct_246 G hI v2)) ?_
          rintro _ _ ⟨y37, rfl, rfl, ry37⟩
          show pj_X _ _ G 42 [(3, .int (Int32.ofInt 1)), (0, .ref 171), (1, .int v1), (2, .int v2)] [.int y37] _
          cases b38 : pj_c1 .eq y37 0 with
          | true =>
            have ub38 := pj_u0_eqT b38
            refine pj_X_of (fun r h => pj_R_ifT 57 rfl rfl b38 h) ?_
            refine pj_X_of (fun r h => pj_R_to (G, 62, [(2, .int (v2 + Int32.ofInt 1)), (1, .int v1), (3, .int (Int32.ofInt 1)), (0, .ref 171)], [], 0, 0) 62 4 (fun _ => rfl) h) ?_
            obtain ⟨z39, hz39⟩ : ∃ z : Int32, z = v2 + Int32.ofInt 1 := ⟨_, rfl⟩
            rw [← hz39]
            have fz39_0 : z39.toInt = v2.toInt + (Int32.ofInt 1).toInt := by rw [hz39]; exact pj_addI (by have := pj_i32 v2; have := pj_i32 (Int32.ofInt 1); omega) (by have := pj_i32 v2; have := pj_i32 (Int32.ofInt 1); omega)
            refine pj_X_of (fun r h => pj_R_to (G, 4, [(2, .int z39), (1, .int v1), (3, .int (Int32.ofInt 1)), (0, .ref 171)], [], 0, 0) 4 2 (fun _ => rfl) h) ?_
            have q40 : (pj_fi G 171 1).toInt = y1.toInt := by rw [show pj_fi G 171 1 = y1 from hy1.symm]
            exact pj_X_sub [(0, .ref 171), (1, .int v1), (2, .int z39)] (show List.Nodup [0, 1, 2] by decide) ⟨rfl, rfl, rfl, trivial⟩ (ih G hI hK v1 z39 (pj_i32 _) ⟨by omega, by omega⟩ (by omega))
          | false =>
            have ub38 := pj_u0_eqF b38
            refine pj_X_of (fun r h => pj_R_ifF rfl b38 h) ?_
            refine pj_X_of (fun r h => pj_R_to (G, 47, [(3, .int (Int32.ofInt 1)), (0, .ref 171), (1, .int v1), (2, .int v2)], [.int v2, .ref 171], 0, 0) 47 3 (fun _ => rfl) h) ?_
            have q41 : (pj_fi G 171 1).toInt = y1.toInt := by rw [show pj_fi G 171 1 = y1 from hy1.symm]
            refine pj_X_ca (vs := [.ref 171, .int v2]) rfl (fun _ => rfl) ⟨Nat.le_of_ble_eq_true rfl, Nat.le_of_ble_eq_true rfl, pj_T_rcv hI rfl⟩ ⟨rfl, rfl⟩ (pj_Y_up (by decide) (ct_243 G hI v2)) ?_
            rintro _ _ ⟨y42, rfl, rfl, ry42⟩
            show pj_X _ _ G 50 [(3, .int (Int32.ofInt 1)), (0, .ref 171), (1, .int v1), (2, .int v2)] [.int y42] _
            cases b43 : pj_c1 .eq y42 0 with
            | true =>
              have ub43 := pj_u0_eqT b43
              refine pj_X_of (fun r h => pj_R_ifT 57 rfl rfl b43 h) ?_
              refine pj_X_of (fun r h => pj_R_to (G, 62, [(2, .int (v2 + Int32.ofInt 1)), (1, .int v1), (3, .int (Int32.ofInt 1)), (0, .ref 171)], [], 0, 0) 62 4 (fun _ => rfl) h) ?_
              obtain ⟨z44, hz44⟩ : ∃ z : Int32, z = v2 + Int32.ofInt 1 := ⟨_, rfl⟩
              rw [← hz44]
              have fz44_0 : z44.toInt = v2.toInt + (Int32.ofInt 1).toInt := by rw [hz44]; exact pj_addI (by have := pj_i32 v2; have := pj_i32 (Int32.ofInt 1); omega) (by have := pj_i32 v2; have := pj_i32 (Int32.ofInt 1); omega)
              refine pj_X_of (fun r h => pj_R_to (G, 4, [(2, .int z44), (1, .int v1), (3, .int (Int32.ofInt 1)), (0, .ref 171)], [], 0, 0) 4 2 (fun _ => rfl) h) ?_
              have q45 : (pj_fi G 171 1).toInt = y1.toInt := by rw [show pj_fi G 171 1 = y1 from hy1.symm]
              exact pj_X_sub [(0, .ref 171), (1, .int v1), (2, .int z44)] (show List.Nodup [0, 1, 2] by decide) ⟨rfl, rfl, rfl, trivial⟩ (ih G hI hK v1 z44 (pj_i32 _) ⟨by omega, by omega⟩ (by omega))
            | false =>
              have ub43 := pj_u0_eqF b43
              refine pj_X_of (fun r h => pj_R_ifF rfl b43 h) ?_
              refine pj_X_of (fun r h => pj_R_to (G, 62, [(2, .int (v2 + Int32.ofInt 1)), (1, .int v2), (3, .int (Int32.ofInt 1)), (0, .ref 171)], [], 0, 0) 62 5 (fun _ => rfl) h) ?_
              obtain ⟨z46, hz46⟩ : ∃ z : Int32, z = v2 + Int32.ofInt 1 := ⟨_, rfl⟩
              rw [← hz46]
              have fz46_0 : z46.toInt = v2.toInt + (Int32.ofInt 1).toInt := by rw [hz46]; exact pj_addI (by have := pj_i32 v2; have := pj_i32 (Int32.ofInt 1); omega) (by have := pj_i32 v2; have := pj_i32 (Int32.ofInt 1); omega)
              refine pj_X_of (fun r h => pj_R_to (G, 4, [(2, .int z46), (1, .int v2), (3, .int (Int32.ofInt 1)), (0, .ref 171)], [], 0, 0) 4 2 (fun _ => rfl) h) ?_
              have q47 : (pj_fi G 171 1).toInt = y1.toInt := by rw [show pj_fi G 171 1 = y1 from hy1.symm]
              exact pj_X_sub [(0, .ref 171), (1, .int v2), (2, .int z46)] (show List.Nodup [0, 1, 2] by decide) ⟨rfl, rfl, rfl, trivial⟩ (ih G hI hK v2 z46 (pj_i32 _) ⟨by omega, by omega⟩ (by omega))
theorem ct_247 (G0 : pj_G) (hI : pj_Inv G0) : pj_Y 5 247 [.ref 171] G0 (fun v G' => ∃ y : Int32, v = some (.int y) ∧ pj_Inv G' ∧ pj_kpt kc_247 G0 G' ∧ ((-2147483648 : Int) ≤ y.toInt ∧ y.toInt ≤ 2147483647)) := by
  have c0_ : ((Int8.ofInt (-2)).toInt32).toInt = -2 := by decide
  have c1_ : (Int32.ofInt (-1)).toInt = -1 := by decide
  have c2_ : (Int32.ofInt 0).toInt = 0 := by decide
  have c3_ : (Int32.ofInt 1).toInt = 1 := by decide
  refine pj_Y_X (M := pj_m247) rfl rfl (Nat.le_of_ble_eq_true rfl) ?_
  have hK : pj_kpt kc_247 G0 G0 := pj_kpt_r _ _
  show pj_X _ _ G0 0 [(0, .ref 171)] [] _
  obtain ⟨y48, hy48⟩ : ∃ z : Int32, z = pj_fi G0 171 1 := ⟨_, rfl⟩
  have ey48 : (pj_fi G0 171 1).toInt = y48.toInt := by rw [hy48]
  have ry48 : (0 : Int) ≤ y48.toInt ∧ y48.toInt ≤ 24 := by rw [hy48]; exact hI.2.1 171 1 (0, 24) rfl
  refine pj_X_of (fun r h => pj_R_to (G0, 4, [(2, .int (Int32.ofInt 0)), (1, .int (Int32.ofInt (-1))), (0, .ref 171)], [], 0, 0) 4 5 (fun _ => rfl) h) ?_
  have q49 : (pj_fi G0 171 1).toInt = y48.toInt := by rw [show pj_fi G0 171 1 = y48 from hy48.symm]
  exact pj_X_sub [(0, .ref 171), (1, .int (Int32.ofInt (-1))), (2, .int (Int32.ofInt 0))] (show List.Nodup [0, 1, 2] by decide) ⟨rfl, rfl, rfl, trivial⟩ ((lp_ct_247 G0 hI   1025) G0 hI hK (Int32.ofInt (-1)) (Int32.ofInt 0) (pj_i32 _) ⟨by omega, by omega⟩ (by omega))
def kc_249 : pj_KT := ([(171, 0), (171, 1)], [171, 172], [])
theorem lp_ct_249 (G0 : pj_G) (hI0 : pj_Inv G0) : ∀ mn : Nat, (∀ (G : pj_G) (hI : pj_Inv G) (hK : pj_kpt kc_249 G0 G) (v1 : Int32) (v2 : Int32) (v3 : Int32), ((-2147483648 : Int) ≤ v1.toInt ∧ v1.toInt ≤ 2147483647) → ((-2147483648 : Int) ≤ v2.toInt ∧ v2.toInt ≤ 2147483647) → ((0 : Int) ≤ v3.toInt ∧ v3.toInt ≤ 1024) → 1024 - v3.toInt < (mn : Int) → pj_X 4 pj_m249 G 11 [(0, .ref 171), (1, .int v1), (2, .int v2), (3, .int v3)] [] (fun v G' => ∃ y : Int32, v = some (.int y) ∧ pj_Inv G' ∧ pj_kpt kc_249 G0 G' ∧ ((-2147483648 : Int) ≤ y.toInt ∧ y.toInt ≤ 2147483647))) := by
  have c0_ : (Int32.ofInt (-1)).toInt = -1 := by decide
  have c1_ : (Int32.ofInt 0).toInt = 0 := by decide
  have c2_ : (Int32.ofInt 1).toInt = 1 := by decide
  intro mn
  induction mn with
  | zero =>
    intro G hI hK v1 v2 v3 rv1 rv2 rv3 hm
    exfalso
    omega
  | succ mn ih =>
    intro G hI hK v1 v2 v3 rv1 rv2 rv3 hm
    obtain ⟨y1, hy1⟩ : ∃ z : Int32, z = pj_fi G 171 1 := ⟨_, rfl⟩
    have ey1 : (pj_fi G 171 1).toInt = y1.toInt := by rw [hy1]
    have ry1 : (0 : Int) ≤ y1.toInt ∧ y1.toInt ≤ 24 := by rw [hy1]; exact hI.2.1 171 1 (0, 24) rfl
    refine pj_X_of (fun r h => pj_R_to (G, 13, [(0, .ref 171), (1, .int v1), (2, .int v2), (3, .int v3)], [.ref 171, .int v3], 0, 0) 13 3 (fun _ => rfl) h) ?_
    have q2 : (pj_fi G 171 1).toInt = y1.toInt := by rw [show pj_fi G 171 1 = y1 from hy1.symm]
    refine pj_X_ca (vs := [.ref 171]) rfl (fun _ => rfl) ⟨Nat.le_of_ble_eq_true rfl, Nat.le_of_ble_eq_true rfl, pj_T_rcv hI rfl⟩ ⟨rfl, rfl⟩ (pj_Y_up (by decide) (ct_244 G hI)) ?_
    rintro _ _ ⟨y3, rfl, rfl, ry3⟩
    show pj_X _ _ G 16 [(0, .ref 171), (1, .int v1), (2, .int v2), (3, .int v3)] [.int y3, .int v3] _
    cases b4 : pj_c1 .gt v3 y3 with
    | true =>
      have ub4 := pj_u_gtT b4
      refine pj_X_of (fun r h => pj_R_icT 88 rfl rfl b4 h) ?_
      refine pj_X_of (fun r h => pj_R_to (G, 90, [(0, .ref 171), (1, .int v1), (2, .int v2), (3, .int v3)], [.int (Int32.ofInt 0), .ref 171], 0, 0) 90 3 (fun _ => rfl) h) ?_
      refine pj_X_of (fun r h => pj_T_pf hI rfl rfl rfl h) ?_
      show pj_X _ _ (pj_wv G 171 1 (.int (Int32.ofInt 0))) 93 [(0, .ref 171), (1, .int v1), (2, .int v2), (3, .int v3)] [] _
      obtain ⟨G5, hG5⟩ : ∃ H, H = pj_wv G 171 1 (.int (Int32.ofInt 0)) := ⟨_, rfl⟩
      have iG5 : pj_Inv G5 := by rw [hG5]; exact pj_Inv_wi hI (ci := 12) rfl (fun q hq => by cases hq; exact ⟨by show (0 : Int) ≤ _; omega, by show _ ≤ (24 : Int); omega⟩)
      have kG5 : pj_kpt kc_249 G0 G5 := by rw [hG5]; exact pj_kpt_v hK rfl
      rw [← hG5]
      refine pj_X_of (fun r h => pj_R_to (G5, 96, [(0, .ref 171), (1, .int v1), (2, .int v2), (3, .int v3)], [.long v1.toInt64, .ref 171], 0, 0) 96 4 (fun _ => rfl) h) ?_
      have q6 : (pj_fi G5 171 1).toInt = (Int32.ofInt 0).toInt := by rw [show pj_fi G5 171 1 = Int32.ofInt 0 from by rw [hG5]; exact pj_fi_wi hI.1 (ci := 12) rfl _]
      have lc7 : (v1.toInt64).toInt = v1.toInt := Int32.toInt_toInt64 _
      refine pj_X_ca (vs := [.ref 171, .long v1.toInt64]) rfl (fun _ => rfl) ⟨Nat.le_of_ble_eq_true rfl, Nat.le_of_ble_eq_true rfl, pj_T_rcv iG5 rfl⟩ ⟨rfl, rfl⟩ (pj_Y_up (by decide) (ct_174x G5 iG5 v1.toInt64 (by omega))) ?_
      rintro _ G9 ⟨rfl, iG9, jG9, eG9, fy8⟩
      replace eG9 := eG9 _ rfl
      have kG9 : pj_kpt kc_249 G0 G9 := pj_kpt_t kG5 (pj_kpt_s jG9 rfl)
      obtain ⟨y10, hy10⟩ : ∃ z : Int32, z = pj_fi G9 171 1 := ⟨_, rfl⟩
      have ey10 : (pj_fi G9 171 1).toInt = y10.toInt := by rw [hy10]
      have ry10 : (0 : Int) ≤ y10.toInt ∧ y10.toInt ≤ 24 := by rw [hy10]; exact iG9.2.1 171 1 (0, 24) rfl
      show pj_X _ _ G9 99 [(0, .ref 171), (1, .int v1), (2, .int v2), (3, .int v3)] [] _
      refine pj_X_of (fun r h => pj_R_to (G9, 100, [(0, .ref 171), (1, .int v1), (2, .int v2), (3, .int v3)], [.int v2], 0, 0) 100 2 (fun _ => rfl) h) ?_
      have q11 : (pj_fi G9 171 1).toInt = y10.toInt := by rw [show pj_fi G9 171 1 = y10 from hy10.symm]
      exact pj_X_rt rfl rfl ⟨_, rfl, iG9, kG9, pj_i32 _⟩
    | false =>
      have ub4 := pj_u_gtF b4
      refine pj_X_of (fun r h => pj_R_icF rfl b4 h) ?_
      refine pj_X_of (fun r h => pj_R_to (G, 21, [(0, .ref 171), (1, .int v1), (2, .int v2), (3, .int v3)], [.int v3, .ref 171], 0, 0) 21 3 (fun _ => rfl) h) ?_
      have q12 : (pj_fi G 171 1).toInt = y1.toInt := by rw [show pj_fi G 171 1 = y1 from hy1.symm]
      refine pj_X_ca (vs := [.ref 171, .int v3]) rfl (fun _ => rfl) ⟨Nat.le_of_ble_eq_true rfl, Nat.le_of_ble_eq_true rfl, pj_T_rcv hI rfl⟩ ⟨rfl, rfl⟩ (pj_Y_up (by decide) (ct_243 G hI v3)) ?_
      rintro _ _ ⟨y13, rfl, rfl, ry13⟩
      show pj_X _ _ G 24 [(0, .ref 171), (1, .int v1), (2, .int v2), (3, .int v3)] [.int y13] _
      cases b14 : pj_c1 .eq y13 0 with
      | true =>
        have ub14 := pj_u0_eqT b14
        refine pj_X_of (fun r h => pj_R_ifT 82 rfl rfl b14 h) ?_
        refine pj_X_of (fun r h => pj_R_to (G, 85, [(3, .int (v3 + Int32.ofInt 1)), (0, .ref 171), (1, .int v1), (2, .int v2)], [], 0, 0) 85 2 (fun _ => rfl) h) ?_
        obtain ⟨z15, hz15⟩ : ∃ z : Int32, z = v3 + Int32.ofInt 1 := ⟨_, rfl⟩
        rw [← hz15]
        have fz15_0 : z15.toInt = v3.toInt + (Int32.ofInt 1).toInt := by rw [hz15]; exact pj_addI (by have := pj_i32 v3; have := pj_i32 (Int32.ofInt 1); omega) (by have := pj_i32 v3; have := pj_i32 (Int32.ofInt 1); omega)
        refine pj_X_of (fun r h => pj_R_to (G, 11, [(3, .int z15), (0, .ref 171), (1, .int v1), (2, .int v2)], [], 0, 0) 11 2 (fun _ => rfl) h) ?_
        have q16 : (pj_fi G 171 1).toInt = y1.toInt := by rw [show pj_fi G 171 1 = y1 from hy1.symm]
        exact pj_X_sub [(0, .ref 171), (1, .int v1), (2, .int v2), (3, .int z15)] (show List.Nodup [0, 1, 2, 3] by decide) ⟨rfl, rfl, rfl, rfl, trivial⟩ (ih G hI hK v1 v2 z15 (pj_i32 _) (pj_i32 _) ⟨by omega, by omega⟩ (by omega))
      | false =>
        have ub14 := pj_u0_eqF b14
        refine pj_X_of (fun r h => pj_R_ifF rfl b14 h) ?_
        refine pj_X_of (fun r h => pj_R_to (G, 29, [(0, .ref 171), (1, .int v1), (2, .int v2), (3, .int v3)], [.int v3, .ref 171], 0, 0) 29 3 (fun _ => rfl) h) ?_
        have q17 : (pj_fi G 171 1).toInt = y1.toInt := by rw [show pj_fi G 171 1 = y1 from hy1.symm]
        refine pj_X_ca (vs := [.ref 171, .int v3]) rfl (fun _ => rfl) ⟨Nat.le_of_ble_eq_true rfl, Nat.le_of_ble_eq_true rfl, pj_T_rcv hI rfl⟩ ⟨rfl, rfl⟩ (pj_Y_up (by decide) (ct_209 G hI v3)) ?_
        rintro _ _ ⟨y18, rfl, rfl, ry18⟩
        show pj_X _ _ G 32 [(0, .ref 171), (1, .int v1), (2, .int v2), (3, .int v3)] [.int y18] _
        refine pj_X_of (fun r h => pj_R_to (G, 37, [(4, .int y18), (0, .ref 171), (1, .int v1), (2, .int v2), (3, .int v3)], [.int v2, .int y18], 0, 0) 37 4 (fun _ => rfl) h) ?_
        cases b19 : pj_c1 .gt y18 v2 with
        | true =>
          have ub19 := pj_u_gtT b19
          refine pj_X_of (fun r h => pj_R_icT 57 rfl rfl b19 h) ?_
          refine pj_X_of (fun r h => pj_R_to (G, 66, [(5, .int (Int32.ofInt 1)), (4, .int y18), (0, .ref 171), (1, .int v1), (2, .int v2), (3, .int v3)], [.int (Int32.ofInt 1)], 0, 0) 66 5 (fun _ => rfl) h) ?_
          refine pj_X_of (fun r h => pj_R_ifF rfl (pj_b0_eqF (by omega)) h) ?_
          refine pj_X_of (fun r h => pj_R_to (G, 78, [(1, .int v3), (5, .int (Int32.ofInt 1)), (4, .int y18), (0, .ref 171), (2, .int v2), (3, .int v3)], [.int y18, .int v2], 0, 0) 78 6 (fun _ => rfl) h) ?_
          refine pj_X_of (fun r h => pj_R_mx (v := (if v2 < y18 then y18 else v2)) rfl rfl rfl (Nat.le_of_ble_eq_true rfl) h) ?_
          show pj_X _ _ G 81 [(1, .int v3), (5, .int (Int32.ofInt 1)), (4, .int y18), (0, .ref 171), (2, .int v2), (3, .int v3)] [.int (if v2 < y18 then y18 else v2)] _
          obtain ⟨z20, hz20⟩ : ∃ z : Int32, z = (if v2 < y18 then y18 else v2) := ⟨_, rfl⟩
          refine pj_X_eqi hz20.symm ?_
          have fz20_0 : v2.toInt ≤ z20.toInt ∧ y18.toInt ≤ z20.toInt ∧ (z20.toInt = v2.toInt ∨ z20.toInt = y18.toInt) := by rw [hz20]; exact pj_maxI
          refine pj_X_of (fun r h => pj_R_to (G, 85, [(3, .int (v3 + Int32.ofInt 1)), (2, .int z20), (1, .int v3), (5, .int (Int32.ofInt 1)), (4, .int y18), (0, .ref 171)], [], 0, 0) 85 3 (fun _ => rfl) h) ?_
          obtain ⟨z21, hz21⟩ : ∃ z : Int32, z = v3 + Int32.ofInt 1 := ⟨_, rfl⟩
          rw [← hz21]
          have fz21_0 : z21.toInt = v3.toInt + (Int32.ofInt 1).toInt := by rw [hz21]; exact pj_addI (by have := pj_i32 v3; have := pj_i32 (Int32.ofInt 1); omega) (by have := pj_i32 v3; have := pj_i32 (Int32.ofInt 1); omega)
          refine pj_X_of (fun r h => pj_R_to (G, 11, [(3, .int z21), (2, .int z20), (1, .int v3), (5, .int (Int32.ofInt 1)), (4, .int y18), (0, .ref 171)], [], 0, 0) 11 2 (fun _ => rfl) h) ?_
          have q22 : (pj_fi G 171 1).toInt = y1.toInt := by rw [show pj_fi G 171 1 = y1 from hy1.symm]
          exact pj_X_sub [(0, .ref 171), (1, .int v3), (2, .int z20), (3, .int z21)] (show List.Nodup [0, 1, 2, 3] by decide) ⟨rfl, rfl, rfl, rfl, trivial⟩ (ih G hI hK v3 z20 z21 (pj_i32 _) (pj_i32 _) ⟨by omega, by omega⟩ (by omega))
        | false =>
          have ub19 := pj_u_gtF b19
          refine pj_X_of (fun r h => pj_R_icF rfl b19 h) ?_
          refine pj_X_of (fun r h => pj_R_to (G, 43, [(4, .int y18), (0, .ref 171), (1, .int v1), (2, .int v2), (3, .int v3)], [.int v2, .int y18], 0, 0) 43 3 (fun _ => rfl) h) ?_
          cases b23 : pj_c1 .ne y18 v2 with
          | true =>
            have ub23 := pj_u_neT b23
            refine pj_X_of (fun r h => pj_R_icT 61 rfl rfl b23 h) ?_
            refine pj_X_of (fun r h => pj_R_to (G, 66, [(5, .int (Int32.ofInt 0)), (4, .int y18), (0, .ref 171), (1, .int v1), (2, .int v2), (3, .int v3)], [.int (Int32.ofInt 0)], 0, 0) 66 4 (fun _ => rfl) h) ?_
            refine pj_X_of (fun r h => pj_R_ifT 73 rfl rfl (pj_b0_eqT (by omega)) h) ?_
            refine pj_X_of (fun r h => pj_R_to (G, 78, [(1, .int v1), (5, .int (Int32.ofInt 0)), (4, .int y18), (0, .ref 171), (2, .int v2), (3, .int v3)], [.int y18, .int v2], 0, 0) 78 5 (fun _ => rfl) h) ?_
            refine pj_X_of (fun r h => pj_R_mx (v := (if v2 < y18 then y18 else v2)) rfl rfl rfl (Nat.le_of_ble_eq_true rfl) h) ?_
            show pj_X _ _ G 81 [(1, .int v1), (5, .int (Int32.ofInt 0)), (4, .int y18), (0, .ref 171), (2, .int v2), (3, .int v3)] [.int (if v2 < y18 then y18 else v2)] _
            obtain ⟨z24, hz24⟩ : ∃ z : Int32, z = (if v2 < y18 then y18 else v2) := ⟨_, rfl⟩
            refine pj_X_eqi hz24.symm ?_
            have fz24_0 : v2.toInt ≤ z24.toInt ∧ y18.toInt ≤ z24.toInt ∧ (z24.toInt = v2.toInt ∨ z24.toInt = y18.toInt) := by rw [hz24]; exact pj_maxI
            refine pj_X_of (fun r h => pj_R_to (G, 85, [(3, .int (v3 + Int32.ofInt 1)), (2, .int z24), (1, .int v1), (5, .int (Int32.ofInt 0)), (4, .int y18), (0, .ref 171)], [], 0, 0) 85 3 (fun _ => rfl) h) ?_
            obtain ⟨z25, hz25⟩ : ∃ z : Int32, z = v3 + Int32.ofInt 1 := ⟨_, rfl⟩
            rw [← hz25]
            have fz25_0 : z25.toInt = v3.toInt + (Int32.ofInt 1).toInt := by rw [hz25]; exact pj_addI (by have := pj_i32 v3; have := pj_i32 (Int32.ofInt 1); omega) (by have := pj_i32 v3; have := pj_i32 (Int32.ofInt 1); omega)
            refine pj_X_of (fun r h => pj_R_to (G, 11, [(3, .int z25), (2, .int z24), (1, .int v1), (5, .int (Int32.ofInt 0)), (4, .int y18), (0, .ref 171)], [], 0, 0) 11 2 (fun _ => rfl) h) ?_
            have q26 : (pj_fi G 171 1).toInt = y1.toInt := by rw [show pj_fi G 171 1 = y1 from hy1.symm]
            exact pj_X_sub [(0, .ref 171), (1, .int v1), (2, .int z24), (3, .int z25)] (show List.Nodup [0, 1, 2, 3] by decide) ⟨rfl, rfl, rfl, rfl, trivial⟩ (ih G hI hK v1 z24 z25 (pj_i32 _) (pj_i32 _) ⟨by omega, by omega⟩ (by omega))
          | false =>
            have ub23 := pj_u_neF b23
            refine pj_X_of (fun r h => pj_R_icF rfl b23 h) ?_
            refine pj_X_of (fun r h => pj_R_to (G, 47, [(4, .int y18), (0, .ref 171), (1, .int v1), (2, .int v2), (3, .int v3)], [.int v3], 0, 0) 47 2 (fun _ => rfl) h) ?_
            have q27 : (pj_fi G 171 1).toInt = y1.toInt := by rw [show pj_fi G 171 1 = y1 from hy1.symm]
            refine pj_X_ca (vs := [.int v3]) rfl (fun _ => rfl) ⟨Nat.le_of_ble_eq_true rfl, Nat.le_of_ble_eq_true rfl, rfl⟩ ⟨rfl, rfl⟩ (pj_Y_up (by decide) (ct_287 G hI v3)) ?_
            rintro _ _ ⟨y28, rfl, rfl, ry28⟩
            show pj_X _ _ G 50 [(4, .int y18), (0, .ref 171), (1, .int v1), (2, .int v2), (3, .int v3)] [.int y28] _
            refine pj_X_of (fun r h => pj_R_to (G, 51, [(4, .int y18), (0, .ref 171), (1, .int v1), (2, .int v2), (3, .int v3)], [.int v1, .int y28], 0, 0) 51 2 (fun _ => rfl) h) ?_
            have q29 : (pj_fi G 171 1).toInt = y1.toInt := by rw [show pj_fi G 171 1 = y1 from hy1.symm]
            refine pj_X_ca (vs := [.int v1]) rfl (fun _ => rfl) ⟨Nat.le_of_ble_eq_true rfl, Nat.le_of_ble_eq_true rfl, rfl⟩ ⟨rfl, rfl⟩ (pj_Y_up (by decide) (ct_287 G hI v1)) ?_
            rintro _ _ ⟨y30, rfl, rfl, ry30⟩
            show pj_X _ _ G 54 [(4, .int y18), (0, .ref 171), (1, .int v1), (2, .int v2), (3, .int v3)] [.int y30, .int y28] _
            cases b31 : pj_c1 .ge y28 y30 with
            | true =>
              have ub31 := pj_u_geT b31
              refine pj_X_of (fun r h => pj_R_icT 61 rfl rfl b31 h) ?_
              refine pj_X_of (fun r h => pj_R_to (G, 66, [(5, .int (Int32.ofInt 0)), (4, .int y18), (0, .ref 171), (1, .int v1), (2, .int v2), (3, .int v3)], [.int (Int32.ofInt 0)], 0, 0) 66 4 (fun _ => rfl) h) ?_
              refine pj_X_of (fun r h => pj_R_ifT 73 rfl rfl (pj_b0_eqT (by omega)) h) ?_
              refine pj_X_of (fun r h => pj_R_to (G, 78, [(1, .int v1), (5, .int (Int32.ofInt 0)), (4, .int y18), (0, .ref 171), (2, .int v2), (3, .int v3)], [.int y18, .int v2], 0, 0) 78 5 (fun _ => rfl) h) ?_
              refine pj_X_of (fun r h => pj_R_mx (v := (if v2 < y18 then y18 else v2)) rfl rfl rfl (Nat.le_of_ble_eq_true rfl) h) ?_
              show pj_X _ _ G 81 [(1, .int v1), (5, .int (Int32.ofInt 0)), (4, .int y18), (0, .ref 171), (2, .int v2), (3, .int v3)] [.int (if v2 < y18 then y18 else v2)] _
              obtain ⟨z32, hz32⟩ : ∃ z : Int32, z = (if v2 < y18 then y18 else v2) := ⟨_, rfl⟩
              refine pj_X_eqi hz32.symm ?_
              have fz32_0 : v2.toInt ≤ z32.toInt ∧ y18.toInt ≤ z32.toInt ∧ (z32.toInt = v2.toInt ∨ z32.toInt = y18.toInt) := by rw [hz32]; exact pj_maxI
              refine pj_X_of (fun r h => pj_R_to (G, 85, [(3, .int (v3 + Int32.ofInt 1)), (2, .int z32), (1, .int v1), (5, .int (Int32.ofInt 0)), (4, .int y18), (0, .ref 171)], [], 0, 0) 85 3 (fun _ => rfl) h) ?_
              obtain ⟨z33, hz33⟩ : ∃ z : Int32, z = v3 + Int32.ofInt 1 := ⟨_, rfl⟩
              rw [← hz33]
              have fz33_0 : z33.toInt = v3.toInt + (Int32.ofInt 1).toInt := by rw [hz33]; exact pj_addI (by have := pj_i32 v3; have := pj_i32 (Int32.ofInt 1); omega) (by have := pj_i32 v3; have := pj_i32 (Int32.ofInt 1); omega)
              refine pj_X_of (fun r h => pj_R_to (G, 11, [(3, .int z33), (2, .int z32), (1, .int v1), (5, .int (Int32.ofInt 0)), (4, .int y18), (0, .ref 171)], [], 0, 0) 11 2 (fun _ => rfl) h) ?_
              have q34 : (pj_fi G 171 1).toInt = y1.toInt := by rw [show pj_fi G 171 1 = y1 from hy1.symm]
              exact pj_X_sub [(0, .ref 171), (1, .int v1), (2, .int z32), (3, .int z33)] (show List.Nodup [0, 1, 2, 3] by decide) ⟨rfl, rfl, rfl, rfl, trivial⟩ (ih G hI hK v1 z32 z33 (pj_i32 _) (pj_i32 _) ⟨by omega, by omega⟩ (by omega))
            | false =>
              have ub31 := pj_u_geF b31
              refine pj_X_of (fun r h => pj_R_icF rfl b31 h) ?_
              refine pj_X_of (fun r h => pj_R_to (G, 66, [(5, .int (Int32.ofInt 1)), (4, .int y18), (0, .ref 171), (1, .int v1), (2, .int v2), (3, .int v3)], [.int (Int32.ofInt 1)], 0, 0) 66 5 (fun _ => rfl) h) ?_
              refine pj_X_of (fun r h => pj_R_ifF rfl (pj_b0_eqF (by omega)) h) ?_
              refine pj_X_of (fun r h => pj_R_to (G, 78, [(1, .int v3), (5, .int (Int32.ofInt 1)), (4, .int y18), (0, .ref 171), (2, .int v2), (3, .int v3)], [.int y18, .int v2], 0, 0) 78 6 (fun _ => rfl) h) ?_
              refine pj_X_of (fun r h => pj_R_mx (v := (if v2 < y18 then y18 else v2)) rfl rfl rfl (Nat.le_of_ble_eq_true rfl) h) ?_
              show pj_X _ _ G 81 [(1, .int v3), (5, .int (Int32.ofInt 1)), (4, .int y18), (0, .ref 171), (2, .int v2), (3, .int v3)] [.int (if v2 < y18 then y18 else v2)] _
              obtain ⟨z35, hz35⟩ : ∃ z : Int32, z = (if v2 < y18 then y18 else v2) := ⟨_, rfl⟩
              refine pj_X_eqi hz35.symm ?_
              have fz35_0 : v2.toInt ≤ z35.toInt ∧ y18.toInt ≤ z35.toInt ∧ (z35.toInt = v2.toInt ∨ z35.toInt = y18.toInt) := by rw [hz35]; exact pj_maxI
              refine pj_X_of (fun r h => pj_R_to (G, 85, [(3, .int (v3 + Int32.ofInt 1)), (2, .int z35), (1, .int v3), (5, .int (Int32.ofInt 1)), (4, .int y18), (0, .ref 171)], [], 0, 0) 85 3 (fun _ => rfl) h) ?_
              obtain ⟨z36, hz36⟩ : ∃ z : Int32, z = v3 + Int32.ofInt 1 := ⟨_, rfl⟩
              rw [← hz36]
              have fz36_0 : z36.toInt = v3.toInt + (Int32.ofInt 1).toInt := by rw [hz36]; exact pj_addI (by have := pj_i32 v3; have := pj_i32 (Int32.ofInt 1); omega) (by have := pj_i32 v3; have := pj_i32 (Int32.ofInt 1); omega)
              refine pj_X_of (fun r h => pj_R_to (G, 11, [(3, .int z36), (2, .int z35), (1, .int v3), (5, .int (Int32.ofInt 1)), (4, .int y18), (0, .ref 171)], [], 0, 0) 11 2 (fun _ => rfl) h) ?_
              have q37 : (pj_fi G 171 1).toInt = y1.toInt := by rw [show pj_fi G 171 1 = y1 from hy1.symm]
              exact pj_X_sub [(0, .ref 171), (1, .int v3), (2, .int z35), (3, .int z36)] (show List.Nodup [0, 1, 2, 3] by decide) ⟨rfl, rfl, rfl, rfl, trivial⟩ (ih G hI hK v3 z35 z36 (pj_i32 _) (pj_i32 _) ⟨by omega, by omega⟩ (by omega))
theorem ct_249 (G0 : pj_G) (hI : pj_Inv G0) : pj_Y 5 249 [.ref 171] G0 (fun v G' => ∃ y : Int32, v = some (.int y) ∧ pj_Inv G' ∧ pj_kpt kc_249 G0 G' ∧ ((-2147483648 : Int) ≤ y.toInt ∧ y.toInt ≤ 2147483647)) := by
  have c0_ : (Int32.ofInt (-1)).toInt = -1 := by decide
  have c1_ : (Int32.ofInt 0).toInt = 0 := by decide
  have c2_ : (Int32.ofInt 1).toInt = 1 := by decide
  refine pj_Y_X (M := pj_m249) rfl rfl (Nat.le_of_ble_eq_true rfl) ?_
  have hK : pj_kpt kc_249 G0 G0 := pj_kpt_r _ _
  show pj_X _ _ G0 0 [(0, .ref 171)] [] _
  obtain ⟨y38, hy38⟩ : ∃ z : Int32, z = pj_fi G0 171 1 := ⟨_, rfl⟩
  have ey38 : (pj_fi G0 171 1).toInt = y38.toInt := by rw [hy38]
  have ry38 : (0 : Int) ≤ y38.toInt ∧ y38.toInt ≤ 24 := by rw [hy38]; exact hI.2.1 171 1 (0, 24) rfl
  refine pj_X_of (fun r h => pj_R_to (G0, 2, [(0, .ref 171)], [.int (Int32.ofInt 0), .ref 171], 0, 0) 2 3 (fun _ => rfl) h) ?_
  refine pj_X_of (fun r h => pj_T_pf hI rfl rfl rfl h) ?_
  show pj_X _ _ (pj_wv G0 171 0 (.int (Int32.ofInt 0))) 5 [(0, .ref 171)] [] _
  obtain ⟨G39, hG39⟩ : ∃ H, H = pj_wv G0 171 0 (.int (Int32.ofInt 0)) := ⟨_, rfl⟩
  have iG39 : pj_Inv G39 := by rw [hG39]; exact pj_Inv_wi hI (ci := 12) rfl (fun q hq => by cases hq)
  have kG39 : pj_kpt kc_249 G0 G39 := by rw [hG39]; exact pj_kpt_v hK rfl
  rw [← hG39]
  refine pj_X_of (fun r h => pj_R_to (G39, 11, [(3, .int (Int32.ofInt 0)), (2, .int (Int32.ofInt (-1))), (1, .int (Int32.ofInt 0)), (0, .ref 171)], [], 0, 0) 11 7 (fun _ => rfl) h) ?_
  have q40 : (pj_fi G39 171 1).toInt = y38.toInt := by rw [show pj_fi G39 171 1 = y38 from by rw [hG39, pj_fi_wv_ne _ _ _ _ _ _ (by decide)]; exact hy38.symm]
  exact pj_X_sub [(0, .ref 171), (1, .int (Int32.ofInt 0)), (2, .int (Int32.ofInt (-1))), (3, .int (Int32.ofInt 0))] (show List.Nodup [0, 1, 2, 3] by decide) ⟨rfl, rfl, rfl, rfl, trivial⟩ ((lp_ct_249 G0 hI   1025) G39 iG39 kG39 (Int32.ofInt 0) (Int32.ofInt (-1)) (Int32.ofInt 0) (pj_i32 _) (pj_i32 _) ⟨by omega, by omega⟩ (by omega))
def kc_250 : pj_KT := ([(171, 0), (171, 1), (171, 16), (171, 17), (171, 18), (171, 19), (171, 23), (171, 44)], [171, 172, 192, 193], [192, 193])
theorem lp_ct_250 (G0 : pj_G) (hI0 : pj_Inv G0) : ∀ mn : Nat, (∀ (G : pj_G) (hI : pj_Inv G) (hK : pj_kpt kc_250 G0 G) (v1 : Int32) (v2 : Int32), ((0 : Int) ≤ v1.toInt ∧ v1.toInt ≤ 8) → ((0 : Int) ≤ v2.toInt ∧ v2.toInt ≤ 1) → 8 - v1.toInt < (mn : Int) → pj_X 6 pj_m250 G 16 [(0, .ref 171), (1, .int v1), (2, .int v2)] [] (fun v G' => ∃ y : Int32, v = some (.int y) ∧ pj_Inv G' ∧ pj_kpt kc_250 G0 G' ∧ ((-2147483648 : Int) ≤ y.toInt ∧ y.toInt ≤ 2147483647))) := by
  have c0_ : ((Int8.ofInt 44).toInt32).toInt = 44 := by decide
  have c1_ : ((Int8.ofInt 8).toInt32).toInt = 8 := by decide
  have c2_ : ((Int8.ofInt 80).toInt32).toInt = 80 := by decide
  have c3_ : (Int32.ofInt (-1)).toInt = -1 := by decide
  have c4_ : (Int32.ofInt 0).toInt = 0 := by decide
  have c5_ : (Int32.ofInt 1).toInt = 1 := by decide
  intro mn
  induction mn with
  | zero =>
    intro G hI hK v1 v2 rv1 rv2 hm
    exfalso
    omega
  | succ mn ih =>
    intro G hI hK v1 v2 rv1 rv2 hm
    obtain ⟨y1, hy1⟩ : ∃ z : Int32, z = pj_fi G 171 23 := ⟨_, rfl⟩
    have ey1 : (pj_fi G 171 23).toInt = y1.toInt := by rw [hy1]
    have ry1 : (-1 : Int) ≤ y1.toInt ∧ y1.toInt ≤ 7 := by rw [hy1]; exact hI.2.1 171 23 (-1, 7) rfl
    refine pj_X_of (fun r h => pj_R_to (G, 17, [(0, .ref 171), (1, .int v1), (2, .int v2)], [.int v2], 0, 0) 17 2 (fun _ => rfl) h) ?_
    cases b2 : pj_c1 .eq v2 0 with
    | true =>
      have ub2 := pj_u0_eqT b2
      refine pj_X_of (fun r h => pj_R_ifT 80 rfl rfl b2 h) ?_
      refine pj_X_of (fun r h => pj_R_to (G, 81, [(0, .ref 171), (1, .int v1), (2, .int v2)], [.ref 171], 0, 0) 81 2 (fun _ => rfl) h) ?_
      refine pj_X_of (fun r h => pj_T_gi hI rfl rfl h) ?_
      show pj_X _ _ G 84 [(0, .ref 171), (1, .int v1), (2, .int v2)] [.int (pj_fi G 171 17)] _
      obtain ⟨y3, hy3⟩ : ∃ z : Int32, z = pj_fi G 171 17 := ⟨_, rfl⟩
      refine pj_X_eqi hy3.symm ?_
      have ey3 : (pj_fi G 171 17).toInt = y3.toInt := by rw [hy3]
      have ry3 : (0 : Int) ≤ y3.toInt ∧ y3.toInt ≤ 80 := by rw [hy3]; exact hI.2.1 171 17 (0, 80) rfl
      refine pj_X_of (fun r h => pj_R_to (G, 85, [(0, .ref 171), (1, .int v1), (2, .int v2)], [.ref 171, .int y3], 0, 0) 85 2 (fun _ => rfl) h) ?_
      refine pj_X_of (fun r h => pj_T_gi hI rfl rfl h) ?_
      show pj_X _ _ G 88 [(0, .ref 171), (1, .int v1), (2, .int v2)] [.int (pj_fi G 171 18), .int y3] _
      obtain ⟨y4, hy4⟩ : ∃ z : Int32, z = pj_fi G 171 18 := ⟨_, rfl⟩
      refine pj_X_eqi hy4.symm ?_
      have ey4 : (pj_fi G 171 18).toInt = y4.toInt := by rw [hy4]
      have ry4 : (0 : Int) ≤ y4.toInt ∧ y4.toInt ≤ 80 := by rw [hy4]; exact hI.2.1 171 18 (0, 80) rfl
      cases b5 : pj_c1 .ge y3 y4 with
      | true =>
        have ub5 := pj_u_geT b5
        refine pj_X_of (fun r h => pj_R_icT 98 rfl rfl b5 h) ?_
        refine pj_X_of (fun r h => pj_R_to (G, 100, [(0, .ref 171), (1, .int v1), (2, .int v2)], [.int v1, .ref 171], 0, 0) 100 3 (fun _ => rfl) h) ?_
        refine pj_X_of (fun r h => pj_T_pf hI rfl rfl rfl h) ?_
        show pj_X _ _ (pj_wv G 171 44 (.int v1)) 103 [(0, .ref 171), (1, .int v1), (2, .int v2)] [] _
        obtain ⟨G6, hG6⟩ : ∃ H, H = pj_wv G 171 44 (.int v1) := ⟨_, rfl⟩
        have iG6 : pj_Inv G6 := by rw [hG6]; exact pj_Inv_wi hI (ci := 12) rfl (fun q hq => by cases hq; exact ⟨by show (0 : Int) ≤ _; omega, by show _ ≤ (16 : Int); omega⟩)
        have kG6 : pj_kpt kc_250 G0 G6 := by rw [hG6]; exact pj_kpt_v hK rfl
        rw [← hG6]
        refine pj_X_of (fun r h => pj_R_to (G6, 104, [(0, .ref 171), (1, .int v1), (2, .int v2)], [.ref 171], 0, 0) 104 2 (fun _ => rfl) h) ?_
        have q7 : (pj_fi G6 171 23).toInt = y1.toInt := by rw [show pj_fi G6 171 23 = y1 from by rw [hG6, pj_fi_wv_ne _ _ _ _ _ _ (by decide)]; exact hy1.symm]
        refine pj_X_ca (vs := [.ref 171]) rfl (fun _ => rfl) ⟨Nat.le_of_ble_eq_true rfl, Nat.le_of_ble_eq_true rfl, pj_T_rcv iG6 rfl⟩ ⟨rfl, rfl⟩ (pj_Y_up (by decide) (ct_247 G6 iG6)) ?_
        rintro _ G9 ⟨y8, rfl, iG9, jG9, ry8⟩
        have kG9 : pj_kpt kc_250 G0 G9 := pj_kpt_t kG6 (pj_kpt_s jG9 rfl)
        have q10 : (pj_fi G9 171 23).toInt = (pj_fi G6 171 23).toInt := by rw [jG9.1 (171, 23) (by decide)]
        obtain ⟨y11, hy11⟩ : ∃ z : Int32, z = pj_fi G9 171 23 := ⟨_, rfl⟩
        have ey11 : (pj_fi G9 171 23).toInt = y11.toInt := by rw [hy11]
        have ry11 : (-1 : Int) ≤ y11.toInt ∧ y11.toInt ≤ 7 := by rw [hy11]; exact iG9.2.1 171 23 (-1, 7) rfl
        show pj_X _ _ G9 107 [(0, .ref 171), (1, .int v1), (2, .int v2)] [.int y8] _
        have q12 : (pj_fi G9 171 23).toInt = y11.toInt := by rw [show pj_fi G9 171 23 = y11 from hy11.symm]
        exact pj_X_rt rfl rfl ⟨_, rfl, iG9, kG9, pj_i32 _⟩
      | false =>
        have ub5 := pj_u_geF b5
        refine pj_X_of (fun r h => pj_R_icF rfl b5 h) ?_
        refine pj_X_of (fun r h => pj_R_to (G, 93, [(0, .ref 171), (1, .int v1), (2, .int v2)], [.ref 171, .int (Int32.ofInt (-1))], 0, 0) 93 3 (fun _ => rfl) h) ?_
        refine pj_X_of (fun r h => pj_T_gi hI rfl rfl h) ?_
        show pj_X _ _ G 96 [(0, .ref 171), (1, .int v1), (2, .int v2)] [.int (pj_fi G 171 17), .int (Int32.ofInt (-1))] _
        refine pj_X_eqi (show pj_fi G 171 17 = y3 from hy3.symm) ?_
        refine pj_X_of (fun r h => pj_R_to (G, 97, [(0, .ref 171), (1, .int v1), (2, .int v2)], [.int ((Int32.ofInt (-1)) - y3)], 0, 0) 97 2 (fun _ => rfl) h) ?_
        obtain ⟨z13, hz13⟩ : ∃ z : Int32, z = (Int32.ofInt (-1)) - y3 := ⟨_, rfl⟩
        refine pj_X_eqi hz13.symm ?_
        have fz13_0 : z13.toInt = (Int32.ofInt (-1)).toInt - y3.toInt := by rw [hz13]; exact pj_subI (by have := pj_i32 (Int32.ofInt (-1)); have := pj_i32 y3; omega) (by have := pj_i32 (Int32.ofInt (-1)); have := pj_i32 y3; omega)
        have q14 : (pj_fi G 171 23).toInt = y1.toInt := by rw [show pj_fi G 171 23 = y1 from hy1.symm]
        exact pj_X_rt rfl rfl ⟨_, rfl, hI, hK, pj_i32 _⟩
    | false =>
      have ub2 := pj_u0_eqF b2
      refine pj_X_of (fun r h => pj_R_ifF rfl b2 h) ?_
      refine pj_X_of (fun r h => pj_R_to (G, 23, [(0, .ref 171), (1, .int v1), (2, .int v2)], [.int ((Int8.ofInt 8).toInt32), .int v1], 0, 0) 23 3 (fun _ => rfl) h) ?_
      cases b15 : pj_c1 .ge v1 ((Int8.ofInt 8).toInt32) with
      | true =>
        have ub15 := pj_u_geT b15
        refine pj_X_of (fun r h => pj_R_icT 37 rfl rfl b15 h) ?_
        refine pj_X_of (fun r h => pj_R_to (G, 40, [(3, .int (Int32.ofInt (-1))), (0, .ref 171), (1, .int v1), (2, .int v2)], [.int (Int32.ofInt (-1))], 0, 0) 40 4 (fun _ => rfl) h) ?_
        refine pj_X_of (fun r h => pj_R_ifF rfl (pj_b0_geF (by omega)) h) ?_
        refine pj_X_of (fun r h => pj_R_to (G, 45, [(3, .int (Int32.ofInt (-1))), (0, .ref 171), (1, .int v1), (2, .int v2)], [.ref 171, .int (Int32.ofInt (-1))], 0, 0) 45 3 (fun _ => rfl) h) ?_
        refine pj_X_of (fun r h => pj_T_gi hI rfl rfl h) ?_
        show pj_X _ _ G 48 [(3, .int (Int32.ofInt (-1))), (0, .ref 171), (1, .int v1), (2, .int v2)] [.int (pj_fi G 171 17), .int (Int32.ofInt (-1))] _
        obtain ⟨y16, hy16⟩ : ∃ z : Int32, z = pj_fi G 171 17 := ⟨_, rfl⟩
        refine pj_X_eqi hy16.symm ?_
        have ey16 : (pj_fi G 171 17).toInt = y16.toInt := by rw [hy16]
        have ry16 : (0 : Int) ≤ y16.toInt ∧ y16.toInt ≤ 80 := by rw [hy16]; exact hI.2.1 171 17 (0, 80) rfl
        refine pj_X_of (fun r h => pj_R_to (G, 49, [(3, .int (Int32.ofInt (-1))), (0, .ref 171), (1, .int v1), (2, .int v2)], [.int ((Int32.ofInt (-1)) - y16)], 0, 0) 49 2 (fun _ => rfl) h) ?_
        obtain ⟨z17, hz17⟩ : ∃ z : Int32, z = (Int32.ofInt (-1)) - y16 := ⟨_, rfl⟩
        refine pj_X_eqi hz17.symm ?_
        have fz17_0 : z17.toInt = (Int32.ofInt (-1)).toInt - y16.toInt := by rw [hz17]; exact pj_subI (by have := pj_i32 (Int32.ofInt (-1)); have := pj_i32 y16; omega) (by have := pj_i32 (Int32.ofInt (-1)); have := pj_i32 y16; omega)
        have q18 : (pj_fi G 171 23).toInt = y1.toInt := by rw [show pj_fi G 171 23 = y1 from hy1.symm]
        exact pj_X_rt rfl rfl ⟨_, rfl, hI, hK, pj_i32 _⟩
      | false =>
        have ub15 := pj_u_geF b15
        refine pj_X_of (fun r h => pj_R_icF rfl b15 h) ?_
        refine pj_X_of (fun r h => pj_R_to (G, 28, [(0, .ref 171), (1, .int v1), (2, .int v2)], [.ref 171, .ref 171], 0, 0) 28 3 (fun _ => rfl) h) ?_
        refine pj_X_of (fun r h => pj_T_gi hI rfl rfl h) ?_
        show pj_X _ _ G 31 [(0, .ref 171), (1, .int v1), (2, .int v2)] [.int (pj_fi G 171 3), .ref 171] _
        obtain ⟨y19, hy19⟩ : ∃ z : Int32, z = pj_fi G 171 3 := ⟨_, rfl⟩
        refine pj_X_eqi hy19.symm ?_
        have ey19 : (pj_fi G 171 3).toInt = y19.toInt := by rw [hy19]
        have ry19 : (0 : Int) ≤ y19.toInt ∧ y19.toInt ≤ 8 := by rw [hy19]; exact hI.2.1 171 3 (0, 8) rfl
        have q20 : (pj_fi G 171 23).toInt = y1.toInt := by rw [show pj_fi G 171 23 = y1 from hy1.symm]
        refine pj_X_ca (vs := [.ref 171, .int y19]) rfl (fun _ => rfl) ⟨Nat.le_of_ble_eq_true rfl, Nat.le_of_ble_eq_true rfl, pj_T_rcv hI rfl⟩ ⟨rfl, rfl⟩ (pj_Y_up (by decide) (ct_189 G hI y19 ⟨by omega, by omega⟩)) ?_
        rintro _ G22 ⟨y21, rfl, iG22, jG22, ry21, ey21⟩
        have kG22 : pj_kpt kc_250 G0 G22 := pj_kpt_t hK (pj_kpt_s jG22 rfl)
        obtain ⟨y23, hy23⟩ : ∃ z : Int32, z = pj_fi G22 171 23 := ⟨_, rfl⟩
        have ey23 : (pj_fi G22 171 23).toInt = y23.toInt := by rw [hy23]
        have ry23 : (-1 : Int) ≤ y23.toInt ∧ y23.toInt ≤ 7 := by rw [hy23]; exact iG22.2.1 171 23 (-1, 7) rfl
        show pj_X _ _ G22 34 [(0, .ref 171), (1, .int v1), (2, .int v2)] [.int y21] _
        refine pj_X_of (fun r h => pj_R_to (G22, 40, [(3, .int y21), (0, .ref 171), (1, .int v1), (2, .int v2)], [.int y21], 0, 0) 40 4 (fun _ => rfl) h) ?_
        cases b24 : pj_c1 .ge y21 0 with
        | true =>
          have ub24 := pj_u0_geT b24
          refine pj_X_of (fun r h => pj_R_ifT 50 rfl rfl b24 h) ?_
          refine pj_X_of (fun r h => pj_R_to (G22, 51, [(3, .int y21), (0, .ref 171), (1, .int v1), (2, .int v2)], [.ref 171], 0, 0) 51 2 (fun _ => rfl) h) ?_
          refine pj_X_of (fun r h => pj_T_gr iG22 rfl rfl rfl h) ?_
          refine pj_X_of (fun r h => pj_R_to (G22, 56, [(3, .int y21), (0, .ref 171), (1, .int v1), (2, .int v2)], [.ref 171, .int v1, .ref 192], 0, 0) 56 3 (fun _ => rfl) h) ?_
          refine pj_X_of (fun r h => pj_T_gi iG22 rfl rfl h) ?_
          show pj_X _ _ G22 59 [(3, .int y21), (0, .ref 171), (1, .int v1), (2, .int v2)] [.int (pj_fi G22 171 23), .int v1, .ref 192] _
          refine pj_X_eqi (show pj_fi G22 171 23 = y23 from hy23.symm) ?_
          refine pj_X_of (fun r h => pj_T_is iG22 rfl rfl (by omega) (by omega) h) ?_
          show pj_X _ _ (pj_wa G22 192 v1.toInt.toNat y23) 60 [(3, .int y21), (0, .ref 171), (1, .int v1), (2, .int v2)] [] _
          obtain ⟨G25, hG25⟩ : ∃ H, H = pj_wa G22 192 v1.toInt.toNat y23 := ⟨_, rfl⟩
          have iG25 : pj_Inv G25 := by rw [hG25]; exact pj_Inv_wa iG22 rfl (fun q hq => by cases hq) (fun n hn => by cases hn)
          have kG25 : pj_kpt kc_250 G0 G25 := by rw [hG25]; exact pj_kpt_a kG22 rfl
          rw [← hG25]
          refine pj_X_of (fun r h => pj_R_to (G25, 61, [(3, .int y21), (0, .ref 171), (1, .int v1), (2, .int v2)], [.ref 171], 0, 0) 61 2 (fun _ => rfl) h) ?_
          refine pj_X_of (fun r h => pj_T_gr iG25 rfl rfl rfl h) ?_
          refine pj_X_of (fun r h => pj_R_to (G25, 66, [(3, .int y21), (0, .ref 171), (1, .int v1), (2, .int v2)], [.int y21, .int v1, .ref 193], 0, 0) 66 3 (fun _ => rfl) h) ?_
          refine pj_X_of (fun r h => pj_T_is iG25 rfl rfl (by omega) (by omega) h) ?_
          show pj_X _ _ (pj_wa G25 193 v1.toInt.toNat y21) 67 [(3, .int y21), (0, .ref 171), (1, .int v1), (2, .int v2)] [] _
          obtain ⟨G26, hG26⟩ : ∃ H, H = pj_wa G25 193 v1.toInt.toNat y21 := ⟨_, rfl⟩
          have iG26 : pj_Inv G26 := by rw [hG26]; exact pj_Inv_wa iG25 rfl (fun q hq => by cases hq) (fun n hn => by cases hn)
          have kG26 : pj_kpt kc_250 G0 G26 := by rw [hG26]; exact pj_kpt_a kG25 rfl
          rw [← hG26]
          refine pj_X_of (fun r h => pj_R_to (G26, 70, [(1, .int (v1 + Int32.ofInt 1)), (3, .int y21), (0, .ref 171), (2, .int v2)], [], 0, 0) 70 2 (fun _ => rfl) h) ?_
          obtain ⟨z27, hz27⟩ : ∃ z : Int32, z = v1 + Int32.ofInt 1 := ⟨_, rfl⟩
          rw [← hz27]
          have fz27_0 : z27.toInt = v1.toInt + (Int32.ofInt 1).toInt := by rw [hz27]; exact pj_addI (by have := pj_i32 v1; have := pj_i32 (Int32.ofInt 1); omega) (by have := pj_i32 v1; have := pj_i32 (Int32.ofInt 1); omega)
          refine pj_X_of (fun r h => pj_R_to (G26, 73, [(1, .int z27), (3, .int y21), (0, .ref 171), (2, .int v2)], [.int ((Int8.ofInt 44).toInt32), .ref 171], 0, 0) 73 3 (fun _ => rfl) h) ?_
          have q28 : (pj_fi G26 171 23).toInt = y23.toInt := by rw [show pj_fi G26 171 23 = y23 from by rw [hG26, pj_fi_wa]; exact (by rw [hG25, pj_fi_wa]; exact hy23.symm)]
          refine pj_X_ca (vs := [.ref 171, .int ((Int8.ofInt 44).toInt32)]) rfl (fun _ => rfl) ⟨Nat.le_of_ble_eq_true rfl, Nat.le_of_ble_eq_true rfl, pj_T_rcv iG26 rfl⟩ ⟨rfl, rfl⟩ (pj_Y_up (by decide) (ct_182 G26 iG26 ((Int8.ofInt 44).toInt32) ⟨by omega, by omega⟩)) ?_
          rintro _ G30 ⟨y29, rfl, iG30, jG30, ry29, ey29⟩
          have kG30 : pj_kpt kc_250 G0 G30 := pj_kpt_t kG26 (pj_kpt_s jG30 rfl)
          have q31 : (pj_fi G30 171 23).toInt = (pj_fi G26 171 23).toInt := by rw [jG30.1 (171, 23) (by decide)]
          obtain ⟨y32, hy32⟩ : ∃ z : Int32, z = pj_fi G30 171 23 := ⟨_, rfl⟩
          have ey32 : (pj_fi G30 171 23).toInt = y32.toInt := by rw [hy32]
          have ry32 : (-1 : Int) ≤ y32.toInt ∧ y32.toInt ≤ 7 := by rw [hy32]; exact iG30.2.1 171 23 (-1, 7) rfl
          show pj_X _ _ G30 76 [(1, .int z27), (3, .int y21), (0, .ref 171), (2, .int v2)] [.int y29] _
          refine pj_X_of (fun r h => pj_R_to (G30, 16, [(2, .int y29), (1, .int z27), (3, .int y21), (0, .ref 171)], [], 0, 0) 16 3 (fun _ => rfl) h) ?_
          have q33 : (pj_fi G30 171 23).toInt = y32.toInt := by rw [show pj_fi G30 171 23 = y32 from hy32.symm]
          exact pj_X_sub [(0, .ref 171), (1, .int z27), (2, .int y29)] (show List.Nodup [0, 1, 2] by decide) ⟨rfl, rfl, rfl, trivial⟩ (ih G30 iG30 kG30 z27 y29 ⟨by omega, by omega⟩ ⟨by omega, by omega⟩ (by omega))
        | false =>
          have ub24 := pj_u0_geF b24
          refine pj_X_of (fun r h => pj_R_ifF rfl b24 h) ?_
          refine pj_X_of (fun r h => pj_R_to (G22, 45, [(3, .int y21), (0, .ref 171), (1, .int v1), (2, .int v2)], [.ref 171, .int (Int32.ofInt (-1))], 0, 0) 45 3 (fun _ => rfl) h) ?_
          refine pj_X_of (fun r h => pj_T_gi iG22 rfl rfl h) ?_
          show pj_X _ _ G22 48 [(3, .int y21), (0, .ref 171), (1, .int v1), (2, .int v2)] [.int (pj_fi G22 171 17), .int (Int32.ofInt (-1))] _
          obtain ⟨y34, hy34⟩ : ∃ z : Int32, z = pj_fi G22 171 17 := ⟨_, rfl⟩
          refine pj_X_eqi hy34.symm ?_
          have ey34 : (pj_fi G22 171 17).toInt = y34.toInt := by rw [hy34]
          have ry34 : (0 : Int) ≤ y34.toInt ∧ y34.toInt ≤ 80 := by rw [hy34]; exact iG22.2.1 171 17 (0, 80) rfl
          refine pj_X_of (fun r h => pj_R_to (G22, 49, [(3, .int y21), (0, .ref 171), (1, .int v1), (2, .int v2)], [.int ((Int32.ofInt (-1)) - y34)], 0, 0) 49 2 (fun _ => rfl) h) ?_
          obtain ⟨z35, hz35⟩ : ∃ z : Int32, z = (Int32.ofInt (-1)) - y34 := ⟨_, rfl⟩
          refine pj_X_eqi hz35.symm ?_
          have fz35_0 : z35.toInt = (Int32.ofInt (-1)).toInt - y34.toInt := by rw [hz35]; exact pj_subI (by have := pj_i32 (Int32.ofInt (-1)); have := pj_i32 y34; omega) (by have := pj_i32 (Int32.ofInt (-1)); have := pj_i32 y34; omega)
          have q36 : (pj_fi G22 171 23).toInt = y23.toInt := by rw [show pj_fi G22 171 23 = y23 from hy23.symm]
          exact pj_X_rt rfl rfl ⟨_, rfl, iG22, kG22, pj_i32 _⟩
theorem ct_250 (G0 : pj_G) (hI : pj_Inv G0) : pj_Y 7 250 [.ref 171] G0 (fun v G' => ∃ y : Int32, v = some (.int y) ∧ pj_Inv G' ∧ pj_kpt kc_250 G0 G' ∧ ((-2147483648 : Int) ≤ y.toInt ∧ y.toInt ≤ 2147483647)) := by
  have c0_ : ((Int8.ofInt 44).toInt32).toInt = 44 := by decide
  have c1_ : ((Int8.ofInt 8).toInt32).toInt = 8 := by decide
  have c2_ : ((Int8.ofInt 80).toInt32).toInt = 80 := by decide
  have c3_ : (Int32.ofInt (-1)).toInt = -1 := by decide
  have c4_ : (Int32.ofInt 0).toInt = 0 := by decide
  have c5_ : (Int32.ofInt 1).toInt = 1 := by decide
  refine pj_Y_X (M := pj_m250) rfl rfl (Nat.le_of_ble_eq_true rfl) ?_
  have hK : pj_kpt kc_250 G0 G0 := pj_kpt_r _ _
  show pj_X _ _ G0 0 [(0, .ref 171)] [] _
  obtain ⟨y37, hy37⟩ : ∃ z : Int32, z = pj_fi G0 171 23 := ⟨_, rfl⟩
  have ey37 : (pj_fi G0 171 23).toInt = y37.toInt := by rw [hy37]
  have ry37 : (-1 : Int) ≤ y37.toInt ∧ y37.toInt ≤ 7 := by rw [hy37]; exact hI.2.1 171 23 (-1, 7) rfl
  refine pj_X_of (fun r h => pj_R_to (G0, 2, [(0, .ref 171)], [.int (Int32.ofInt 0), .ref 171], 0, 0) 2 3 (fun _ => rfl) h) ?_
  refine pj_X_of (fun r h => pj_T_pf hI rfl rfl rfl h) ?_
  show pj_X _ _ (pj_wv G0 171 0 (.int (Int32.ofInt 0))) 5 [(0, .ref 171)] [] _
  obtain ⟨G38, hG38⟩ : ∃ H, H = pj_wv G0 171 0 (.int (Int32.ofInt 0)) := ⟨_, rfl⟩
  have iG38 : pj_Inv G38 := by rw [hG38]; exact pj_Inv_wi hI (ci := 12) rfl (fun q hq => by cases hq)
  have kG38 : pj_kpt kc_250 G0 G38 := by rw [hG38]; exact pj_kpt_v hK rfl
  rw [← hG38]
  refine pj_X_of (fun r h => pj_R_to (G38, 8, [(0, .ref 171)], [.int ((Int8.ofInt 80).toInt32), .ref 171], 0, 0) 8 3 (fun _ => rfl) h) ?_
  have q39 : (pj_fi G38 171 23).toInt = y37.toInt := by rw [show pj_fi G38 171 23 = y37 from by rw [hG38, pj_fi_wv_ne _ _ _ _ _ _ (by decide)]; exact hy37.symm]
  refine pj_X_ca (vs := [.ref 171, .int ((Int8.ofInt 80).toInt32)]) rfl (fun _ => rfl) ⟨Nat.le_of_ble_eq_true rfl, Nat.le_of_ble_eq_true rfl, pj_T_rcv iG38 rfl⟩ ⟨rfl, rfl⟩ (pj_Y_up (by decide) (ct_181 G38 iG38 ((Int8.ofInt 80).toInt32) ⟨by omega, by omega⟩)) ?_
  rintro _ G41 ⟨y40, rfl, iG41, jG41, ry40, ey40⟩
  have kG41 : pj_kpt kc_250 G0 G41 := pj_kpt_t kG38 (pj_kpt_s jG41 rfl)
  have q42 : (pj_fi G41 171 23).toInt = (pj_fi G38 171 23).toInt := by rw [jG41.1 (171, 23) (by decide)]
  obtain ⟨y43, hy43⟩ : ∃ z : Int32, z = pj_fi G41 171 23 := ⟨_, rfl⟩
  have ey43 : (pj_fi G41 171 23).toInt = y43.toInt := by rw [hy43]
  have ry43 : (-1 : Int) ≤ y43.toInt ∧ y43.toInt ≤ 7 := by rw [hy43]; exact iG41.2.1 171 23 (-1, 7) rfl
  show pj_X _ _ G41 11 [(0, .ref 171)] [.int y40] _
  refine pj_X_of (fun r h => pj_R_to (G41, 16, [(2, .int (Int32.ofInt 1)), (1, .int (Int32.ofInt 0)), (0, .ref 171)], [], 0, 0) 16 6 (fun _ => rfl) h) ?_
  have q44 : (pj_fi G41 171 23).toInt = y43.toInt := by rw [show pj_fi G41 171 23 = y43 from hy43.symm]
  exact pj_X_sub [(0, .ref 171), (1, .int (Int32.ofInt 0)), (2, .int (Int32.ofInt 1))] (show List.Nodup [0, 1, 2] by decide) ⟨rfl, rfl, rfl, trivial⟩ ((lp_ct_250 G0 hI   9) G41 iG41 kG41 (Int32.ofInt 0) (Int32.ofInt 1) ⟨by omega, by omega⟩ ⟨by omega, by omega⟩ (by omega))
theorem lp_ct_251 (G0 : pj_G) (hI : pj_Inv G0) (v : Int32) : ∀ mn : Nat, (∀ (v2 : Int32) (v3 : Int32) (v4 : Int32), ((0 : Int) ≤ v2.toInt ∧ v2.toInt ≤ 1023) → ((-2147483648 : Int) ≤ v3.toInt ∧ v3.toInt ≤ 2147483647) → ((0 : Int) ≤ v4.toInt ∧ v4.toInt ≤ 10) → (pj_oin G0 v3 (pj_fi G0 171 5).toInt (Int32.ofInt 0)) → 10 - v4.toInt < (mn : Int) → pj_X 1 pj_m251 G0 12 [(0, .ref 171), (1, .int v), (2, .int v2), (3, .int v3), (4, .int v4)] [] (fun v G' => ∃ y : Int32, v = some (.int y) ∧ G0 = G' ∧ ((0 : Int) ≤ y.toInt ∧ y.toInt ≤ 1023))) := by
  have c0_ : (Int32.ofInt 0).toInt = 0 := by decide
  have c1_ : (Int32.ofInt 1).toInt = 1 := by decide
  have hK : pj_kpt ([], [], []) G0 G0 := pj_kpt_r _ _
  intro mn
  induction mn with
  | zero =>
    intro v2 v3 v4 rv2 rv3 rv4 x0_ hm
    exfalso
    omega
  | succ mn ih =>
    intro v2 v3 v4 rv2 rv3 rv4 x0_ hm
    obtain ⟨y1, hy1⟩ : ∃ z : Int32, z = pj_fi G0 171 5 := ⟨_, rfl⟩
    have ey1 : (pj_fi G0 171 5).toInt = y1.toInt := by rw [hy1]
    have ry1 : (0 : Int) ≤ y1.toInt ∧ y1.toInt ≤ 6 := by rw [hy1]; exact hI.2.1 171 5 (0, 6) rfl
    refine pj_X_of (fun r h => pj_R_to (G0, 15, [(0, .ref 171), (1, .int v), (2, .int v2), (3, .int v3), (4, .int v4)], [.ref 171, .int v4], 0, 0) 15 3 (fun _ => rfl) h) ?_
    refine pj_X_of (fun r h => pj_T_gi hI rfl rfl h) ?_
    show pj_X _ _ G0 18 [(0, .ref 171), (1, .int v), (2, .int v2), (3, .int v3), (4, .int v4)] [.int (pj_fi G0 171 4), .int v4] _
    obtain ⟨y2, hy2⟩ : ∃ z : Int32, z = pj_fi G0 171 4 := ⟨_, rfl⟩
    refine pj_X_eqi hy2.symm ?_
    have ey2 : (pj_fi G0 171 4).toInt = y2.toInt := by rw [hy2]
    have ry2 : (0 : Int) ≤ y2.toInt ∧ y2.toInt ≤ 10 := by rw [hy2]; exact hI.2.1 171 4 (0, 10) rfl
    cases b3 : pj_c1 .ge v4 y2 with
    | true =>
      have ub3 := pj_u_geT b3
      refine pj_X_of (fun r h => pj_R_icT 71 rfl rfl b3 h) ?_
      refine pj_X_of (fun r h => pj_R_to (G0, 72, [(0, .ref 171), (1, .int v), (2, .int v2), (3, .int v3), (4, .int v4)], [.int v2], 0, 0) 72 2 (fun _ => rfl) h) ?_
      have q4 : (pj_fi G0 171 5).toInt = y1.toInt := by rw [show pj_fi G0 171 5 = y1 from hy1.symm]
      exact pj_X_rt rfl rfl ⟨_, rfl, rfl, ⟨by omega, by omega⟩⟩
    | false =>
      have ub3 := pj_u_geF b3
      refine pj_X_of (fun r h => pj_R_icF rfl b3 h) ?_
      refine pj_X_of (fun r h => pj_R_to (G0, 25, [(0, .ref 171), (1, .int v), (2, .int v2), (3, .int v3), (4, .int v4)], [.int v4, .int v3, .int v2], 0, 0) 25 4 (fun _ => rfl) h) ?_
      have q5 : (pj_fi G0 171 5).toInt = y1.toInt := by rw [show pj_fi G0 171 5 = y1 from hy1.symm]
      refine pj_X_ca (vs := [.int v3, .int v4]) rfl (fun _ => rfl) ⟨Nat.le_of_ble_eq_true rfl, Nat.le_of_ble_eq_true rfl, rfl⟩ ⟨rfl, rfl⟩ (pj_Y_up (by decide) (ct_171bx G0 hI v3 v4)) ?_
      rintro _ _ ⟨y6, rfl, rfl, ry6, ey6, fy6⟩
      show pj_X _ _ G0 28 [(0, .ref 171), (1, .int v), (2, .int v2), (3, .int v3), (4, .int v4)] [.int y6, .int v2] _
      cases b7 : pj_c1 .eq y6 0 with
      | true =>
        have ub7 := pj_u0_eqT b7
        refine pj_X_of (fun r h => pj_R_ifT 62 rfl rfl b7 h) ?_
        refine pj_X_of (fun r h => pj_R_to (G0, 64, [(0, .ref 171), (1, .int v), (2, .int v2), (3, .int v3), (4, .int v4)], [.int (v2 ||| (Int32.ofInt 0))], 0, 0) 64 3 (fun _ => rfl) h) ?_
        obtain ⟨z8, hz8⟩ : ∃ z : Int32, z = v2 ||| (Int32.ofInt 0) := ⟨_, rfl⟩
        refine pj_X_eqi hz8.symm ?_
        have fz8_0 : 0 ≤ z8.toInt ∧ z8.toInt ≤ 1023 := by rw [hz8]; exact pj_orI1024 (by omega) (by omega) (by omega) (by omega)
        refine pj_X_of (fun r h => pj_R_to (G0, 68, [(4, .int (v4 + Int32.ofInt 1)), (2, .int z8), (0, .ref 171), (1, .int v), (3, .int v3)], [], 0, 0) 68 3 (fun _ => rfl) h) ?_
        obtain ⟨z9, hz9⟩ : ∃ z : Int32, z = v4 + Int32.ofInt 1 := ⟨_, rfl⟩
        rw [← hz9]
        have fz9_0 : z9.toInt = v4.toInt + (Int32.ofInt 1).toInt := by rw [hz9]; exact pj_addI (by have := pj_i32 v4; have := pj_i32 (Int32.ofInt 1); omega) (by have := pj_i32 v4; have := pj_i32 (Int32.ofInt 1); omega)
        refine pj_X_of (fun r h => pj_R_to (G0, 12, [(4, .int z9), (2, .int z8), (0, .ref 171), (1, .int v), (3, .int v3)], [], 0, 0) 12 2 (fun _ => rfl) h) ?_
        have q10 : (pj_fi G0 171 5).toInt = y1.toInt := by rw [show pj_fi G0 171 5 = y1 from hy1.symm]
        exact pj_X_sub [(0, .ref 171), (1, .int v), (2, .int z8), (3, .int v3), (4, .int z9)] (show List.Nodup [0, 1, 2, 3, 4] by decide) ⟨rfl, rfl, rfl, rfl, rfl, trivial⟩ (ih z8 v3 z9 ⟨by omega, by omega⟩ (pj_i32 _) ⟨by omega, by omega⟩ x0_ (by omega))
      | false =>
        have ub7 := pj_u0_eqF b7
        refine pj_X_of (fun r h => pj_R_ifF rfl b7 h) ?_
        refine pj_X_of (fun r h => pj_R_to (G0, 32, [(0, .ref 171), (1, .int v), (2, .int v2), (3, .int v3), (4, .int v4)], [.ref 171, .int v2], 0, 0) 32 2 (fun _ => rfl) h) ?_
        refine pj_X_of (fun r h => pj_T_gr hI rfl rfl rfl h) ?_
        refine pj_X_of (fun r h => pj_R_to (G0, 39, [(0, .ref 171), (1, .int v), (2, .int v2), (3, .int v3), (4, .int v4)], [.int (Int32.ofInt 1), .int v4, .ref 171, .ref 177, .int v2], 0, 0) 39 4 (fun _ => rfl) h) ?_
        have q11 : (pj_fi G0 171 5).toInt = y1.toInt := by rw [show pj_fi G0 171 5 = y1 from hy1.symm]
        refine pj_X_ca (vs := [.ref 171, .int v4, .int (Int32.ofInt 1)]) rfl (fun _ => rfl) ⟨Nat.le_of_ble_eq_true rfl, Nat.le_of_ble_eq_true rfl, pj_T_rcv hI rfl⟩ ⟨rfl, rfl⟩ (pj_Y_up (by decide) (ct_205x G0 hI v4 (Int32.ofInt 1) ⟨by omega, by omega⟩)) ?_
        rintro _ _ ⟨y12, rfl, rfl, ry12, ey12, fy12⟩
        replace ey12 := ey12 _ rfl
        show pj_X _ _ G0 42 [(0, .ref 171), (1, .int v), (2, .int v2), (3, .int v3), (4, .int v4)] [.int y12, .ref 177, .int v2] _
        have hob : 0 ≤ y12.toInt := pj_ob hI x0_ (by omega) (by omega) (ey6 (by omega)) (by omega) (by omega) ey12 (by omega)
        refine pj_X_of (fun r h => pj_T_il hI rfl rfl (by omega) (by omega) h) ?_
        show pj_X _ _ G0 43 [(0, .ref 171), (1, .int v), (2, .int v2), (3, .int v3), (4, .int v4)] [.int (pj_ai G0 177 y12.toInt.toNat), .int v2] _
        obtain ⟨z13, hz13⟩ : ∃ z : Int32, z = pj_ai G0 177 y12.toInt.toNat := ⟨_, rfl⟩
        refine pj_X_eqi hz13.symm ?_
        have ez13 : (pj_ai G0 177 y12.toInt.toNat).toInt = z13.toInt := by rw [hz13]
        refine pj_X_of (fun r h => pj_R_to (G0, 44, [(0, .ref 171), (1, .int v), (2, .int v2), (3, .int v3), (4, .int v4)], [.ref 171, .int z13, .int v2], 0, 0) 44 2 (fun _ => rfl) h) ?_
        refine pj_X_of (fun r h => pj_T_gr hI rfl rfl rfl h) ?_
        refine pj_X_of (fun r h => pj_R_to (G0, 49, [(0, .ref 171), (1, .int v), (2, .int v2), (3, .int v3), (4, .int v4)], [.int v4, .ref 176, .int z13, .int v2], 0, 0) 49 2 (fun _ => rfl) h) ?_
        refine pj_X_of (fun r h => pj_T_il hI rfl rfl (by omega) (by omega) h) ?_
        show pj_X _ _ G0 50 [(0, .ref 171), (1, .int v), (2, .int v2), (3, .int v3), (4, .int v4)] [.int (pj_ai G0 176 v4.toInt.toNat), .int z13, .int v2] _
        obtain ⟨z14, hz14⟩ : ∃ z : Int32, z = pj_ai G0 176 v4.toInt.toNat := ⟨_, rfl⟩
        refine pj_X_eqi hz14.symm ?_
        have ez14 : (pj_ai G0 176 v4.toInt.toNat).toInt = z14.toInt := by rw [hz14]
        refine pj_X_of (fun r h => pj_R_to (G0, 52, [(0, .ref 171), (1, .int v), (2, .int v2), (3, .int v3), (4, .int v4)], [.int (z14 + v), .int z13, .int v2], 0, 0) 52 3 (fun _ => rfl) h) ?_
        obtain ⟨z15, hz15⟩ : ∃ z : Int32, z = z14 + v := ⟨_, rfl⟩
        refine pj_X_eqi hz15.symm ?_
        cases b16 : pj_c1 .ge z13 z15 with
        | true =>
          have ub16 := pj_u_geT b16
          refine pj_X_of (fun r h => pj_R_icT 62 rfl rfl b16 h) ?_
          refine pj_X_of (fun r h => pj_R_to (G0, 64, [(0, .ref 171), (1, .int v), (2, .int v2), (3, .int v3), (4, .int v4)], [.int (v2 ||| (Int32.ofInt 0))], 0, 0) 64 3 (fun _ => rfl) h) ?_
          obtain ⟨z17, hz17⟩ : ∃ z : Int32, z = v2 ||| (Int32.ofInt 0) := ⟨_, rfl⟩
          refine pj_X_eqi hz17.symm ?_
          have fz17_0 : 0 ≤ z17.toInt ∧ z17.toInt ≤ 1023 := by rw [hz17]; exact pj_orI1024 (by omega) (by omega) (by omega) (by omega)
          refine pj_X_of (fun r h => pj_R_to (G0, 68, [(4, .int (v4 + Int32.ofInt 1)), (2, .int z17), (0, .ref 171), (1, .int v), (3, .int v3)], [], 0, 0) 68 3 (fun _ => rfl) h) ?_
          obtain ⟨z18, hz18⟩ : ∃ z : Int32, z = v4 + Int32.ofInt 1 := ⟨_, rfl⟩
          rw [← hz18]
          have fz18_0 : z18.toInt = v4.toInt + (Int32.ofInt 1).toInt := by rw [hz18]; exact pj_addI (by have := pj_i32 v4; have := pj_i32 (Int32.ofInt 1); omega) (by have := pj_i32 v4; have := pj_i32 (Int32.ofInt 1); omega)
          refine pj_X_of (fun r h => pj_R_to (G0, 12, [(4, .int z18), (2, .int z17), (0, .ref 171), (1, .int v), (3, .int v3)], [], 0, 0) 12 2 (fun _ => rfl) h) ?_
          have q19 : (pj_fi G0 171 5).toInt = y1.toInt := by rw [show pj_fi G0 171 5 = y1 from hy1.symm]
          exact pj_X_sub [(0, .ref 171), (1, .int v), (2, .int z17), (3, .int v3), (4, .int z18)] (show List.Nodup [0, 1, 2, 3, 4] by decide) ⟨rfl, rfl, rfl, rfl, rfl, trivial⟩ (ih z17 v3 z18 ⟨by omega, by omega⟩ (pj_i32 _) ⟨by omega, by omega⟩ x0_ (by omega))
        | false =>
          have ub16 := pj_u_geF b16
          refine pj_X_of (fun r h => pj_R_icF rfl b16 h) ?_
          refine pj_X_of (fun r h => pj_R_to (G0, 59, [(0, .ref 171), (1, .int v), (2, .int v2), (3, .int v3), (4, .int v4)], [.int ((Int32.ofInt 1) <<< (v4 &&& 31)), .int v2], 0, 0) 59 4 (fun _ => rfl) h) ?_
          obtain ⟨z20, hz20⟩ : ∃ z : Int32, z = (Int32.ofInt 1) <<< (v4 &&& 31) := ⟨_, rfl⟩
          refine pj_X_eqi hz20.symm ?_
          have fz20_0 : 1 ≤ z20.toInt ∧ z20.toInt ≤ 512 := by rw [hz20]; exact pj_shlI9 (by omega) (by omega)
          refine pj_X_of (fun r h => pj_R_to (G0, 64, [(0, .ref 171), (1, .int v), (2, .int v2), (3, .int v3), (4, .int v4)], [.int (v2 ||| z20)], 0, 0) 64 3 (fun _ => rfl) h) ?_
          obtain ⟨z21, hz21⟩ : ∃ z : Int32, z = v2 ||| z20 := ⟨_, rfl⟩
          refine pj_X_eqi hz21.symm ?_
          have fz21_0 : 0 ≤ z21.toInt ∧ z21.toInt ≤ 1023 := by rw [hz21]; exact pj_orI1024 (by omega) (by omega) (by omega) (by omega)
          refine pj_X_of (fun r h => pj_R_to (G0, 68, [(4, .int (v4 + Int32.ofInt 1)), (2, .int z21), (0, .ref 171), (1, .int v), (3, .int v3)], [], 0, 0) 68 3 (fun _ => rfl) h) ?_
          obtain ⟨z22, hz22⟩ : ∃ z : Int32, z = v4 + Int32.ofInt 1 := ⟨_, rfl⟩
          rw [← hz22]
          have fz22_0 : z22.toInt = v4.toInt + (Int32.ofInt 1).toInt := by rw [hz22]; exact pj_addI (by have := pj_i32 v4; have := pj_i32 (Int32.ofInt 1); omega) (by have := pj_i32 v4; have := pj_i32 (Int32.ofInt 1); omega)
          refine pj_X_of (fun r h => pj_R_to (G0, 12, [(4, .int z22), (2, .int z21), (0, .ref 171), (1, .int v), (3, .int v3)], [], 0, 0) 12 2 (fun _ => rfl) h) ?_
          have q23 : (pj_fi G0 171 5).toInt = y1.toInt := by rw [show pj_fi G0 171 5 = y1 from hy1.symm]
          exact pj_X_sub [(0, .ref 171), (1, .int v), (2, .int z21), (3, .int v3), (4, .int z22)] (show List.Nodup [0, 1, 2, 3, 4] by decide) ⟨rfl, rfl, rfl, rfl, rfl, trivial⟩ (ih z21 v3 z22 ⟨by omega, by omega⟩ (pj_i32 _) ⟨by omega, by omega⟩ x0_ (by omega))
theorem ct_251 (G0 : pj_G) (hI : pj_Inv G0) (v : Int32) : pj_Y 2 251 [.ref 171, .int v] G0 (fun v G' => ∃ y : Int32, v = some (.int y) ∧ G0 = G' ∧ ((0 : Int) ≤ y.toInt ∧ y.toInt ≤ 1023)) := by
  have c0_ : (Int32.ofInt 0).toInt = 0 := by decide
  have c1_ : (Int32.ofInt 1).toInt = 1 := by decide
  refine pj_Y_X (M := pj_m251) rfl rfl (Nat.le_of_ble_eq_true rfl) ?_
  have hK : pj_kpt ([], [], []) G0 G0 := pj_kpt_r _ _
  show pj_X _ _ G0 0 [(0, .ref 171), (1, .int v)] [] _
  obtain ⟨y24, hy24⟩ : ∃ z : Int32, z = pj_fi G0 171 5 := ⟨_, rfl⟩
  have ey24 : (pj_fi G0 171 5).toInt = y24.toInt := by rw [hy24]
  have ry24 : (0 : Int) ≤ y24.toInt ∧ y24.toInt ≤ 6 := by rw [hy24]; exact hI.2.1 171 5 (0, 6) rfl
  refine pj_X_of (fun r h => pj_R_to (G0, 5, [(2, .int (Int32.ofInt 0)), (0, .ref 171), (1, .int v)], [.int (Int32.ofInt 0), .int (Int32.ofInt 0), .ref 171], 0, 0) 5 6 (fun _ => rfl) h) ?_
  have q25 : (pj_fi G0 171 5).toInt = y24.toInt := by rw [show pj_fi G0 171 5 = y24 from hy24.symm]
  refine pj_X_ca (vs := [.ref 171, .int (Int32.ofInt 0), .int (Int32.ofInt 0)]) rfl (fun _ => rfl) ⟨Nat.le_of_ble_eq_true rfl, Nat.le_of_ble_eq_true rfl, pj_T_rcv hI rfl⟩ ⟨rfl, rfl⟩ (pj_Y_up (by decide) (ct_206x G0 hI (Int32.ofInt 0) (Int32.ofInt 0))) ?_
  rintro _ _ ⟨y26, rfl, rfl, ry26, ey26, fy26⟩
  replace ey26 := ey26 _ rfl
  show pj_X _ _ G0 8 [(2, .int (Int32.ofInt 0)), (0, .ref 171), (1, .int v)] [.int y26] _
  refine pj_X_of (fun r h => pj_R_to (G0, 12, [(4, .int (Int32.ofInt 0)), (3, .int y26), (2, .int (Int32.ofInt 0)), (0, .ref 171), (1, .int v)], [], 0, 0) 12 4 (fun _ => rfl) h) ?_
  have q27 : (pj_fi G0 171 5).toInt = y24.toInt := by rw [show pj_fi G0 171 5 = y24 from hy24.symm]
  exact pj_X_sub [(0, .ref 171), (1, .int v), (2, .int (Int32.ofInt 0)), (3, .int y26), (4, .int (Int32.ofInt 0))] (show List.Nodup [0, 1, 2, 3, 4] by decide) ⟨rfl, rfl, rfl, rfl, rfl, trivial⟩ ((lp_ct_251 G0 hI v  11) (Int32.ofInt 0) y26 (Int32.ofInt 0) ⟨by omega, by omega⟩ (pj_i32 _) ⟨by omega, by omega⟩ ey26 (by omega))
theorem ct_252 (G0 : pj_G) (hI : pj_Inv G0) (v : Int32) : pj_Y 5 252 [.ref 171, .int v] G0 (fun v G' => ∃ y : Int32, v = some (.int y) ∧ G0 = G' ∧ ((-2147483648 : Int) ≤ y.toInt ∧ y.toInt ≤ 2147483647)) := by
  have c0_ : (Int32.ofInt (-1)).toInt = -1 := by decide
  have c1_ : (Int32.ofInt 0).toInt = 0 := by decide
  refine pj_Y_X (M := pj_m252) rfl rfl (Nat.le_of_ble_eq_true rfl) ?_
  have hK : pj_kpt ([], [], []) G0 G0 := pj_kpt_r _ _
  show pj_X _ _ G0 0 [(0, .ref 171), (1, .int v)] [] _
  refine pj_X_of (fun r h => pj_R_to (G0, 4, [(0, .ref 171), (1, .int v)], [.int (Int32.ofInt 0), .int (Int32.ofInt 0), .ref 171, .ref 171], 0, 0) 4 5 (fun _ => rfl) h) ?_
  refine pj_X_ca (vs := [.ref 171, .int (Int32.ofInt 0), .int (Int32.ofInt 0)]) rfl (fun _ => rfl) ⟨Nat.le_of_ble_eq_true rfl, Nat.le_of_ble_eq_true rfl, pj_T_rcv hI rfl⟩ ⟨rfl, rfl⟩ (pj_Y_up (by decide) (ct_206x G0 hI (Int32.ofInt 0) (Int32.ofInt 0))) ?_
  rintro _ _ ⟨y1, rfl, rfl, ry1, ey1, fy1⟩
  replace ey1 := ey1 _ rfl
  show pj_X _ _ G0 7 [(0, .ref 171), (1, .int v)] [.int y1, .ref 171] _
  refine pj_X_of (fun r h => pj_R_to (G0, 9, [(0, .ref 171), (1, .int v)], [.int v, .ref 171, .int y1, .ref 171], 0, 0) 9 3 (fun _ => rfl) h) ?_
  refine pj_X_ca (vs := [.ref 171, .int v]) rfl (fun _ => rfl) ⟨Nat.le_of_ble_eq_true rfl, Nat.le_of_ble_eq_true rfl, pj_T_rcv hI rfl⟩ ⟨rfl, rfl⟩ (pj_Y_up (by decide) (ct_251 G0 hI v)) ?_
  rintro _ _ ⟨y2, rfl, rfl, ry2⟩
  show pj_X _ _ G0 12 [(0, .ref 171), (1, .int v)] [.int y2, .int y1, .ref 171] _
  refine pj_X_of (fun r h => pj_R_to (G0, 14, [(0, .ref 171), (1, .int v)], [.int (y2 ^^^ (Int32.ofInt (-1))), .int y1, .ref 171], 0, 0) 14 3 (fun _ => rfl) h) ?_
  obtain ⟨z3, hz3⟩ : ∃ z : Int32, z = y2 ^^^ (Int32.ofInt (-1)) := ⟨_, rfl⟩
  refine pj_X_eqi hz3.symm ?_
  refine pj_X_of (fun r h => pj_R_to (G0, 15, [(0, .ref 171), (1, .int v)], [.int (y1 &&& z3), .ref 171], 0, 0) 15 2 (fun _ => rfl) h) ?_
  obtain ⟨z4, hz4⟩ : ∃ z : Int32, z = y1 &&& z3 := ⟨_, rfl⟩
  refine pj_X_eqi hz4.symm ?_
  refine pj_X_ca (vs := [.ref 171, .int z4]) rfl (fun _ => rfl) ⟨Nat.le_of_ble_eq_true rfl, Nat.le_of_ble_eq_true rfl, pj_T_rcv hI rfl⟩ ⟨rfl, rfl⟩ (pj_Y_up (by decide) (ct_209 G0 hI z4)) ?_
  rintro _ _ ⟨y5, rfl, rfl, ry5⟩
  show pj_X _ _ G0 18 [(0, .ref 171), (1, .int v)] [.int y5] _
  exact pj_X_rt rfl rfl ⟨_, rfl, rfl, pj_i32 _⟩
def kc_253 : pj_KT := ([(171, 0), (171, 1)], [171, 172], [])
theorem ct_253 (G0 : pj_G) (hI : pj_Inv G0) (v : Int32) : pj_Y 6 253 [.ref 171, .int v] G0 (fun v G' => ∃ y : Int32, v = some (.int y) ∧ pj_Inv G' ∧ pj_kpt kc_253 G0 G' ∧ ((-2147483648 : Int) ≤ y.toInt ∧ y.toInt ≤ 2147483647)) := by
  have c0_ : (Int32.ofInt (-1)).toInt = -1 := by decide
  have c1_ : (Int32.ofInt 0).toInt = 0 := by decide
  refine pj_Y_X (M := pj_m253) rfl rfl (Nat.le_of_ble_eq_true rfl) ?_
  have hK : pj_kpt kc_253 G0 G0 := pj_kpt_r _ _
  show pj_X _ _ G0 0 [(0, .ref 171), (1, .int v)] [] _
  obtain ⟨y1, hy1⟩ : ∃ z : Int32, z = pj_fi G0 171 1 := ⟨_, rfl⟩
  have ey1 : (pj_fi G0 171 1).toInt = y1.toInt := by rw [hy1]
  have ry1 : (0 : Int) ≤ y1.toInt ∧ y1.toInt ≤ 24 := by rw [hy1]; exact hI.2.1 171 1 (0, 24) rfl
  refine pj_X_of (fun r h => pj_R_to (G0, 2, [(0, .ref 171), (1, .int v)], [.int (Int32.ofInt 0), .ref 171], 0, 0) 2 3 (fun _ => rfl) h) ?_
  refine pj_X_of (fun r h => pj_T_pf hI rfl rfl rfl h) ?_
  show pj_X _ _ (pj_wv G0 171 0 (.int (Int32.ofInt 0))) 5 [(0, .ref 171), (1, .int v)] [] _
  obtain ⟨G2, hG2⟩ : ∃ H, H = pj_wv G0 171 0 (.int (Int32.ofInt 0)) := ⟨_, rfl⟩
  have iG2 : pj_Inv G2 := by rw [hG2]; exact pj_Inv_wi hI (ci := 12) rfl (fun q hq => by cases hq)
  have kG2 : pj_kpt kc_253 G0 G2 := by rw [hG2]; exact pj_kpt_v hK rfl
  rw [← hG2]
  refine pj_X_of (fun r h => pj_R_to (G2, 11, [(0, .ref 171), (1, .int v)], [.long (Int64.ofInt 9), .long (Int64.ofNat 0), .long v.toInt64], 0, 0) 11 5 (fun _ => rfl) h) ?_
  have q3 : (pj_fi G2 171 1).toInt = y1.toInt := by rw [show pj_fi G2 171 1 = y1 from by rw [hG2, pj_fi_wv_ne _ _ _ _ _ _ (by decide)]; exact hy1.symm]
  have lc4 : (v.toInt64).toInt = v.toInt := Int32.toInt_toInt64 _
  have lc5 : (Int64.ofNat 0).toInt = 0 := by decide
  have lc6 : (Int64.ofInt 9).toInt = 9 := by decide
  refine pj_X_ca (vs := [.long v.toInt64, .long (Int64.ofNat 0), .long (Int64.ofInt 9)]) rfl (fun _ => rfl) ⟨Nat.le_of_ble_eq_true rfl, Nat.le_of_ble_eq_true rfl, rfl⟩ ⟨rfl, rfl⟩ (pj_Y_up (by decide) (ct_170x G2 iG2 v.toInt64 (Int64.ofNat 0) (Int64.ofInt 9))) ?_
  rintro _ _ ⟨y7, rfl, rfl, ry7, ey7, fy7⟩
  show pj_X _ _ G2 14 [(0, .ref 171), (1, .int v)] [.int y7] _
  cases b8 : pj_c1 .ne y7 0 with
  | true =>
    have ub8 := pj_u0_neT b8
    refine pj_X_of (fun r h => pj_R_ifT 19 rfl rfl b8 h) ?_
    refine pj_X_of (fun r h => pj_R_to (G2, 21, [(0, .ref 171), (1, .int v)], [.int (Int32.ofInt 0), .ref 171], 0, 0) 21 3 (fun _ => rfl) h) ?_
    refine pj_X_of (fun r h => pj_T_pf iG2 rfl rfl rfl h) ?_
    show pj_X _ _ (pj_wv G2 171 1 (.int (Int32.ofInt 0))) 24 [(0, .ref 171), (1, .int v)] [] _
    obtain ⟨G9, hG9⟩ : ∃ H, H = pj_wv G2 171 1 (.int (Int32.ofInt 0)) := ⟨_, rfl⟩
    have iG9 : pj_Inv G9 := by rw [hG9]; exact pj_Inv_wi iG2 (ci := 12) rfl (fun q hq => by cases hq; exact ⟨by show (0 : Int) ≤ _; omega, by show _ ≤ (24 : Int); omega⟩)
    have kG9 : pj_kpt kc_253 G0 G9 := by rw [hG9]; exact pj_kpt_v kG2 rfl
    rw [← hG9]
    refine pj_X_of (fun r h => pj_R_to (G9, 27, [(0, .ref 171), (1, .int v)], [.int v, .ref 171, .ref 171], 0, 0) 27 4 (fun _ => rfl) h) ?_
    have q10 : (pj_fi G9 171 1).toInt = (Int32.ofInt 0).toInt := by rw [show pj_fi G9 171 1 = Int32.ofInt 0 from by rw [hG9]; exact pj_fi_wi iG2.1 (ci := 12) rfl _]
    refine pj_X_ca (vs := [.ref 171, .int v]) rfl (fun _ => rfl) ⟨Nat.le_of_ble_eq_true rfl, Nat.le_of_ble_eq_true rfl, pj_T_rcv iG9 rfl⟩ ⟨rfl, rfl⟩ (pj_Y_up (by decide) (ct_252 G9 iG9 v)) ?_
    rintro _ _ ⟨y11, rfl, rfl, ry11⟩
    show pj_X _ _ G9 30 [(0, .ref 171), (1, .int v)] [.int y11, .ref 171] _
    refine pj_X_of (fun r h => pj_R_to (G9, 31, [(0, .ref 171), (1, .int v)], [.long y11.toInt64, .ref 171], 0, 0) 31 2 (fun _ => rfl) h) ?_
    have q12 : (pj_fi G9 171 1).toInt = (Int32.ofInt 0).toInt := by rw [show pj_fi G9 171 1 = Int32.ofInt 0 from by rw [hG9]; exact pj_fi_wi iG2.1 (ci := 12) rfl _]
    have lc13 : (y11.toInt64).toInt = y11.toInt := Int32.toInt_toInt64 _
    refine pj_X_ca (vs := [.ref 171, .long y11.toInt64]) rfl (fun _ => rfl) ⟨Nat.le_of_ble_eq_true rfl, Nat.le_of_ble_eq_true rfl, pj_T_rcv iG9 rfl⟩ ⟨rfl, rfl⟩ (pj_Y_up (by decide) (ct_174x G9 iG9 y11.toInt64 (by omega))) ?_
    rintro _ G15 ⟨rfl, iG15, jG15, eG15, fy14⟩
    replace eG15 := eG15 _ rfl
    have kG15 : pj_kpt kc_253 G0 G15 := pj_kpt_t kG9 (pj_kpt_s jG15 rfl)
    obtain ⟨y16, hy16⟩ : ∃ z : Int32, z = pj_fi G15 171 1 := ⟨_, rfl⟩
    have ey16 : (pj_fi G15 171 1).toInt = y16.toInt := by rw [hy16]
    have ry16 : (0 : Int) ≤ y16.toInt ∧ y16.toInt ≤ 24 := by rw [hy16]; exact iG15.2.1 171 1 (0, 24) rfl
    show pj_X _ _ G15 34 [(0, .ref 171), (1, .int v)] [] _
    refine pj_X_of (fun r h => pj_R_to (G15, 36, [(0, .ref 171), (1, .int v)], [.int v, .ref 171], 0, 0) 36 3 (fun _ => rfl) h) ?_
    have q17 : (pj_fi G15 171 1).toInt = y16.toInt := by rw [show pj_fi G15 171 1 = y16 from hy16.symm]
    refine pj_X_ca (vs := [.ref 171, .int v]) rfl (fun _ => rfl) ⟨Nat.le_of_ble_eq_true rfl, Nat.le_of_ble_eq_true rfl, pj_T_rcv iG15 rfl⟩ ⟨rfl, rfl⟩ (pj_Y_up (by decide) (ct_251 G15 iG15 v)) ?_
    rintro _ _ ⟨y18, rfl, rfl, ry18⟩
    show pj_X _ _ G15 39 [(0, .ref 171), (1, .int v)] [.int y18] _
    have q19 : (pj_fi G15 171 1).toInt = y16.toInt := by rw [show pj_fi G15 171 1 = y16 from hy16.symm]
    exact pj_X_rt rfl rfl ⟨_, rfl, iG15, kG15, pj_i32 _⟩
  | false =>
    have ub8 := pj_u0_neF b8
    refine pj_X_of (fun r h => pj_R_ifF rfl b8 h) ?_
    refine pj_X_of (fun r h => pj_R_to (G2, 18, [(0, .ref 171), (1, .int v)], [.int (Int32.ofInt (-1))], 0, 0) 18 2 (fun _ => rfl) h) ?_
    have q20 : (pj_fi G2 171 1).toInt = y1.toInt := by rw [show pj_fi G2 171 1 = y1 from by rw [hG2, pj_fi_wv_ne _ _ _ _ _ _ (by decide)]; exact hy1.symm]
    exact pj_X_rt rfl rfl ⟨_, rfl, iG2, kG2, pj_i32 _⟩
def kc_254 : pj_KT := ([(171, 0), (171, 1)], [171, 172], [])
theorem lp_ct_254 (G0 : pj_G) (hI0 : pj_Inv G0) : ∀ mn : Nat, (∀ (G : pj_G) (hI : pj_Inv G) (hK : pj_kpt kc_254 G0 G) (v1 : Int32) (v2 : Int32), ((-2147483648 : Int) ≤ v1.toInt ∧ v1.toInt ≤ 2147483647) → ((0 : Int) ≤ v2.toInt ∧ v2.toInt ≤ 9) → 9 - v2.toInt < (mn : Int) → pj_X 5 pj_m254 G 18 [(0, .ref 171), (1, .int v1), (2, .int v2)] [] (fun v G' => ∃ y : Int32, v = some (.int y) ∧ pj_Inv G' ∧ pj_kpt kc_254 G0 G' ∧ ((-2147483648 : Int) ≤ y.toInt ∧ y.toInt ≤ 2147483647))) := by
  have c0_ : ((Int8.ofInt 9).toInt32).toInt = 9 := by decide
  have c1_ : (Int32.ofInt 0).toInt = 0 := by decide
  have c2_ : (Int32.ofInt 1).toInt = 1 := by decide
  intro mn
  induction mn with
  | zero =>
    intro G hI hK v1 v2 rv1 rv2 hm
    exfalso
    omega
  | succ mn ih =>
    intro G hI hK v1 v2 rv1 rv2 hm
    obtain ⟨y1, hy1⟩ : ∃ z : Int32, z = pj_fi G 171 1 := ⟨_, rfl⟩
    have ey1 : (pj_fi G 171 1).toInt = y1.toInt := by rw [hy1]
    have ry1 : (0 : Int) ≤ y1.toInt ∧ y1.toInt ≤ 24 := by rw [hy1]; exact hI.2.1 171 1 (0, 24) rfl
    refine pj_X_of (fun r h => pj_R_to (G, 21, [(0, .ref 171), (1, .int v1), (2, .int v2)], [.int ((Int8.ofInt 9).toInt32), .int v2], 0, 0) 21 3 (fun _ => rfl) h) ?_
    cases b2 : pj_c1 .ge v2 ((Int8.ofInt 9).toInt32) with
    | true =>
      have ub2 := pj_u_geT b2
      refine pj_X_of (fun r h => pj_R_icT 41 rfl rfl b2 h) ?_
      refine pj_X_of (fun r h => pj_R_to (G, 43, [(0, .ref 171), (1, .int v1), (2, .int v2)], [.int (Int32.ofInt 0), .ref 171], 0, 0) 43 3 (fun _ => rfl) h) ?_
      refine pj_X_of (fun r h => pj_T_pf hI rfl rfl rfl h) ?_
      show pj_X _ _ (pj_wv G 171 1 (.int (Int32.ofInt 0))) 46 [(0, .ref 171), (1, .int v1), (2, .int v2)] [] _
      obtain ⟨G3, hG3⟩ : ∃ H, H = pj_wv G 171 1 (.int (Int32.ofInt 0)) := ⟨_, rfl⟩
      have iG3 : pj_Inv G3 := by rw [hG3]; exact pj_Inv_wi hI (ci := 12) rfl (fun q hq => by cases hq; exact ⟨by show (0 : Int) ≤ _; omega, by show _ ≤ (24 : Int); omega⟩)
      have kG3 : pj_kpt kc_254 G0 G3 := by rw [hG3]; exact pj_kpt_v hK rfl
      rw [← hG3]
      refine pj_X_of (fun r h => pj_R_to (G3, 50, [(0, .ref 171), (1, .int v1), (2, .int v2)], [.int ((Int8.ofInt 9).toInt32), .int v2, .ref 171], 0, 0) 50 4 (fun _ => rfl) h) ?_
      refine pj_X_of (fun r h => pj_R_icF rfl (pj_b_neF (by omega)) h) ?_
      refine pj_X_of (fun r h => pj_R_to (G3, 67, [(0, .ref 171), (1, .int v1), (2, .int v2)], [.long (Int64.ofInt (-1)), .ref 171], 0, 0) 67 3 (fun _ => rfl) h) ?_
      have q4 : (pj_fi G3 171 1).toInt = (Int32.ofInt 0).toInt := by rw [show pj_fi G3 171 1 = Int32.ofInt 0 from by rw [hG3]; exact pj_fi_wi hI.1 (ci := 12) rfl _]
      have lc5 : (Int64.ofInt (-1)).toInt = -1 := by decide
      refine pj_X_ca (vs := [.ref 171, .long (Int64.ofInt (-1))]) rfl (fun _ => rfl) ⟨Nat.le_of_ble_eq_true rfl, Nat.le_of_ble_eq_true rfl, pj_T_rcv iG3 rfl⟩ ⟨rfl, rfl⟩ (pj_Y_up (by decide) (ct_174x G3 iG3 (Int64.ofInt (-1)) (by omega))) ?_
      rintro _ G7 ⟨rfl, iG7, jG7, eG7, fy6⟩
      replace eG7 := eG7 _ rfl
      have kG7 : pj_kpt kc_254 G0 G7 := pj_kpt_t kG3 (pj_kpt_s jG7 rfl)
      obtain ⟨y8, hy8⟩ : ∃ z : Int32, z = pj_fi G7 171 1 := ⟨_, rfl⟩
      have ey8 : (pj_fi G7 171 1).toInt = y8.toInt := by rw [hy8]
      have ry8 : (0 : Int) ≤ y8.toInt ∧ y8.toInt ≤ 24 := by rw [hy8]; exact iG7.2.1 171 1 (0, 24) rfl
      show pj_X _ _ G7 70 [(0, .ref 171), (1, .int v1), (2, .int v2)] [] _
      refine pj_X_of (fun r h => pj_R_to (G7, 71, [(0, .ref 171), (1, .int v1), (2, .int v2)], [.int v2], 0, 0) 71 2 (fun _ => rfl) h) ?_
      have q9 : (pj_fi G7 171 1).toInt = y8.toInt := by rw [show pj_fi G7 171 1 = y8 from hy8.symm]
      exact pj_X_rt rfl rfl ⟨_, rfl, iG7, kG7, pj_i32 _⟩
    | false =>
      have ub2 := pj_u_geF b2
      refine pj_X_of (fun r h => pj_R_icF rfl b2 h) ?_
      refine pj_X_of (fun r h => pj_R_to (G, 28, [(0, .ref 171), (1, .int v1), (2, .int v2)], [.int (v2 + (Int32.ofInt 1)), .ref 171], 0, 0) 28 5 (fun _ => rfl) h) ?_
      obtain ⟨z10, hz10⟩ : ∃ z : Int32, z = v2 + (Int32.ofInt 1) := ⟨_, rfl⟩
      refine pj_X_eqi hz10.symm ?_
      have fz10_0 : z10.toInt = v2.toInt + (Int32.ofInt 1).toInt := by rw [hz10]; exact pj_addI (by have := pj_i32 v2; have := pj_i32 (Int32.ofInt 1); omega) (by have := pj_i32 v2; have := pj_i32 (Int32.ofInt 1); omega)
      have q11 : (pj_fi G 171 1).toInt = y1.toInt := by rw [show pj_fi G 171 1 = y1 from hy1.symm]
      refine pj_X_ca (vs := [.ref 171, .int z10]) rfl (fun _ => rfl) ⟨Nat.le_of_ble_eq_true rfl, Nat.le_of_ble_eq_true rfl, pj_T_rcv hI rfl⟩ ⟨rfl, rfl⟩ (pj_Y_up (by decide) (ct_252 G hI z10)) ?_
      rintro _ _ ⟨y12, rfl, rfl, ry12⟩
      show pj_X _ _ G 31 [(0, .ref 171), (1, .int v1), (2, .int v2)] [.int y12] _
      refine pj_X_of (fun r h => pj_R_to (G, 32, [(0, .ref 171), (1, .int v1), (2, .int v2)], [.int v1, .int y12], 0, 0) 32 2 (fun _ => rfl) h) ?_
      cases b13 : pj_c1 .ne y12 v1 with
      | true =>
        have ub13 := pj_u_neT b13
        refine pj_X_of (fun r h => pj_R_icT 41 rfl rfl b13 h) ?_
        refine pj_X_of (fun r h => pj_R_to (G, 43, [(0, .ref 171), (1, .int v1), (2, .int v2)], [.int (Int32.ofInt 0), .ref 171], 0, 0) 43 3 (fun _ => rfl) h) ?_
        refine pj_X_of (fun r h => pj_T_pf hI rfl rfl rfl h) ?_
        show pj_X _ _ (pj_wv G 171 1 (.int (Int32.ofInt 0))) 46 [(0, .ref 171), (1, .int v1), (2, .int v2)] [] _
        obtain ⟨G14, hG14⟩ : ∃ H, H = pj_wv G 171 1 (.int (Int32.ofInt 0)) := ⟨_, rfl⟩
        have iG14 : pj_Inv G14 := by rw [hG14]; exact pj_Inv_wi hI (ci := 12) rfl (fun q hq => by cases hq; exact ⟨by show (0 : Int) ≤ _; omega, by show _ ≤ (24 : Int); omega⟩)
        have kG14 : pj_kpt kc_254 G0 G14 := by rw [hG14]; exact pj_kpt_v hK rfl
        rw [← hG14]
        refine pj_X_of (fun r h => pj_R_to (G14, 50, [(0, .ref 171), (1, .int v1), (2, .int v2)], [.int ((Int8.ofInt 9).toInt32), .int v2, .ref 171], 0, 0) 50 4 (fun _ => rfl) h) ?_
        refine pj_X_of (fun r h => pj_R_icT 59 rfl rfl (pj_b_neT (by omega)) h) ?_
        refine pj_X_of (fun r h => pj_R_to (G14, 63, [(0, .ref 171), (1, .int v1), (2, .int v2)], [.int (v2 + (Int32.ofInt 1)), .ref 171, .ref 171], 0, 0) 63 5 (fun _ => rfl) h) ?_
        obtain ⟨z15, hz15⟩ : ∃ z : Int32, z = v2 + (Int32.ofInt 1) := ⟨_, rfl⟩
        refine pj_X_eqi hz15.symm ?_
        have fz15_0 : z15.toInt = v2.toInt + (Int32.ofInt 1).toInt := by rw [hz15]; exact pj_addI (by have := pj_i32 v2; have := pj_i32 (Int32.ofInt 1); omega) (by have := pj_i32 v2; have := pj_i32 (Int32.ofInt 1); omega)
        have q16 : (pj_fi G14 171 1).toInt = (Int32.ofInt 0).toInt := by rw [show pj_fi G14 171 1 = Int32.ofInt 0 from by rw [hG14]; exact pj_fi_wi hI.1 (ci := 12) rfl _]
        refine pj_X_ca (vs := [.ref 171, .int z15]) rfl (fun _ => rfl) ⟨Nat.le_of_ble_eq_true rfl, Nat.le_of_ble_eq_true rfl, pj_T_rcv iG14 rfl⟩ ⟨rfl, rfl⟩ (pj_Y_up (by decide) (ct_252 G14 iG14 z15)) ?_
        rintro _ _ ⟨y17, rfl, rfl, ry17⟩
        show pj_X _ _ G14 66 [(0, .ref 171), (1, .int v1), (2, .int v2)] [.int y17, .ref 171] _
        refine pj_X_of (fun r h => pj_R_to (G14, 67, [(0, .ref 171), (1, .int v1), (2, .int v2)], [.long y17.toInt64, .ref 171], 0, 0) 67 2 (fun _ => rfl) h) ?_
        have q18 : (pj_fi G14 171 1).toInt = (Int32.ofInt 0).toInt := by rw [show pj_fi G14 171 1 = Int32.ofInt 0 from by rw [hG14]; exact pj_fi_wi hI.1 (ci := 12) rfl _]
        have lc19 : (y17.toInt64).toInt = y17.toInt := Int32.toInt_toInt64 _
        refine pj_X_ca (vs := [.ref 171, .long y17.toInt64]) rfl (fun _ => rfl) ⟨Nat.le_of_ble_eq_true rfl, Nat.le_of_ble_eq_true rfl, pj_T_rcv iG14 rfl⟩ ⟨rfl, rfl⟩ (pj_Y_up (by decide) (ct_174x G14 iG14 y17.toInt64 (by omega))) ?_
        rintro _ G21 ⟨rfl, iG21, jG21, eG21, fy20⟩
        replace eG21 := eG21 _ rfl
        have kG21 : pj_kpt kc_254 G0 G21 := pj_kpt_t kG14 (pj_kpt_s jG21 rfl)
        obtain ⟨y22, hy22⟩ : ∃ z : Int32, z = pj_fi G21 171 1 := ⟨_, rfl⟩
        have ey22 : (pj_fi G21 171 1).toInt = y22.toInt := by rw [hy22]
        have ry22 : (0 : Int) ≤ y22.toInt ∧ y22.toInt ≤ 24 := by rw [hy22]; exact iG21.2.1 171 1 (0, 24) rfl
        show pj_X _ _ G21 70 [(0, .ref 171), (1, .int v1), (2, .int v2)] [] _
        refine pj_X_of (fun r h => pj_R_to (G21, 71, [(0, .ref 171), (1, .int v1), (2, .int v2)], [.int v2], 0, 0) 71 2 (fun _ => rfl) h) ?_
        have q23 : (pj_fi G21 171 1).toInt = y22.toInt := by rw [show pj_fi G21 171 1 = y22 from hy22.symm]
        exact pj_X_rt rfl rfl ⟨_, rfl, iG21, kG21, pj_i32 _⟩
      | false =>
        have ub13 := pj_u_neF b13
        refine pj_X_of (fun r h => pj_R_icF rfl b13 h) ?_
        refine pj_X_of (fun r h => pj_R_to (G, 38, [(2, .int (v2 + Int32.ofInt 1)), (0, .ref 171), (1, .int v1)], [], 0, 0) 38 2 (fun _ => rfl) h) ?_
        obtain ⟨z24, hz24⟩ : ∃ z : Int32, z = v2 + Int32.ofInt 1 := ⟨_, rfl⟩
        rw [← hz24]
        have fz24_0 : z24.toInt = v2.toInt + (Int32.ofInt 1).toInt := by rw [hz24]; exact pj_addI (by have := pj_i32 v2; have := pj_i32 (Int32.ofInt 1); omega) (by have := pj_i32 v2; have := pj_i32 (Int32.ofInt 1); omega)
        refine pj_X_of (fun r h => pj_R_to (G, 18, [(2, .int z24), (0, .ref 171), (1, .int v1)], [], 0, 0) 18 2 (fun _ => rfl) h) ?_
        have q25 : (pj_fi G 171 1).toInt = y1.toInt := by rw [show pj_fi G 171 1 = y1 from hy1.symm]
        exact pj_X_sub [(0, .ref 171), (1, .int v1), (2, .int z24)] (show List.Nodup [0, 1, 2] by decide) ⟨rfl, rfl, rfl, trivial⟩ (ih G hI hK v1 z24 (pj_i32 _) ⟨by omega, by omega⟩ (by omega))
theorem ct_254 (G0 : pj_G) (hI : pj_Inv G0) : pj_Y 6 254 [.ref 171] G0 (fun v G' => ∃ y : Int32, v = some (.int y) ∧ pj_Inv G' ∧ pj_kpt kc_254 G0 G' ∧ ((-2147483648 : Int) ≤ y.toInt ∧ y.toInt ≤ 2147483647)) := by
  have c0_ : ((Int8.ofInt 9).toInt32).toInt = 9 := by decide
  have c1_ : (Int32.ofInt 0).toInt = 0 := by decide
  have c2_ : (Int32.ofInt 1).toInt = 1 := by decide
  refine pj_Y_X (M := pj_m254) rfl rfl (Nat.le_of_ble_eq_true rfl) ?_
  have hK : pj_kpt kc_254 G0 G0 := pj_kpt_r _ _
  show pj_X _ _ G0 0 [(0, .ref 171)] [] _
  obtain ⟨y26, hy26⟩ : ∃ z : Int32, z = pj_fi G0 171 1 := ⟨_, rfl⟩
  have ey26 : (pj_fi G0 171 1).toInt = y26.toInt := by rw [hy26]
  have ry26 : (0 : Int) ≤ y26.toInt ∧ y26.toInt ≤ 24 := by rw [hy26]; exact hI.2.1 171 1 (0, 24) rfl
  refine pj_X_of (fun r h => pj_R_to (G0, 2, [(0, .ref 171)], [.int (Int32.ofInt 0), .ref 171], 0, 0) 2 3 (fun _ => rfl) h) ?_
  refine pj_X_of (fun r h => pj_T_pf hI rfl rfl rfl h) ?_
  show pj_X _ _ (pj_wv G0 171 0 (.int (Int32.ofInt 0))) 5 [(0, .ref 171)] [] _
  obtain ⟨G27, hG27⟩ : ∃ H, H = pj_wv G0 171 0 (.int (Int32.ofInt 0)) := ⟨_, rfl⟩
  have iG27 : pj_Inv G27 := by rw [hG27]; exact pj_Inv_wi hI (ci := 12) rfl (fun q hq => by cases hq)
  have kG27 : pj_kpt kc_254 G0 G27 := by rw [hG27]; exact pj_kpt_v hK rfl
  rw [← hG27]
  refine pj_X_of (fun r h => pj_R_to (G27, 9, [(0, .ref 171)], [.int (Int32.ofInt 0), .int (Int32.ofInt 0), .ref 171, .ref 171], 0, 0) 9 5 (fun _ => rfl) h) ?_
  have q28 : (pj_fi G27 171 1).toInt = y26.toInt := by rw [show pj_fi G27 171 1 = y26 from by rw [hG27, pj_fi_wv_ne _ _ _ _ _ _ (by decide)]; exact hy26.symm]
  refine pj_X_ca (vs := [.ref 171, .int (Int32.ofInt 0), .int (Int32.ofInt 0)]) rfl (fun _ => rfl) ⟨Nat.le_of_ble_eq_true rfl, Nat.le_of_ble_eq_true rfl, pj_T_rcv iG27 rfl⟩ ⟨rfl, rfl⟩ (pj_Y_up (by decide) (ct_206x G27 iG27 (Int32.ofInt 0) (Int32.ofInt 0))) ?_
  rintro _ _ ⟨y29, rfl, rfl, ry29, ey29, fy29⟩
  replace ey29 := ey29 _ rfl
  show pj_X _ _ G27 12 [(0, .ref 171)] [.int y29, .ref 171] _
  have q30 : (pj_fi G27 171 1).toInt = y26.toInt := by rw [show pj_fi G27 171 1 = y26 from by rw [hG27, pj_fi_wv_ne _ _ _ _ _ _ (by decide)]; exact hy26.symm]
  refine pj_X_ca (vs := [.ref 171, .int y29]) rfl (fun _ => rfl) ⟨Nat.le_of_ble_eq_true rfl, Nat.le_of_ble_eq_true rfl, pj_T_rcv iG27 rfl⟩ ⟨rfl, rfl⟩ (pj_Y_up (by decide) (ct_209 G27 iG27 y29)) ?_
  rintro _ _ ⟨y31, rfl, rfl, ry31⟩
  show pj_X _ _ G27 15 [(0, .ref 171)] [.int y31] _
  refine pj_X_of (fun r h => pj_R_to (G27, 18, [(2, .int (Int32.ofInt 0)), (1, .int y31), (0, .ref 171)], [], 0, 0) 18 4 (fun _ => rfl) h) ?_
  have q32 : (pj_fi G27 171 1).toInt = y26.toInt := by rw [show pj_fi G27 171 1 = y26 from by rw [hG27, pj_fi_wv_ne _ _ _ _ _ _ (by decide)]; exact hy26.symm]
  exact pj_X_sub [(0, .ref 171), (1, .int y31), (2, .int (Int32.ofInt 0))] (show List.Nodup [0, 1, 2] by decide) ⟨rfl, rfl, rfl, trivial⟩ ((lp_ct_254 G0 hI   10) G27 iG27 kG27 y31 (Int32.ofInt 0) (pj_i32 _) ⟨by omega, by omega⟩ (by omega))
def kc_255 : pj_KT := ([(171, 0), (171, 1)], [171, 172], [])
theorem lp_ct_255 (G0 : pj_G) (hI0 : pj_Inv G0) (n : Int32) : ∀ mn : Nat, (∀ (G : pj_G) (hI : pj_Inv G) (hK : pj_kpt kc_255 G0 G) (v2 : Int32) (v3 : Int32) (v4 : Int32) (v5 : Int32) (v6 : Int32), ((0 : Int) ≤ v2.toInt ∧ v2.toInt ≤ 1023) → ((-2147483648 : Int) ≤ v3.toInt ∧ v3.toInt ≤ 2147483647) → ((-2147483648 : Int) ≤ v4.toInt ∧ v4.toInt ≤ 2147483647) → ((-2147483648 : Int) ≤ v5.toInt ∧ v5.toInt ≤ 2147483647) → ((0 : Int) ≤ v6.toInt ∧ v6.toInt ≤ 1024) → 1024 - v6.toInt < (mn : Int) → pj_X 4 pj_m255 G 46 [(0, .ref 171), (1, .int n), (2, .int v2), (3, .int v3), (4, .int v4), (5, .int v5), (6, .int v6)] [] (fun v G' => ∃ y : Int32, v = some (.int y) ∧ pj_Inv G' ∧ pj_kpt kc_255 G0 G' ∧ ((-2147483648 : Int) ≤ y.toInt ∧ y.toInt ≤ 2147483647))) := by
  have c0_ : ((Int16.ofInt 1000).toInt32).toInt = 1000 := by decide
  have c1_ : (Int32.ofInt (-1)).toInt = -1 := by decide
  have c2_ : (Int32.ofInt 0).toInt = 0 := by decide
  have c3_ : (Int32.ofInt 1).toInt = 1 := by decide
  intro mn
  induction mn with
  | zero =>
    intro G hI hK v2 v3 v4 v5 v6 rv2 rv3 rv4 rv5 rv6 hm
    exfalso
    omega
  | succ mn ih =>
    intro G hI hK v2 v3 v4 v5 v6 rv2 rv3 rv4 rv5 rv6 hm
    obtain ⟨y1, hy1⟩ : ∃ z : Int32, z = pj_fi G 171 1 := ⟨_, rfl⟩
    have ey1 : (pj_fi G 171 1).toInt = y1.toInt := by rw [hy1]
    have ry1 : (0 : Int) ≤ y1.toInt ∧ y1.toInt ≤ 24 := by rw [hy1]; exact hI.2.1 171 1 (0, 24) rfl
    refine pj_X_of (fun r h => pj_R_to (G, 49, [(0, .ref 171), (1, .int n), (2, .int v2), (3, .int v3), (4, .int v4), (5, .int v5), (6, .int v6)], [.int v2, .int v6], 0, 0) 49 3 (fun _ => rfl) h) ?_
    cases b2 : pj_c1 .gt v6 v2 with
    | true =>
      have ub2 := pj_u_gtT b2
      refine pj_X_of (fun r h => pj_R_icT 113 rfl rfl b2 h) ?_
      refine pj_X_of (fun r h => pj_R_to (G, 115, [(0, .ref 171), (1, .int n), (2, .int v2), (3, .int v3), (4, .int v4), (5, .int v5), (6, .int v6)], [.int (Int32.ofInt 0), .ref 171], 0, 0) 115 3 (fun _ => rfl) h) ?_
      refine pj_X_of (fun r h => pj_T_pf hI rfl rfl rfl h) ?_
      show pj_X _ _ (pj_wv G 171 1 (.int (Int32.ofInt 0))) 118 [(0, .ref 171), (1, .int n), (2, .int v2), (3, .int v3), (4, .int v4), (5, .int v5), (6, .int v6)] [] _
      obtain ⟨G3, hG3⟩ : ∃ H, H = pj_wv G 171 1 (.int (Int32.ofInt 0)) := ⟨_, rfl⟩
      have iG3 : pj_Inv G3 := by rw [hG3]; exact pj_Inv_wi hI (ci := 12) rfl (fun q hq => by cases hq; exact ⟨by show (0 : Int) ≤ _; omega, by show _ ≤ (24 : Int); omega⟩)
      have kG3 : pj_kpt kc_255 G0 G3 := by rw [hG3]; exact pj_kpt_v hK rfl
      rw [← hG3]
      refine pj_X_of (fun r h => pj_R_to (G3, 122, [(0, .ref 171), (1, .int n), (2, .int v2), (3, .int v3), (4, .int v4), (5, .int v5), (6, .int v6)], [.long v4.toInt64, .ref 171], 0, 0) 122 4 (fun _ => rfl) h) ?_
      have q4 : (pj_fi G3 171 1).toInt = (Int32.ofInt 0).toInt := by rw [show pj_fi G3 171 1 = Int32.ofInt 0 from by rw [hG3]; exact pj_fi_wi hI.1 (ci := 12) rfl _]
      have lc5 : (v4.toInt64).toInt = v4.toInt := Int32.toInt_toInt64 _
      refine pj_X_ca (vs := [.ref 171, .long v4.toInt64]) rfl (fun _ => rfl) ⟨Nat.le_of_ble_eq_true rfl, Nat.le_of_ble_eq_true rfl, pj_T_rcv iG3 rfl⟩ ⟨rfl, rfl⟩ (pj_Y_up (by decide) (ct_174x G3 iG3 v4.toInt64 (by omega))) ?_
      rintro _ G7 ⟨rfl, iG7, jG7, eG7, fy6⟩
      replace eG7 := eG7 _ rfl
      have kG7 : pj_kpt kc_255 G0 G7 := pj_kpt_t kG3 (pj_kpt_s jG7 rfl)
      obtain ⟨y8, hy8⟩ : ∃ z : Int32, z = pj_fi G7 171 1 := ⟨_, rfl⟩
      have ey8 : (pj_fi G7 171 1).toInt = y8.toInt := by rw [hy8]
      have ry8 : (0 : Int) ≤ y8.toInt ∧ y8.toInt ≤ 24 := by rw [hy8]; exact iG7.2.1 171 1 (0, 24) rfl
      show pj_X _ _ G7 125 [(0, .ref 171), (1, .int n), (2, .int v2), (3, .int v3), (4, .int v4), (5, .int v5), (6, .int v6)] [] _
      refine pj_X_of (fun r h => pj_R_to (G7, 127, [(0, .ref 171), (1, .int n), (2, .int v2), (3, .int v3), (4, .int v4), (5, .int v5), (6, .int v6)], [.int v5], 0, 0) 127 2 (fun _ => rfl) h) ?_
      have q9 : (pj_fi G7 171 1).toInt = y8.toInt := by rw [show pj_fi G7 171 1 = y8 from hy8.symm]
      exact pj_X_rt rfl rfl ⟨_, rfl, iG7, kG7, pj_i32 _⟩
    | false =>
      have ub2 := pj_u_gtF b2
      refine pj_X_of (fun r h => pj_R_icF rfl b2 h) ?_
      refine pj_X_of (fun r h => pj_R_to (G, 57, [(0, .ref 171), (1, .int n), (2, .int v2), (3, .int v3), (4, .int v4), (5, .int v5), (6, .int v6)], [.int (v2 ^^^ (Int32.ofInt (-1))), .int v6], 0, 0) 57 5 (fun _ => rfl) h) ?_
      obtain ⟨z10, hz10⟩ : ∃ z : Int32, z = v2 ^^^ (Int32.ofInt (-1)) := ⟨_, rfl⟩
      refine pj_X_eqi hz10.symm ?_
      refine pj_X_of (fun r h => pj_R_to (G, 58, [(0, .ref 171), (1, .int n), (2, .int v2), (3, .int v3), (4, .int v4), (5, .int v5), (6, .int v6)], [.int (v6 &&& z10)], 0, 0) 58 2 (fun _ => rfl) h) ?_
      obtain ⟨z11, hz11⟩ : ∃ z : Int32, z = v6 &&& z10 := ⟨_, rfl⟩
      refine pj_X_eqi hz11.symm ?_
      cases b12 : pj_c1 .ne z11 0 with
      | true =>
        have ub12 := pj_u0_neT b12
        refine pj_X_of (fun r h => pj_R_ifT 107 rfl rfl b12 h) ?_
        refine pj_X_of (fun r h => pj_R_to (G, 110, [(6, .int (v6 + Int32.ofInt 1)), (0, .ref 171), (1, .int n), (2, .int v2), (3, .int v3), (4, .int v4), (5, .int v5)], [], 0, 0) 110 2 (fun _ => rfl) h) ?_
        obtain ⟨z13, hz13⟩ : ∃ z : Int32, z = v6 + Int32.ofInt 1 := ⟨_, rfl⟩
        rw [← hz13]
        have fz13_0 : z13.toInt = v6.toInt + (Int32.ofInt 1).toInt := by rw [hz13]; exact pj_addI (by have := pj_i32 v6; have := pj_i32 (Int32.ofInt 1); omega) (by have := pj_i32 v6; have := pj_i32 (Int32.ofInt 1); omega)
        refine pj_X_of (fun r h => pj_R_to (G, 46, [(6, .int z13), (0, .ref 171), (1, .int n), (2, .int v2), (3, .int v3), (4, .int v4), (5, .int v5)], [], 0, 0) 46 2 (fun _ => rfl) h) ?_
        have q14 : (pj_fi G 171 1).toInt = y1.toInt := by rw [show pj_fi G 171 1 = y1 from hy1.symm]
        exact pj_X_sub [(0, .ref 171), (1, .int n), (2, .int v2), (3, .int v3), (4, .int v4), (5, .int v5), (6, .int z13)] (show List.Nodup [0, 1, 2, 3, 4, 5, 6] by decide) ⟨rfl, rfl, rfl, rfl, rfl, rfl, rfl, trivial⟩ (ih G hI hK v2 v3 v4 v5 z13 ⟨by omega, by omega⟩ (pj_i32 _) (pj_i32 _) (pj_i32 _) ⟨by omega, by omega⟩ (by omega))
      | false =>
        have ub12 := pj_u0_neF b12
        refine pj_X_of (fun r h => pj_R_ifF rfl b12 h) ?_
        refine pj_X_of (fun r h => pj_R_to (G, 63, [(0, .ref 171), (1, .int n), (2, .int v2), (3, .int v3), (4, .int v4), (5, .int v5), (6, .int v6)], [.int v6], 0, 0) 63 2 (fun _ => rfl) h) ?_
        have q15 : (pj_fi G 171 1).toInt = y1.toInt := by rw [show pj_fi G 171 1 = y1 from hy1.symm]
        refine pj_X_ca (vs := [.int v6]) rfl (fun _ => rfl) ⟨Nat.le_of_ble_eq_true rfl, Nat.le_of_ble_eq_true rfl, rfl⟩ ⟨rfl, rfl⟩ (pj_Y_up (by decide) (ct_287 G hI v6)) ?_
        rintro _ _ ⟨y16, rfl, rfl, ry16⟩
        show pj_X _ _ G 66 [(0, .ref 171), (1, .int n), (2, .int v2), (3, .int v3), (4, .int v4), (5, .int v5), (6, .int v6)] [.int y16] _
        refine pj_X_of (fun r h => pj_R_to (G, 67, [(0, .ref 171), (1, .int n), (2, .int v2), (3, .int v3), (4, .int v4), (5, .int v5), (6, .int v6)], [.int v3, .int y16], 0, 0) 67 2 (fun _ => rfl) h) ?_
        cases b17 : pj_c1 .ne y16 v3 with
        | true =>
          have ub17 := pj_u_neT b17
          refine pj_X_of (fun r h => pj_R_icT 107 rfl rfl b17 h) ?_
          refine pj_X_of (fun r h => pj_R_to (G, 110, [(6, .int (v6 + Int32.ofInt 1)), (0, .ref 171), (1, .int n), (2, .int v2), (3, .int v3), (4, .int v4), (5, .int v5)], [], 0, 0) 110 2 (fun _ => rfl) h) ?_
          obtain ⟨z18, hz18⟩ : ∃ z : Int32, z = v6 + Int32.ofInt 1 := ⟨_, rfl⟩
          rw [← hz18]
          have fz18_0 : z18.toInt = v6.toInt + (Int32.ofInt 1).toInt := by rw [hz18]; exact pj_addI (by have := pj_i32 v6; have := pj_i32 (Int32.ofInt 1); omega) (by have := pj_i32 v6; have := pj_i32 (Int32.ofInt 1); omega)
          refine pj_X_of (fun r h => pj_R_to (G, 46, [(6, .int z18), (0, .ref 171), (1, .int n), (2, .int v2), (3, .int v3), (4, .int v4), (5, .int v5)], [], 0, 0) 46 2 (fun _ => rfl) h) ?_
          have q19 : (pj_fi G 171 1).toInt = y1.toInt := by rw [show pj_fi G 171 1 = y1 from hy1.symm]
          exact pj_X_sub [(0, .ref 171), (1, .int n), (2, .int v2), (3, .int v3), (4, .int v4), (5, .int v5), (6, .int z18)] (show List.Nodup [0, 1, 2, 3, 4, 5, 6] by decide) ⟨rfl, rfl, rfl, rfl, rfl, rfl, rfl, trivial⟩ (ih G hI hK v2 v3 v4 v5 z18 ⟨by omega, by omega⟩ (pj_i32 _) (pj_i32 _) (pj_i32 _) ⟨by omega, by omega⟩ (by omega))
        | false =>
          have ub17 := pj_u_neF b17
          refine pj_X_of (fun r h => pj_R_icF rfl b17 h) ?_
          refine pj_X_of (fun r h => pj_R_to (G, 76, [(0, .ref 171), (1, .int n), (2, .int v2), (3, .int v3), (4, .int v4), (5, .int v5), (6, .int v6)], [.int (v6 ^^^ (Int32.ofInt (-1))), .int v2, .ref 171], 0, 0) 76 6 (fun _ => rfl) h) ?_
          obtain ⟨z20, hz20⟩ : ∃ z : Int32, z = v6 ^^^ (Int32.ofInt (-1)) := ⟨_, rfl⟩
          refine pj_X_eqi hz20.symm ?_
          refine pj_X_of (fun r h => pj_R_to (G, 77, [(0, .ref 171), (1, .int n), (2, .int v2), (3, .int v3), (4, .int v4), (5, .int v5), (6, .int v6)], [.int (v2 &&& z20), .ref 171], 0, 0) 77 2 (fun _ => rfl) h) ?_
          obtain ⟨z21, hz21⟩ : ∃ z : Int32, z = v2 &&& z20 := ⟨_, rfl⟩
          refine pj_X_eqi hz21.symm ?_
          have q22 : (pj_fi G 171 1).toInt = y1.toInt := by rw [show pj_fi G 171 1 = y1 from hy1.symm]
          refine pj_X_ca (vs := [.ref 171, .int z21]) rfl (fun _ => rfl) ⟨Nat.le_of_ble_eq_true rfl, Nat.le_of_ble_eq_true rfl, pj_T_rcv hI rfl⟩ ⟨rfl, rfl⟩ (pj_Y_up (by decide) (ct_209 G hI z21)) ?_
          rintro _ _ ⟨y23, rfl, rfl, ry23⟩
          show pj_X _ _ G 80 [(0, .ref 171), (1, .int n), (2, .int v2), (3, .int v3), (4, .int v4), (5, .int v5), (6, .int v6)] [.int y23] _
          refine pj_X_of (fun r h => pj_R_to (G, 86, [(7, .int y23), (0, .ref 171), (1, .int n), (2, .int v2), (3, .int v3), (4, .int v4), (5, .int v5), (6, .int v6)], [.int v5, .int y23], 0, 0) 86 4 (fun _ => rfl) h) ?_
          cases b24 : pj_c1 .ge y23 v5 with
          | true =>
            have ub24 := pj_u_geT b24
            refine pj_X_of (fun r h => pj_R_icT 94 rfl rfl b24 h) ?_
            refine pj_X_of (fun r h => pj_R_to (G, 102, [(4, .int v4), (7, .int y23), (0, .ref 171), (1, .int n), (2, .int v2), (3, .int v3), (5, .int v5), (6, .int v6)], [.int y23, .int v5], 0, 0) 102 5 (fun _ => rfl) h) ?_
            refine pj_X_of (fun r h => pj_R_mn (v := (if y23 < v5 then y23 else v5)) rfl rfl rfl (Nat.le_of_ble_eq_true rfl) h) ?_
            show pj_X _ _ G 105 [(4, .int v4), (7, .int y23), (0, .ref 171), (1, .int n), (2, .int v2), (3, .int v3), (5, .int v5), (6, .int v6)] [.int (if y23 < v5 then y23 else v5)] _
            obtain ⟨z25, hz25⟩ : ∃ z : Int32, z = (if y23 < v5 then y23 else v5) := ⟨_, rfl⟩
            refine pj_X_eqi hz25.symm ?_
            have fz25_0 : z25.toInt ≤ v5.toInt ∧ z25.toInt ≤ y23.toInt ∧ (z25.toInt = v5.toInt ∨ z25.toInt = y23.toInt) := by rw [hz25]; exact pj_minI
            refine pj_X_of (fun r h => pj_R_to (G, 110, [(6, .int (v6 + Int32.ofInt 1)), (5, .int z25), (4, .int v4), (7, .int y23), (0, .ref 171), (1, .int n), (2, .int v2), (3, .int v3)], [], 0, 0) 110 3 (fun _ => rfl) h) ?_
            obtain ⟨z26, hz26⟩ : ∃ z : Int32, z = v6 + Int32.ofInt 1 := ⟨_, rfl⟩
            rw [← hz26]
            have fz26_0 : z26.toInt = v6.toInt + (Int32.ofInt 1).toInt := by rw [hz26]; exact pj_addI (by have := pj_i32 v6; have := pj_i32 (Int32.ofInt 1); omega) (by have := pj_i32 v6; have := pj_i32 (Int32.ofInt 1); omega)
            refine pj_X_of (fun r h => pj_R_to (G, 46, [(6, .int z26), (5, .int z25), (4, .int v4), (7, .int y23), (0, .ref 171), (1, .int n), (2, .int v2), (3, .int v3)], [], 0, 0) 46 2 (fun _ => rfl) h) ?_
            have q27 : (pj_fi G 171 1).toInt = y1.toInt := by rw [show pj_fi G 171 1 = y1 from hy1.symm]
            exact pj_X_sub [(0, .ref 171), (1, .int n), (2, .int v2), (3, .int v3), (4, .int v4), (5, .int z25), (6, .int z26)] (show List.Nodup [0, 1, 2, 3, 4, 5, 6] by decide) ⟨rfl, rfl, rfl, rfl, rfl, rfl, rfl, trivial⟩ (ih G hI hK v2 v3 v4 z25 z26 ⟨by omega, by omega⟩ (pj_i32 _) (pj_i32 _) (pj_i32 _) ⟨by omega, by omega⟩ (by omega))
          | false =>
            have ub24 := pj_u_geF b24
            refine pj_X_of (fun r h => pj_R_icF rfl b24 h) ?_
            refine pj_X_of (fun r h => pj_R_to (G, 102, [(4, .int v6), (7, .int y23), (0, .ref 171), (1, .int n), (2, .int v2), (3, .int v3), (5, .int v5), (6, .int v6)], [.int y23, .int v5], 0, 0) 102 6 (fun _ => rfl) h) ?_
            refine pj_X_of (fun r h => pj_R_mn (v := (if y23 < v5 then y23 else v5)) rfl rfl rfl (Nat.le_of_ble_eq_true rfl) h) ?_
            show pj_X _ _ G 105 [(4, .int v6), (7, .int y23), (0, .ref 171), (1, .int n), (2, .int v2), (3, .int v3), (5, .int v5), (6, .int v6)] [.int (if y23 < v5 then y23 else v5)] _
            obtain ⟨z28, hz28⟩ : ∃ z : Int32, z = (if y23 < v5 then y23 else v5) := ⟨_, rfl⟩
            refine pj_X_eqi hz28.symm ?_
            have fz28_0 : z28.toInt ≤ v5.toInt ∧ z28.toInt ≤ y23.toInt ∧ (z28.toInt = v5.toInt ∨ z28.toInt = y23.toInt) := by rw [hz28]; exact pj_minI
            refine pj_X_of (fun r h => pj_R_to (G, 110, [(6, .int (v6 + Int32.ofInt 1)), (5, .int z28), (4, .int v6), (7, .int y23), (0, .ref 171), (1, .int n), (2, .int v2), (3, .int v3)], [], 0, 0) 110 3 (fun _ => rfl) h) ?_
            obtain ⟨z29, hz29⟩ : ∃ z : Int32, z = v6 + Int32.ofInt 1 := ⟨_, rfl⟩
            rw [← hz29]
            have fz29_0 : z29.toInt = v6.toInt + (Int32.ofInt 1).toInt := by rw [hz29]; exact pj_addI (by have := pj_i32 v6; have := pj_i32 (Int32.ofInt 1); omega) (by have := pj_i32 v6; have := pj_i32 (Int32.ofInt 1); omega)
            refine pj_X_of (fun r h => pj_R_to (G, 46, [(6, .int z29), (5, .int z28), (4, .int v6), (7, .int y23), (0, .ref 171), (1, .int n), (2, .int v2), (3, .int v3)], [], 0, 0) 46 2 (fun _ => rfl) h) ?_
            have q30 : (pj_fi G 171 1).toInt = y1.toInt := by rw [show pj_fi G 171 1 = y1 from hy1.symm]
            exact pj_X_sub [(0, .ref 171), (1, .int n), (2, .int v2), (3, .int v3), (4, .int v6), (5, .int z28), (6, .int z29)] (show List.Nodup [0, 1, 2, 3, 4, 5, 6] by decide) ⟨rfl, rfl, rfl, rfl, rfl, rfl, rfl, trivial⟩ (ih G hI hK v2 v3 v6 z28 z29 ⟨by omega, by omega⟩ (pj_i32 _) (pj_i32 _) (pj_i32 _) ⟨by omega, by omega⟩ (by omega))
theorem ct_255 (G0 : pj_G) (hI : pj_Inv G0) (n : Int32) : pj_Y 5 255 [.ref 171, .int n] G0 (fun v G' => ∃ y : Int32, v = some (.int y) ∧ pj_Inv G' ∧ pj_kpt kc_255 G0 G' ∧ ((-2147483648 : Int) ≤ y.toInt ∧ y.toInt ≤ 2147483647)) := by
  have c0_ : ((Int16.ofInt 1000).toInt32).toInt = 1000 := by decide
  have c1_ : (Int32.ofInt (-1)).toInt = -1 := by decide
  have c2_ : (Int32.ofInt 0).toInt = 0 := by decide
  have c3_ : (Int32.ofInt 1).toInt = 1 := by decide
  refine pj_Y_X (M := pj_m255) rfl rfl (Nat.le_of_ble_eq_true rfl) ?_
  have hK : pj_kpt kc_255 G0 G0 := pj_kpt_r _ _
  show pj_X _ _ G0 0 [(0, .ref 171), (1, .int n)] [] _
  obtain ⟨y31, hy31⟩ : ∃ z : Int32, z = pj_fi G0 171 1 := ⟨_, rfl⟩
  have ey31 : (pj_fi G0 171 1).toInt = y31.toInt := by rw [hy31]
  have ry31 : (0 : Int) ≤ y31.toInt ∧ y31.toInt ≤ 24 := by rw [hy31]; exact hI.2.1 171 1 (0, 24) rfl
  refine pj_X_of (fun r h => pj_R_to (G0, 2, [(0, .ref 171), (1, .int n)], [.int (Int32.ofInt 0), .ref 171], 0, 0) 2 3 (fun _ => rfl) h) ?_
  refine pj_X_of (fun r h => pj_T_pf hI rfl rfl rfl h) ?_
  show pj_X _ _ (pj_wv G0 171 0 (.int (Int32.ofInt 0))) 5 [(0, .ref 171), (1, .int n)] [] _
  obtain ⟨G32, hG32⟩ : ∃ H, H = pj_wv G0 171 0 (.int (Int32.ofInt 0)) := ⟨_, rfl⟩
  have iG32 : pj_Inv G32 := by rw [hG32]; exact pj_Inv_wi hI (ci := 12) rfl (fun q hq => by cases hq)
  have kG32 : pj_kpt kc_255 G0 G32 := by rw [hG32]; exact pj_kpt_v hK rfl
  rw [← hG32]
  refine pj_X_of (fun r h => pj_R_to (G32, 11, [(0, .ref 171), (1, .int n)], [.long (Int64.ofInt 3), .long (Int64.ofNat 0), .long n.toInt64], 0, 0) 11 5 (fun _ => rfl) h) ?_
  have q33 : (pj_fi G32 171 1).toInt = y31.toInt := by rw [show pj_fi G32 171 1 = y31 from by rw [hG32, pj_fi_wv_ne _ _ _ _ _ _ (by decide)]; exact hy31.symm]
  have lc34 : (n.toInt64).toInt = n.toInt := Int32.toInt_toInt64 _
  have lc35 : (Int64.ofNat 0).toInt = 0 := by decide
  have lc36 : (Int64.ofInt 3).toInt = 3 := by decide
  refine pj_X_ca (vs := [.long n.toInt64, .long (Int64.ofNat 0), .long (Int64.ofInt 3)]) rfl (fun _ => rfl) ⟨Nat.le_of_ble_eq_true rfl, Nat.le_of_ble_eq_true rfl, rfl⟩ ⟨rfl, rfl⟩ (pj_Y_up (by decide) (ct_170x G32 iG32 n.toInt64 (Int64.ofNat 0) (Int64.ofInt 3))) ?_
  rintro _ _ ⟨y37, rfl, rfl, ry37, ey37, fy37⟩
  show pj_X _ _ G32 14 [(0, .ref 171), (1, .int n)] [.int y37] _
  cases b38 : pj_c1 .ne y37 0 with
  | true =>
    have ub38 := pj_u0_neT b38
    refine pj_X_of (fun r h => pj_R_ifT 19 rfl rfl b38 h) ?_
    refine pj_X_of (fun r h => pj_R_to (G32, 22, [(0, .ref 171), (1, .int n)], [.int (Int32.ofInt 0), .int (Int32.ofInt 0), .ref 171], 0, 0) 22 4 (fun _ => rfl) h) ?_
    have q39 : (pj_fi G32 171 1).toInt = y31.toInt := by rw [show pj_fi G32 171 1 = y31 from by rw [hG32, pj_fi_wv_ne _ _ _ _ _ _ (by decide)]; exact hy31.symm]
    refine pj_X_ca (vs := [.ref 171, .int (Int32.ofInt 0), .int (Int32.ofInt 0)]) rfl (fun _ => rfl) ⟨Nat.le_of_ble_eq_true rfl, Nat.le_of_ble_eq_true rfl, pj_T_rcv iG32 rfl⟩ ⟨rfl, rfl⟩ (pj_Y_up (by decide) (ct_206x G32 iG32 (Int32.ofInt 0) (Int32.ofInt 0))) ?_
    rintro _ _ ⟨y40, rfl, rfl, ry40, ey40, fy40⟩
    replace ey40 := ey40 _ rfl
    show pj_X _ _ G32 25 [(0, .ref 171), (1, .int n)] [.int y40] _
    refine pj_X_of (fun r h => pj_R_to (G32, 28, [(2, .int y40), (0, .ref 171), (1, .int n)], [.int y40, .int n], 0, 0) 28 4 (fun _ => rfl) h) ?_
    have q41 : (pj_fi G32 171 1).toInt = y31.toInt := by rw [show pj_fi G32 171 1 = y31 from by rw [hG32, pj_fi_wv_ne _ _ _ _ _ _ (by decide)]; exact hy31.symm]
    refine pj_X_ca (vs := [.int y40]) rfl (fun _ => rfl) ⟨Nat.le_of_ble_eq_true rfl, Nat.le_of_ble_eq_true rfl, rfl⟩ ⟨rfl, rfl⟩ (pj_Y_up (by decide) (ct_287 G32 iG32 y40)) ?_
    rintro _ _ ⟨y42, rfl, rfl, ry42⟩
    show pj_X _ _ G32 31 [(2, .int y40), (0, .ref 171), (1, .int n)] [.int y42, .int n] _
    refine pj_X_of (fun r h => pj_R_mn (v := (if y42 < n then y42 else n)) rfl rfl rfl (Nat.le_of_ble_eq_true rfl) h) ?_
    show pj_X _ _ G32 34 [(2, .int y40), (0, .ref 171), (1, .int n)] [.int (if y42 < n then y42 else n)] _
    obtain ⟨z43, hz43⟩ : ∃ z : Int32, z = (if y42 < n then y42 else n) := ⟨_, rfl⟩
    refine pj_X_eqi hz43.symm ?_
    have fz43_0 : z43.toInt ≤ n.toInt ∧ z43.toInt ≤ y42.toInt ∧ (z43.toInt = n.toInt ∨ z43.toInt = y42.toInt) := by rw [hz43]; exact pj_minI
    refine pj_X_of (fun r h => pj_R_to (G32, 46, [(6, .int (Int32.ofInt 0)), (5, .int ((Int16.ofInt 1000).toInt32)), (4, .int (Int32.ofInt 0)), (3, .int z43), (2, .int y40), (0, .ref 171), (1, .int n)], [], 0, 0) 46 8 (fun _ => rfl) h) ?_
    have q44 : (pj_fi G32 171 1).toInt = y31.toInt := by rw [show pj_fi G32 171 1 = y31 from by rw [hG32, pj_fi_wv_ne _ _ _ _ _ _ (by decide)]; exact hy31.symm]
    exact pj_X_sub [(0, .ref 171), (1, .int n), (2, .int y40), (3, .int z43), (4, .int (Int32.ofInt 0)), (5, .int ((Int16.ofInt 1000).toInt32)), (6, .int (Int32.ofInt 0))] (show List.Nodup [0, 1, 2, 3, 4, 5, 6] by decide) ⟨rfl, rfl, rfl, rfl, rfl, rfl, rfl, trivial⟩ ((lp_ct_255 G0 hI n  1025) G32 iG32 kG32 y40 z43 (Int32.ofInt 0) ((Int16.ofInt 1000).toInt32) (Int32.ofInt 0) ⟨by omega, by omega⟩ (pj_i32 _) (pj_i32 _) (pj_i32 _) ⟨by omega, by omega⟩ (by omega))
  | false =>
    have ub38 := pj_u0_neF b38
    refine pj_X_of (fun r h => pj_R_ifF rfl b38 h) ?_
    refine pj_X_of (fun r h => pj_R_to (G32, 18, [(0, .ref 171), (1, .int n)], [.int (Int32.ofInt (-1))], 0, 0) 18 2 (fun _ => rfl) h) ?_
    have q45 : (pj_fi G32 171 1).toInt = y31.toInt := by rw [show pj_fi G32 171 1 = y31 from by rw [hG32, pj_fi_wv_ne _ _ _ _ _ _ (by decide)]; exact hy31.symm]
    exact pj_X_rt rfl rfl ⟨_, rfl, iG32, kG32, pj_i32 _⟩
