def kc_38k : pj_KT := ([(153, 0), (153, 5), (153, 7), (153, 8), (159, 0), (159, 5), (159, 7), (159, 8), (165, 0), (165, 5), (165, 7), (165, 8)], [56, 153, 154, 155, 156, 157, 158, 159, 160, 161, 162, 163, 164, 165, 166, 167, 168, 169, 170], [56, 154, 155, 156, 157, 158, 160, 161, 162, 163, 164, 166, 167, 168, 169, 170])
theorem ct_38k (G0 : pj_G) (hI : pj_Inv G0) (i : Int32) : pj_Y 2 38 [.ref 53, .int i, .ref 21] G0 (fun v G' => ∃ y : Int32, v = some (.int y) ∧ pj_Inv G' ∧ pj_kpt kc_38k G0 G' ∧ ((0 : Int) ≤ y.toInt ∧ y.toInt ≤ 1) ∧ ((0 ≤ i.toInt ∧ i.toInt ≤ 2 → y.toInt = 1) ∧ (¬ (0 ≤ i.toInt ∧ i.toInt ≤ 2) → y.toInt = 0))) := by
  have c0_ : (Int32.ofInt 0).toInt = 0 := by decide
  have c1_ : (Int32.ofInt 1).toInt = 1 := by decide
  have c2_ : (Int32.ofInt 3).toInt = 3 := by decide
  refine pj_Y_X (M := pj_m38) rfl rfl (Nat.le_of_ble_eq_true rfl) ?_
  have hK : pj_kpt kc_38k G0 G0 := pj_kpt_r _ _
  show pj_X _ _ G0 0 [(0, .ref 53), (1, .int i), (2, .ref 21)] [] _
  refine pj_X_of (fun r h => pj_R_to (G0, 1, [(0, .ref 53), (1, .int i), (2, .ref 21)], [.int i], 0, 0) 1 2 (fun _ => rfl) h) ?_
  cases b1 : pj_c1 .lt i 0 with
  | true =>
    have ub1 := pj_u0_ltT b1
    refine pj_X_of (fun r h => pj_R_ifT 9 rfl rfl b1 h) ?_
    refine pj_X_of (fun r h => pj_R_to (G0, 10, [(0, .ref 53), (1, .int i), (2, .ref 21)], [.int (Int32.ofInt 0)], 0, 0) 10 2 (fun _ => rfl) h) ?_
    exact pj_X_rt rfl rfl ⟨_, rfl, hI, hK, ⟨by omega, by omega⟩, by omega⟩
  | false =>
    have ub1 := pj_u0_ltF b1
    refine pj_X_of (fun r h => pj_R_ifF rfl b1 h) ?_
    refine pj_X_of (fun r h => pj_R_to (G0, 6, [(0, .ref 53), (1, .int i), (2, .ref 21)], [.int (Int32.ofInt 3), .int i], 0, 0) 6 3 (fun _ => rfl) h) ?_
    cases b2 : pj_c1 .lt i (Int32.ofInt 3) with
    | true =>
      have ub2 := pj_u_ltT b2
      refine pj_X_of (fun r h => pj_R_icT 11 rfl rfl b2 h) ?_
      refine pj_X_of (fun r h => pj_R_to (G0, 12, [(0, .ref 53), (1, .int i), (2, .ref 21)], [.ref 53], 0, 0) 12 2 (fun _ => rfl) h) ?_
      refine pj_X_of (fun r h => pj_T_gr hI rfl rfl rfl h) ?_
      refine pj_X_of (fun r h => pj_R_to (G0, 16, [(0, .ref 53), (1, .int i), (2, .ref 21)], [.int i, .ref 55], 0, 0) 16 2 (fun _ => rfl) h) ?_
      by_cases t3 : i.toInt = 0
      · refine pj_X_aa hI rfl rfl (k := 0) (by show _ = ((0 : Nat) : Int); omega) (by decide) rfl ?_
        refine pj_X_of (fun r h => pj_R_to (G0, 18, [(0, .ref 53), (1, .int i), (2, .ref 21)], [.ref 21, .ref 153], 0, 0) 18 2 (fun _ => rfl) h) ?_
        refine pj_X_ca (vs := [.ref 153, .ref 21]) rfl (fun _ => rfl) ⟨Nat.le_of_ble_eq_true rfl, Nat.le_of_ble_eq_true rfl, pj_T_rcv hI rfl⟩ ⟨rfl, rfl⟩ (pj_Y_up (by decide) (ct_68_153_21 G0 hI)) ?_
        rintro _ G5 ⟨rfl, iG5, jG5⟩
        have kG5 : pj_kpt kc_38k G0 G5 := pj_kpt_t hK (pj_kpt_s jG5 rfl)
        show pj_X _ _ G5 21 [(0, .ref 53), (1, .int i), (2, .ref 21)] [] _
        refine pj_X_of (fun r h => pj_R_to (G5, 22, [(0, .ref 53), (1, .int i), (2, .ref 21)], [.ref 53], 0, 0) 22 2 (fun _ => rfl) h) ?_
        refine pj_X_of (fun r h => pj_T_gr iG5 rfl rfl rfl h) ?_
        refine pj_X_of (fun r h => pj_R_to (G5, 27, [(0, .ref 53), (1, .int i), (2, .ref 21)], [.int (Int32.ofInt 1), .int i, .ref 56], 0, 0) 27 3 (fun _ => rfl) h) ?_
        refine pj_X_of (fun r h => pj_T_bs iG5 rfl rfl (by omega) (by omega) h) ?_
        show pj_X _ _ (pj_wa G5 56 i.toInt.toNat (vp_nar .boolean (Int32.ofInt 1))) 28 [(0, .ref 53), (1, .int i), (2, .ref 21)] [] _
        obtain ⟨G6, hG6⟩ : ∃ H, H = pj_wa G5 56 i.toInt.toNat (vp_nar .boolean (Int32.ofInt 1)) := ⟨_, rfl⟩
        have iG6 : pj_Inv G6 := by rw [hG6]; exact pj_Inv_wb iG5 rfl rfl rfl
        have kG6 : pj_kpt kc_38k G0 G6 := by rw [hG6]; exact pj_kpt_a kG5 rfl
        rw [← hG6]
        refine pj_X_of (fun r h => pj_R_to (G6, 29, [(0, .ref 53), (1, .int i), (2, .ref 21)], [.int (Int32.ofInt 1)], 0, 0) 29 2 (fun _ => rfl) h) ?_
        exact pj_X_rt rfl rfl ⟨_, rfl, iG6, kG6, ⟨by omega, by omega⟩, by omega⟩
      by_cases t7 : i.toInt = 1
      · refine pj_X_aa hI rfl rfl (k := 1) (by show _ = ((1 : Nat) : Int); omega) (by decide) rfl ?_
        refine pj_X_of (fun r h => pj_R_to (G0, 18, [(0, .ref 53), (1, .int i), (2, .ref 21)], [.ref 21, .ref 159], 0, 0) 18 2 (fun _ => rfl) h) ?_
        refine pj_X_ca (vs := [.ref 159, .ref 21]) rfl (fun _ => rfl) ⟨Nat.le_of_ble_eq_true rfl, Nat.le_of_ble_eq_true rfl, pj_T_rcv hI rfl⟩ ⟨rfl, rfl⟩ (pj_Y_up (by decide) (ct_68_159_21 G0 hI)) ?_
        rintro _ G9 ⟨rfl, iG9, jG9⟩
        have kG9 : pj_kpt kc_38k G0 G9 := pj_kpt_t hK (pj_kpt_s jG9 rfl)
        show pj_X _ _ G9 21 [(0, .ref 53), (1, .int i), (2, .ref 21)] [] _
        refine pj_X_of (fun r h => pj_R_to (G9, 22, [(0, .ref 53), (1, .int i), (2, .ref 21)], [.ref 53], 0, 0) 22 2 (fun _ => rfl) h) ?_
        refine pj_X_of (fun r h => pj_T_gr iG9 rfl rfl rfl h) ?_
        refine pj_X_of (fun r h => pj_R_to (G9, 27, [(0, .ref 53), (1, .int i), (2, .ref 21)], [.int (Int32.ofInt 1), .int i, .ref 56], 0, 0) 27 3 (fun _ => rfl) h) ?_
        refine pj_X_of (fun r h => pj_T_bs iG9 rfl rfl (by omega) (by omega) h) ?_
        show pj_X _ _ (pj_wa G9 56 i.toInt.toNat (vp_nar .boolean (Int32.ofInt 1))) 28 [(0, .ref 53), (1, .int i), (2, .ref 21)] [] _
        obtain ⟨G10, hG10⟩ : ∃ H, H = pj_wa G9 56 i.toInt.toNat (vp_nar .boolean (Int32.ofInt 1)) := ⟨_, rfl⟩
        have iG10 : pj_Inv G10 := by rw [hG10]; exact pj_Inv_wb iG9 rfl rfl rfl
        have kG10 : pj_kpt kc_38k G0 G10 := by rw [hG10]; exact pj_kpt_a kG9 rfl
        rw [← hG10]
        refine pj_X_of (fun r h => pj_R_to (G10, 29, [(0, .ref 53), (1, .int i), (2, .ref 21)], [.int (Int32.ofInt 1)], 0, 0) 29 2 (fun _ => rfl) h) ?_
        exact pj_X_rt rfl rfl ⟨_, rfl, iG10, kG10, ⟨by omega, by omega⟩, by omega⟩
      · refine pj_X_aa hI rfl rfl (k := 2) (by show _ = ((2 : Nat) : Int); omega) (by decide) rfl ?_
        refine pj_X_of (fun r h => pj_R_to (G0, 18, [(0, .ref 53), (1, .int i), (2, .ref 21)], [.ref 21, .ref 165], 0, 0) 18 2 (fun _ => rfl) h) ?_
        refine pj_X_ca (vs := [.ref 165, .ref 21]) rfl (fun _ => rfl) ⟨Nat.le_of_ble_eq_true rfl, Nat.le_of_ble_eq_true rfl, pj_T_rcv hI rfl⟩ ⟨rfl, rfl⟩ (pj_Y_up (by decide) (ct_68_165_21 G0 hI)) ?_
        rintro _ G12 ⟨rfl, iG12, jG12⟩
        have kG12 : pj_kpt kc_38k G0 G12 := pj_kpt_t hK (pj_kpt_s jG12 rfl)
        show pj_X _ _ G12 21 [(0, .ref 53), (1, .int i), (2, .ref 21)] [] _
        refine pj_X_of (fun r h => pj_R_to (G12, 22, [(0, .ref 53), (1, .int i), (2, .ref 21)], [.ref 53], 0, 0) 22 2 (fun _ => rfl) h) ?_
        refine pj_X_of (fun r h => pj_T_gr iG12 rfl rfl rfl h) ?_
        refine pj_X_of (fun r h => pj_R_to (G12, 27, [(0, .ref 53), (1, .int i), (2, .ref 21)], [.int (Int32.ofInt 1), .int i, .ref 56], 0, 0) 27 3 (fun _ => rfl) h) ?_
        refine pj_X_of (fun r h => pj_T_bs iG12 rfl rfl (by omega) (by omega) h) ?_
        show pj_X _ _ (pj_wa G12 56 i.toInt.toNat (vp_nar .boolean (Int32.ofInt 1))) 28 [(0, .ref 53), (1, .int i), (2, .ref 21)] [] _
        obtain ⟨G13, hG13⟩ : ∃ H, H = pj_wa G12 56 i.toInt.toNat (vp_nar .boolean (Int32.ofInt 1)) := ⟨_, rfl⟩
        have iG13 : pj_Inv G13 := by rw [hG13]; exact pj_Inv_wb iG12 rfl rfl rfl
        have kG13 : pj_kpt kc_38k G0 G13 := by rw [hG13]; exact pj_kpt_a kG12 rfl
        rw [← hG13]
        refine pj_X_of (fun r h => pj_R_to (G13, 29, [(0, .ref 53), (1, .int i), (2, .ref 21)], [.int (Int32.ofInt 1)], 0, 0) 29 2 (fun _ => rfl) h) ?_
        exact pj_X_rt rfl rfl ⟨_, rfl, iG13, kG13, ⟨by omega, by omega⟩, by omega⟩
    | false =>
      have ub2 := pj_u_ltF b2
      refine pj_X_of (fun r h => pj_R_icF rfl b2 h) ?_
      refine pj_X_of (fun r h => pj_R_to (G0, 10, [(0, .ref 53), (1, .int i), (2, .ref 21)], [.int (Int32.ofInt 0)], 0, 0) 10 2 (fun _ => rfl) h) ?_
      exact pj_X_rt rfl rfl ⟨_, rfl, hI, hK, ⟨by omega, by omega⟩, by omega⟩
def kc_157k : pj_KT := ([(153, 0), (153, 5), (153, 7), (153, 8), (159, 0), (159, 5), (159, 7), (159, 8), (165, 0), (165, 5), (165, 7), (165, 8)], [56, 153, 154, 155, 156, 157, 158, 159, 160, 161, 162, 163, 164, 165, 166, 167, 168, 169, 170], [56, 154, 155, 156, 157, 158, 160, 161, 162, 163, 164, 166, 167, 168, 169, 170])
theorem ct_157k (G0 : pj_G) (hI : pj_Inv G0) (i : Int32) : pj_Y 3 157 [.ref 1, .int i] G0 (fun v G' => ∃ y : Int32, v = some (.int y) ∧ pj_Inv G' ∧ pj_kpt kc_157k G0 G' ∧ ((0 : Int) ≤ y.toInt ∧ y.toInt ≤ 1) ∧ ((0 ≤ i.toInt ∧ i.toInt ≤ 2 → y.toInt = 1) ∧ (¬ (0 ≤ i.toInt ∧ i.toInt ≤ 2) → y.toInt = 0))) := by
  refine pj_Y_X (M := pj_m157) rfl rfl (Nat.le_of_ble_eq_true rfl) ?_
  have hK : pj_kpt kc_157k G0 G0 := pj_kpt_r _ _
  show pj_X _ _ G0 0 [(0, .ref 1), (1, .int i)] [] _
  refine pj_X_of (fun r h => pj_R_to (G0, 1, [(0, .ref 1), (1, .int i)], [.ref 1], 0, 0) 1 2 (fun _ => rfl) h) ?_
  refine pj_X_of (fun r h => pj_T_gr hI rfl rfl rfl h) ?_
  refine pj_X_of (fun r h => pj_R_to (G0, 6, [(0, .ref 1), (1, .int i)], [.ref 1, .int i, .ref 53], 0, 0) 6 3 (fun _ => rfl) h) ?_
  refine pj_X_of (fun r h => pj_T_gr hI rfl rfl rfl h) ?_
  refine pj_X_of (fun r h => pj_T_gr hI rfl rfl rfl h) ?_
  refine pj_X_ca (vs := [.ref 53, .int i, .ref 21]) rfl (fun _ => rfl) ⟨Nat.le_of_ble_eq_true rfl, Nat.le_of_ble_eq_true rfl, pj_T_rcv hI rfl⟩ ⟨rfl, rfl⟩ (pj_Y_up (by decide) (ct_38k G0 hI i)) ?_
  rintro _ G2 ⟨y1, rfl, iG2, jG2, ry1, ey1⟩
  have kG2 : pj_kpt kc_157k G0 G2 := pj_kpt_t hK (pj_kpt_s jG2 rfl)
  show pj_X _ _ G2 15 [(0, .ref 1), (1, .int i)] [.int y1] _
  exact pj_X_rt (v := some (.int y1)) rfl (pj_rtb ⟨by omega, by omega⟩) ⟨_, rfl, iG2, kG2, ⟨by omega, by omega⟩, by omega⟩
def kc_281k : pj_KT := ([(171, 0)], [171, 200, 201, 202], [200, 201, 202])
theorem lp_ct_281k (G0 : pj_G) (hI0 : pj_Inv G0) (i : Int32) : ∀ mn : Nat, (∀ (G : pj_G) (hI : pj_Inv G) (hK : pj_kpt kc_281k G0 G) (v2 : Int32), ((0 : Int) ≤ v2.toInt ∧ v2.toInt ≤ 32) → (0 ≤ i.toInt ∧ i.toInt ≤ 2) → 32 - v2.toInt < (mn : Int) → pj_X 1 pj_m281 G 38 [(0, .ref 171), (1, .int i), (2, .int v2)] [] (fun v G' => ∃ y : Int32, v = some (.int y) ∧ pj_Inv G' ∧ pj_kpt kc_281k G0 G' ∧ ((0 : Int) ≤ y.toInt ∧ y.toInt ≤ 1) ∧ ((0 ≤ i.toInt ∧ i.toInt ≤ 2 → y.toInt = 1) ∧ (¬ (0 ≤ i.toInt ∧ i.toInt ≤ 2) → y.toInt = 0)))) := by
  have c0_ : ((Int8.ofInt 32).toInt32).toInt = 32 := by decide
  have c1_ : (Int32.ofInt 0).toInt = 0 := by decide
  have c2_ : (Int32.ofInt 1).toInt = 1 := by decide
  intro mn
  induction mn with
  | zero =>
    intro G hI hK v2 rv2 x0_ hm
    exfalso
    omega
  | succ mn ih =>
    intro G hI hK v2 rv2 x0_ hm
    refine pj_X_of (fun r h => pj_R_to (G, 41, [(0, .ref 171), (1, .int i), (2, .int v2)], [.int ((Int8.ofInt 32).toInt32), .int v2], 0, 0) 41 3 (fun _ => rfl) h) ?_
    cases b1 : pj_c1 .ge v2 ((Int8.ofInt 32).toInt32) with
    | true =>
      have ub1 := pj_u_geT b1
      refine pj_X_of (fun r h => pj_R_icT 67 rfl rfl b1 h) ?_
      refine pj_X_of (fun r h => pj_R_to (G, 68, [(0, .ref 171), (1, .int i), (2, .int v2)], [.int (Int32.ofInt 1)], 0, 0) 68 2 (fun _ => rfl) h) ?_
      exact pj_X_rt rfl rfl ⟨_, rfl, hI, hK, ⟨by omega, by omega⟩, by omega⟩
    | false =>
      have ub1 := pj_u_geF b1
      refine pj_X_of (fun r h => pj_R_icF rfl b1 h) ?_
      refine pj_X_of (fun r h => pj_R_to (G, 45, [(0, .ref 171), (1, .int i), (2, .int v2)], [.ref 171], 0, 0) 45 2 (fun _ => rfl) h) ?_
      refine pj_X_of (fun r h => pj_T_gr hI rfl rfl rfl h) ?_
      refine pj_X_of (fun r h => pj_R_to (G, 52, [(0, .ref 171), (1, .int i), (2, .int v2)], [.int (((Int8.ofInt 32).toInt32) * i), .ref 202], 0, 0) 52 4 (fun _ => rfl) h) ?_
      obtain ⟨z2, hz2⟩ : ∃ z : Int32, z = ((Int8.ofInt 32).toInt32) * i := ⟨_, rfl⟩
      refine pj_X_eqi hz2.symm ?_
      have fz2_0 : z2.toInt = 32 * i.toInt := by rw [hz2]; exact pj_mulL (by decide) (by omega) (by omega)
      refine pj_X_of (fun r h => pj_R_to (G, 54, [(0, .ref 171), (1, .int i), (2, .int v2)], [.int (z2 + v2), .ref 202], 0, 0) 54 3 (fun _ => rfl) h) ?_
      obtain ⟨z3, hz3⟩ : ∃ z : Int32, z = z2 + v2 := ⟨_, rfl⟩
      refine pj_X_eqi hz3.symm ?_
      have fz3_0 : z3.toInt = z2.toInt + v2.toInt := by rw [hz3]; exact pj_addI (by have := pj_i32 z2; have := pj_i32 v2; omega) (by have := pj_i32 z2; have := pj_i32 v2; omega)
      refine pj_X_of (fun r h => pj_R_to (G, 55, [(0, .ref 171), (1, .int i), (2, .int v2)], [.ref 171, .int z3, .ref 202], 0, 0) 55 2 (fun _ => rfl) h) ?_
      refine pj_X_of (fun r h => pj_T_gr hI rfl rfl rfl h) ?_
      refine pj_X_of (fun r h => pj_R_to (G, 59, [(0, .ref 171), (1, .int i), (2, .int v2)], [.int v2, .ref 179, .int z3, .ref 202], 0, 0) 59 2 (fun _ => rfl) h) ?_
      refine pj_X_of (fun r h => pj_T_il hI rfl rfl (by omega) (by omega) h) ?_
      show pj_X _ _ G 60 [(0, .ref 171), (1, .int i), (2, .int v2)] [.int (pj_ai G 179 v2.toInt.toNat), .int z3, .ref 202] _
      obtain ⟨z4, hz4⟩ : ∃ z : Int32, z = pj_ai G 179 v2.toInt.toNat := ⟨_, rfl⟩
      refine pj_X_eqi hz4.symm ?_
      have ez4 : (pj_ai G 179 v2.toInt.toNat).toInt = z4.toInt := by rw [hz4]
      have fz4_0 : (v2.toInt.toNat % 32 < 24 → (v2.toInt.toNat % 4 = 0 → -1 ≤ z4.toInt ∧ z4.toInt ≤ 9) ∧ (v2.toInt.toNat % 4 = 1 → 0 ≤ z4.toInt)) ∧ (24 ≤ v2.toInt.toNat % 32 ∧ v2.toInt.toNat % 32 < 30 → 0 ≤ z4.toInt ∧ z4.toInt ≤ 7) := by rw [hz4]; exact hI.2.2.2 179 32 rfl _ (by show _ < 32; omega)
      refine pj_X_of (fun r h => pj_T_is hI rfl rfl (by omega) (by omega) h) ?_
      show pj_X _ _ (pj_wa G 202 z3.toInt.toNat z4) 61 [(0, .ref 171), (1, .int i), (2, .int v2)] [] _
      obtain ⟨G5, hG5⟩ : ∃ H, H = pj_wa G 202 z3.toInt.toNat z4 := ⟨_, rfl⟩
      have iG5 : pj_Inv G5 := by rw [hG5]; exact pj_Inv_wa hI rfl (fun q hq => by cases hq) (fun n hn => ⟨fun h1 => ⟨fun h2 => by omega, fun h2 => by omega⟩, fun h1 => by omega⟩)
      have kG5 : pj_kpt kc_281k G0 G5 := by rw [hG5]; exact pj_kpt_a hK rfl
      rw [← hG5]
      refine pj_X_of (fun r h => pj_R_to (G5, 64, [(2, .int (v2 + Int32.ofInt 1)), (0, .ref 171), (1, .int i)], [], 0, 0) 64 2 (fun _ => rfl) h) ?_
      obtain ⟨z6, hz6⟩ : ∃ z : Int32, z = v2 + Int32.ofInt 1 := ⟨_, rfl⟩
      rw [← hz6]
      have fz6_0 : z6.toInt = v2.toInt + (Int32.ofInt 1).toInt := by rw [hz6]; exact pj_addI (by have := pj_i32 v2; have := pj_i32 (Int32.ofInt 1); omega) (by have := pj_i32 v2; have := pj_i32 (Int32.ofInt 1); omega)
      refine pj_X_of (fun r h => pj_R_to (G5, 38, [(2, .int z6), (0, .ref 171), (1, .int i)], [], 0, 0) 38 2 (fun _ => rfl) h) ?_
      exact pj_X_sub [(0, .ref 171), (1, .int i), (2, .int z6)] (show List.Nodup [0, 1, 2] by decide) ⟨rfl, rfl, rfl, trivial⟩ (ih G5 iG5 kG5 z6 ⟨by omega, by omega⟩ (by omega) (by omega))
theorem ct_281k (G0 : pj_G) (hI : pj_Inv G0) (i : Int32) : pj_Y 2 281 [.ref 171, .int i] G0 (fun v G' => ∃ y : Int32, v = some (.int y) ∧ pj_Inv G' ∧ pj_kpt kc_281k G0 G' ∧ ((0 : Int) ≤ y.toInt ∧ y.toInt ≤ 1) ∧ ((0 ≤ i.toInt ∧ i.toInt ≤ 2 → y.toInt = 1) ∧ (¬ (0 ≤ i.toInt ∧ i.toInt ≤ 2) → y.toInt = 0))) := by
  have c0_ : ((Int8.ofInt 32).toInt32).toInt = 32 := by decide
  have c1_ : (Int32.ofInt 0).toInt = 0 := by decide
  have c2_ : (Int32.ofInt 1).toInt = 1 := by decide
  refine pj_Y_X (M := pj_m281) rfl rfl (Nat.le_of_ble_eq_true rfl) ?_
  have hK : pj_kpt kc_281k G0 G0 := pj_kpt_r _ _
  show pj_X _ _ G0 0 [(0, .ref 171), (1, .int i)] [] _
  refine pj_X_of (fun r h => pj_R_to (G0, 2, [(0, .ref 171), (1, .int i)], [.int (Int32.ofInt 0), .ref 171], 0, 0) 2 3 (fun _ => rfl) h) ?_
  refine pj_X_of (fun r h => pj_T_pf hI rfl rfl rfl h) ?_
  show pj_X _ _ (pj_wv G0 171 0 (.int (Int32.ofInt 0))) 5 [(0, .ref 171), (1, .int i)] [] _
  obtain ⟨G7, hG7⟩ : ∃ H, H = pj_wv G0 171 0 (.int (Int32.ofInt 0)) := ⟨_, rfl⟩
  have iG7 : pj_Inv G7 := by rw [hG7]; exact pj_Inv_wi hI (ci := 12) rfl (fun q hq => by cases hq)
  have kG7 : pj_kpt kc_281k G0 G7 := by rw [hG7]; exact pj_kpt_v hK rfl
  rw [← hG7]
  refine pj_X_of (fun r h => pj_R_to (G7, 11, [(0, .ref 171), (1, .int i)], [.long (Int64.ofInt 2), .long (Int64.ofNat 0), .long i.toInt64], 0, 0) 11 5 (fun _ => rfl) h) ?_
  have lc8 : (i.toInt64).toInt = i.toInt := Int32.toInt_toInt64 _
  have lc9 : (Int64.ofNat 0).toInt = 0 := by decide
  have lc10 : (Int64.ofInt 2).toInt = 2 := by decide
  refine pj_X_ca (vs := [.long i.toInt64, .long (Int64.ofNat 0), .long (Int64.ofInt 2)]) rfl (fun _ => rfl) ⟨Nat.le_of_ble_eq_true rfl, Nat.le_of_ble_eq_true rfl, rfl⟩ ⟨rfl, rfl⟩ (pj_Y_up (by decide) (ct_170 G7 iG7 i.toInt64 (Int64.ofNat 0) (Int64.ofInt 2))) ?_
  rintro _ _ ⟨y11, rfl, rfl, ry11, ey11⟩
  show pj_X _ _ G7 14 [(0, .ref 171), (1, .int i)] [.int y11] _
  cases b12 : pj_c1 .ne y11 0 with
  | true =>
    have ub12 := pj_u0_neT b12
    refine pj_X_of (fun r h => pj_R_ifT 19 rfl rfl b12 h) ?_
    refine pj_X_of (fun r h => pj_R_to (G7, 20, [(0, .ref 171), (1, .int i)], [.ref 171], 0, 0) 20 2 (fun _ => rfl) h) ?_
    refine pj_X_of (fun r h => pj_T_gr iG7 rfl rfl rfl h) ?_
    refine pj_X_of (fun r h => pj_R_to (G7, 25, [(0, .ref 171), (1, .int i)], [.int (Int32.ofInt 1), .int i, .ref 200], 0, 0) 25 3 (fun _ => rfl) h) ?_
    refine pj_X_of (fun r h => pj_T_bs iG7 rfl rfl (by omega) (by omega) h) ?_
    show pj_X _ _ (pj_wa G7 200 i.toInt.toNat (vp_nar .boolean (Int32.ofInt 1))) 26 [(0, .ref 171), (1, .int i)] [] _
    obtain ⟨G13, hG13⟩ : ∃ H, H = pj_wa G7 200 i.toInt.toNat (vp_nar .boolean (Int32.ofInt 1)) := ⟨_, rfl⟩
    have iG13 : pj_Inv G13 := by rw [hG13]; exact pj_Inv_wb iG7 rfl rfl rfl
    have kG13 : pj_kpt kc_281k G0 G13 := by rw [hG13]; exact pj_kpt_a kG7 rfl
    rw [← hG13]
    refine pj_X_of (fun r h => pj_R_to (G13, 27, [(0, .ref 171), (1, .int i)], [.ref 171], 0, 0) 27 2 (fun _ => rfl) h) ?_
    refine pj_X_of (fun r h => pj_T_gr iG13 rfl rfl rfl h) ?_
    refine pj_X_of (fun r h => pj_R_to (G13, 32, [(0, .ref 171), (1, .int i)], [.ref 171, .int i, .ref 201], 0, 0) 32 3 (fun _ => rfl) h) ?_
    refine pj_X_of (fun r h => pj_T_gi iG13 rfl rfl h) ?_
    show pj_X _ _ G13 35 [(0, .ref 171), (1, .int i)] [.int (pj_fi G13 171 7), .int i, .ref 201] _
    obtain ⟨y14, hy14⟩ : ∃ z : Int32, z = pj_fi G13 171 7 := ⟨_, rfl⟩
    refine pj_X_eqi hy14.symm ?_
    have ey14 : (pj_fi G13 171 7).toInt = y14.toInt := by rw [hy14]
    refine pj_X_of (fun r h => pj_T_is iG13 rfl rfl (by omega) (by omega) h) ?_
    show pj_X _ _ (pj_wa G13 201 i.toInt.toNat y14) 36 [(0, .ref 171), (1, .int i)] [] _
    obtain ⟨G15, hG15⟩ : ∃ H, H = pj_wa G13 201 i.toInt.toNat y14 := ⟨_, rfl⟩
    have iG15 : pj_Inv G15 := by rw [hG15]; exact pj_Inv_wa iG13 rfl (fun q hq => by cases hq) (fun n hn => by cases hn)
    have kG15 : pj_kpt kc_281k G0 G15 := by rw [hG15]; exact pj_kpt_a kG13 rfl
    rw [← hG15]
    refine pj_X_of (fun r h => pj_R_to (G15, 38, [(2, .int (Int32.ofInt 0)), (0, .ref 171), (1, .int i)], [], 0, 0) 38 3 (fun _ => rfl) h) ?_
    exact pj_X_sub [(0, .ref 171), (1, .int i), (2, .int (Int32.ofInt 0))] (show List.Nodup [0, 1, 2] by decide) ⟨rfl, rfl, rfl, trivial⟩ ((lp_ct_281k G0 hI i  33) G15 iG15 kG15 (Int32.ofInt 0) ⟨by omega, by omega⟩ (by omega) (by omega))
  | false =>
    have ub12 := pj_u0_neF b12
    refine pj_X_of (fun r h => pj_R_ifF rfl b12 h) ?_
    refine pj_X_of (fun r h => pj_R_to (G7, 18, [(0, .ref 171), (1, .int i)], [.int (Int32.ofInt 0)], 0, 0) 18 2 (fun _ => rfl) h) ?_
    exact pj_X_rt rfl rfl ⟨_, rfl, iG7, kG7, ⟨by omega, by omega⟩, by omega⟩
