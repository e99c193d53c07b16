def kc_77tx : pj_KT := ([(2, 1)], [2, 3], [3])
noncomputable def L_77tx (G0 : pj_G) (w : Int32) (fu : Nat) : Int32 → pj_G → Int32 × pj_G := Nat.rec (motive := fun _ => Int32 → pj_G → Int32 × pj_G) (fun _ G => (0, G)) (fun _ ih v2 G => cond (pj_c1 .lt v2 0) (pj_nm (pj_fi G 2 1) (fun y1 => (y1, G))) (pj_nm (pj_fi G 2 1) (fun y1 => pj_nm ((w.toUInt32 >>> (v2.toUInt32 &&& Int32.toUInt32 31)).toInt32) (fun z4 => pj_nm (z4 &&& ((Int16.ofInt 255).toInt32)) (fun z5 => pj_nm (pj_wa G 3 y1.toInt.toNat z5) (fun G6 => pj_nm (y1 + (Int32.ofInt 1)) (fun z7 => pj_nm (pj_wv G6 2 1 (.int z7)) (fun G8 => pj_nm (v2 + Int32.ofInt (-8)) (fun z9 => ih z9 G8))))))))) fu
theorem L_77tx_s0 (G0 : pj_G) (w : Int32) (fu : Nat) (v2 : Int32) (G : pj_G) : L_77tx G0 w (fu + 1) v2 G = cond (pj_c1 .lt v2 0) (pj_nm (pj_fi G 2 1) (fun y1 => (y1, G))) (pj_nm (pj_fi G 2 1) (fun y1 => pj_nm ((w.toUInt32 >>> (v2.toUInt32 &&& Int32.toUInt32 31)).toInt32) (fun z4 => pj_nm (z4 &&& ((Int16.ofInt 255).toInt32)) (fun z5 => pj_nm (pj_wa G 3 y1.toInt.toNat z5) (fun G6 => pj_nm (y1 + (Int32.ofInt 1)) (fun z7 => pj_nm (pj_wv G6 2 1 (.int z7)) (fun G8 => pj_nm (v2 + Int32.ofInt (-8)) (fun z9 => L_77tx G0 w fu z9 G8)))))))) := rfl
noncomputable def F_77tx (G0 : pj_G) (w : Int32) : Int32 × pj_G := pj_nm (pj_fi G0 2 1) (fun y11 => cond (pj_c1 .le y11 ((Int8.ofInt 76).toInt32)) (L_77tx G0 w 41 ((Int8.ofInt 24).toInt32) G0) ((Int32.ofInt (-1), G0)))
theorem F_77tx_e (G0 : pj_G) (w : Int32) : F_77tx G0 w = pj_nm (pj_fi G0 2 1) (fun y11 => cond (pj_c1 .le y11 ((Int8.ofInt 76).toInt32)) (L_77tx G0 w 41 ((Int8.ofInt 24).toInt32) G0) ((Int32.ofInt (-1), G0))) := rfl
theorem lp_ct_77tx (G0 : pj_G) (hI0 : pj_Inv G0) (w : Int32) : ∀ mn : Nat, (∀ (G : pj_G) (hI : pj_Inv G) (hK : pj_kpt kc_77tx G0 G) (v2 : Int32), ((-8 : Int) ≤ v2.toInt ∧ v2.toInt ≤ 24) → (v2.toInt % 8 = 0) → (8 * (pj_fi G 2 1).toInt + v2.toInt = 8 * (pj_fi G0 2 1).toInt + 24) → ((pj_fi G0 2 1).toInt ≤ 76 ∧ 0 ≤ (pj_fi G0 2 1).toInt) → v2.toInt + 8 < (mn : Int) → pj_X 0 pj_m77 G 14 [(0, .ref 2), (1, .int w), (2, .int v2)] [] (fun v' G' => ∃ y : Int32, v' = some (.int y) ∧ pj_Inv G' ∧ pj_kpt kc_77tx G0 G' ∧ ((-1 : Int) ≤ y.toInt ∧ y.toInt ≤ 80) ∧ (∀ H, G0 = H → (((pj_fi H 2 1).toInt ≤ 76 → y.toInt = (pj_fi H 2 1).toInt + 4 ∧ (pj_fi G' 2 1).toInt = (pj_fi H 2 1).toInt + 4) ∧ (76 < (pj_fi H 2 1).toInt → y.toInt = -1 ∧ (pj_fi G' 2 1).toInt = (pj_fi H 2 1).toInt))) ∧ ((y, G') = L_77tx G0 w mn v2 G))) := by
  have c0_ : ((Int16.ofInt 255).toInt32).toInt = 255 := by decide
  have c1_ : ((Int8.ofInt 24).toInt32).toInt = 24 := by decide
  have c2_ : ((Int8.ofInt 76).toInt32).toInt = 76 := by decide
  have c3_ : (Int32.ofInt (-1)).toInt = -1 := by decide
  have c4_ : (Int32.ofInt (-8)).toInt = -8 := by decide
  have c5_ : (Int32.ofInt 1).toInt = 1 := by decide
  intro mn
  induction mn with
  | zero =>
    intro G hI hK v2 rv2 x0_ x1_ x2_ hm
    exfalso
    omega
  | succ mn ih =>
    intro G hI hK v2 rv2 x0_ x1_ x2_ hm
    rw [L_77tx_s0]
    obtain ⟨y1, hy1⟩ : ∃ z : Int32, z = pj_fi G 2 1 := ⟨_, rfl⟩
    have ey1 : (pj_fi G 2 1).toInt = y1.toInt := by rw [hy1]
    have ry1 : (0 : Int) ≤ y1.toInt ∧ y1.toInt ≤ 80 := by rw [hy1]; exact hI.2.1 2 1 (0, 80) rfl
    refine pj_X_of (fun r h => pj_R_to (G, 15, [(0, .ref 2), (1, .int w), (2, .int v2)], [.int v2], 0, 0) 15 2 (fun _ => rfl) h) ?_
    cases b2 : pj_c1 .lt v2 0 with
    | true =>
      rw [pj_cT]
      have ub2 := pj_u0_ltT b2
      refine pj_X_of (fun r h => pj_R_ifT 50 rfl rfl b2 h) ?_
      refine pj_X_of (fun r h => pj_R_to (G, 51, [(0, .ref 2), (1, .int w), (2, .int v2)], [.ref 2], 0, 0) 51 2 (fun _ => rfl) h) ?_
      refine pj_X_of (fun r h => pj_T_gi hI rfl rfl h) ?_
      show pj_X _ _ G 54 [(0, .ref 2), (1, .int w), (2, .int v2)] [.int (pj_fi G 2 1)] _
      rw [← hy1, pj_nm_e]
      have q3 : (pj_fi G 2 1).toInt = y1.toInt := by rw [show pj_fi G 2 1 = y1 from hy1.symm]
      exact pj_X_rt rfl rfl ⟨_, rfl, hI, hK, ⟨by omega, by omega⟩, (fun H hH => by subst hH; exact (by omega)), rfl⟩
    | false =>
      rw [pj_cF]
      have ub2 := pj_u0_ltF b2
      refine pj_X_of (fun r h => pj_R_ifF rfl b2 h) ?_
      refine pj_X_of (fun r h => pj_R_to (G, 19, [(0, .ref 2), (1, .int w), (2, .int v2)], [.ref 2], 0, 0) 19 2 (fun _ => rfl) h) ?_
      refine pj_X_of (fun r h => pj_T_gr hI rfl rfl rfl h) ?_
      refine pj_X_of (fun r h => pj_R_to (G, 23, [(0, .ref 2), (1, .int w), (2, .int v2)], [.ref 2, .ref 3], 0, 0) 23 2 (fun _ => rfl) h) ?_
      refine pj_X_of (fun r h => pj_T_gi hI rfl rfl h) ?_
      show pj_X _ _ G 26 [(0, .ref 2), (1, .int w), (2, .int v2)] [.int (pj_fi G 2 1), .ref 3] _
      rw [← hy1, pj_nm_e]
      refine pj_X_of (fun r h => pj_R_to (G, 29, [(0, .ref 2), (1, .int w), (2, .int v2)], [.int ((w.toUInt32 >>> (v2.toUInt32 &&& Int32.toUInt32 31)).toInt32), .int y1, .ref 3], 0, 0) 29 4 (fun _ => rfl) h) ?_
      obtain ⟨z4, hz4⟩ : ∃ z : Int32, z = (w.toUInt32 >>> (v2.toUInt32 &&& Int32.toUInt32 31)).toInt32 := ⟨_, rfl⟩
      refine pj_X_eqi hz4.symm ?_
      rw [← hz4, pj_nm_e]
      refine pj_X_of (fun r h => pj_R_to (G, 33, [(0, .ref 2), (1, .int w), (2, .int v2)], [.int (z4 &&& ((Int16.ofInt 255).toInt32)), .int y1, .ref 3], 0, 0) 33 3 (fun _ => rfl) h) ?_
      obtain ⟨z5, hz5⟩ : ∃ z : Int32, z = z4 &&& ((Int16.ofInt 255).toInt32) := ⟨_, rfl⟩
      refine pj_X_eqi hz5.symm ?_
      rw [← hz5, pj_nm_e]
      have fz5_0 : 0 ≤ z5.toInt ∧ z5.toInt ≤ ((Int16.ofInt 255).toInt32).toInt := by rw [hz5]; exact pj_andI (by omega)
      refine pj_X_of (fun r h => pj_T_is hI rfl rfl (by omega) (by omega) h) ?_
      show pj_X _ _ (pj_wa G 3 y1.toInt.toNat z5) 34 [(0, .ref 2), (1, .int w), (2, .int v2)] [] _
      obtain ⟨G6, hG6⟩ : ∃ H, H = pj_wa G 3 y1.toInt.toNat z5 := ⟨_, rfl⟩
      have iG6 : pj_Inv G6 := by rw [hG6]; exact pj_Inv_wa hI rfl (fun q hq => by cases hq; exact ⟨by show (0 : Int) ≤ _; omega, by show _ ≤ (255 : Int); omega, by show _ ≤ (0 : Int) ∨ (0 : Int) ≤ _; omega⟩) (fun n hn => by cases hn)
      have kG6 : pj_kpt kc_77tx G0 G6 := by rw [hG6]; exact pj_kpt_a hK rfl
      rw [← hG6]
      rw [pj_nm_e]
      refine pj_X_of (fun r h => pj_R_to (G6, 36, [(0, .ref 2), (1, .int w), (2, .int v2)], [.ref 2, .ref 2], 0, 0) 36 3 (fun _ => rfl) h) ?_
      refine pj_X_of (fun r h => pj_T_gi iG6 rfl rfl h) ?_
      show pj_X _ _ G6 39 [(0, .ref 2), (1, .int w), (2, .int v2)] [.int (pj_fi G6 2 1), .ref 2] _
      refine pj_X_eqi (show pj_fi G6 2 1 = y1 from by rw [hG6, pj_fi_wa]; exact hy1.symm) ?_
      refine pj_X_of (fun r h => pj_R_to (G6, 41, [(0, .ref 2), (1, .int w), (2, .int v2)], [.int (y1 + (Int32.ofInt 1)), .ref 2], 0, 0) 41 3 (fun _ => rfl) h) ?_
      obtain ⟨z7, hz7⟩ : ∃ z : Int32, z = y1 + (Int32.ofInt 1) := ⟨_, rfl⟩
      refine pj_X_eqi hz7.symm ?_
      rw [← hz7, pj_nm_e]
      have fz7_0 : z7.toInt = y1.toInt + (Int32.ofInt 1).toInt := by rw [hz7]; exact pj_addI (by have := pj_i32 y1; have := pj_i32 (Int32.ofInt 1); omega) (by have := pj_i32 y1; have := pj_i32 (Int32.ofInt 1); omega)
      refine pj_X_of (fun r h => pj_T_pf iG6 rfl rfl rfl h) ?_
      show pj_X _ _ (pj_wv G6 2 1 (.int z7)) 44 [(0, .ref 2), (1, .int w), (2, .int v2)] [] _
      obtain ⟨G8, hG8⟩ : ∃ H, H = pj_wv G6 2 1 (.int z7) := ⟨_, rfl⟩
      have iG8 : pj_Inv G8 := by rw [hG8]; exact pj_Inv_wi iG6 (ci := 9) rfl (fun q hq => by cases hq; exact ⟨by show (0 : Int) ≤ _; omega, by show _ ≤ (80 : Int); omega⟩)
      have kG8 : pj_kpt kc_77tx G0 G8 := by rw [hG8]; exact pj_kpt_v kG6 rfl
      rw [← hG8]
      rw [pj_nm_e]
      refine pj_X_of (fun r h => pj_R_to (G8, 47, [(2, .int (v2 + Int32.ofInt (-8))), (0, .ref 2), (1, .int w)], [], 0, 0) 47 2 (fun _ => rfl) h) ?_
      obtain ⟨z9, hz9⟩ : ∃ z : Int32, z = v2 + Int32.ofInt (-8) := ⟨_, rfl⟩
      rw [← hz9]
      rw [pj_nm_e]
      have fz9_0 : z9.toInt = v2.toInt + (Int32.ofInt (-8)).toInt := by rw [hz9]; exact pj_addI (by have := pj_i32 v2; have := pj_i32 (Int32.ofInt (-8)); omega) (by have := pj_i32 v2; have := pj_i32 (Int32.ofInt (-8)); omega)
      refine pj_X_of (fun r h => pj_R_to (G8, 14, [(2, .int z9), (0, .ref 2), (1, .int w)], [], 0, 0) 14 2 (fun _ => rfl) h) ?_
      have q10 : (pj_fi G8 2 1).toInt = z7.toInt := by rw [show pj_fi G8 2 1 = z7 from by rw [hG8]; exact pj_fi_wi iG6.1 (ci := 9) rfl _]
      exact pj_X_sub [(0, .ref 2), (1, .int w), (2, .int z9)] (show List.Nodup [0, 1, 2] by decide) ⟨rfl, rfl, rfl, trivial⟩ (ih G8 iG8 kG8 z9 ⟨by omega, by omega⟩ (by omega) (by omega) (by omega) (by omega))
theorem ct_77tx (G0 : pj_G) (hI : pj_Inv G0) (w : Int32) : pj_Y 1 77 [.ref 2, .int w] G0 (fun v' G' => ∃ y : Int32, v' = some (.int y) ∧ pj_Inv G' ∧ pj_kpt kc_77tx G0 G' ∧ ((-1 : Int) ≤ y.toInt ∧ y.toInt ≤ 80) ∧ (∀ H, G0 = H → (((pj_fi H 2 1).toInt ≤ 76 → y.toInt = (pj_fi H 2 1).toInt + 4 ∧ (pj_fi G' 2 1).toInt = (pj_fi H 2 1).toInt + 4) ∧ (76 < (pj_fi H 2 1).toInt → y.toInt = -1 ∧ (pj_fi G' 2 1).toInt = (pj_fi H 2 1).toInt))) ∧ ((y, G') = F_77tx G0 w)) := by
  have c0_ : ((Int16.ofInt 255).toInt32).toInt = 255 := by decide
  have c1_ : ((Int8.ofInt 24).toInt32).toInt = 24 := by decide
  have c2_ : ((Int8.ofInt 76).toInt32).toInt = 76 := by decide
  have c3_ : (Int32.ofInt (-1)).toInt = -1 := by decide
  have c4_ : (Int32.ofInt (-8)).toInt = -8 := by decide
  have c5_ : (Int32.ofInt 1).toInt = 1 := by decide
  refine pj_Y_X (M := pj_m77) rfl rfl (Nat.le_of_ble_eq_true rfl) ?_
  have hK : pj_kpt kc_77tx G0 G0 := pj_kpt_r _ _
  show pj_X _ _ G0 0 [(0, .ref 2), (1, .int w)] [] _
  rw [F_77tx_e]
  obtain ⟨y11, hy11⟩ : ∃ z : Int32, z = pj_fi G0 2 1 := ⟨_, rfl⟩
  have ey11 : (pj_fi G0 2 1).toInt = y11.toInt := by rw [hy11]
  have ry11 : (0 : Int) ≤ y11.toInt ∧ y11.toInt ≤ 80 := by rw [hy11]; exact hI.2.1 2 1 (0, 80) rfl
  refine pj_X_of (fun r h => pj_R_to (G0, 1, [(0, .ref 2), (1, .int w)], [.ref 2], 0, 0) 1 2 (fun _ => rfl) h) ?_
  refine pj_X_of (fun r h => pj_T_gi hI rfl rfl h) ?_
  show pj_X _ _ G0 4 [(0, .ref 2), (1, .int w)] [.int (pj_fi G0 2 1)] _
  rw [← hy11, pj_nm_e]
  refine pj_X_of (fun r h => pj_R_to (G0, 6, [(0, .ref 2), (1, .int w)], [.int ((Int8.ofInt 76).toInt32), .int y11], 0, 0) 6 2 (fun _ => rfl) h) ?_
  cases b12 : pj_c1 .le y11 ((Int8.ofInt 76).toInt32) with
  | true =>
    rw [pj_cT]
    have ub12 := pj_u_leT b12
    refine pj_X_of (fun r h => pj_R_icT 11 rfl rfl b12 h) ?_
    refine pj_X_of (fun r h => pj_R_to (G0, 14, [(2, .int ((Int8.ofInt 24).toInt32)), (0, .ref 2), (1, .int w)], [], 0, 0) 14 3 (fun _ => rfl) h) ?_
    have q13 : (pj_fi G0 2 1).toInt = y11.toInt := by rw [show pj_fi G0 2 1 = y11 from hy11.symm]
    exact pj_X_sub [(0, .ref 2), (1, .int w), (2, .int ((Int8.ofInt 24).toInt32))] (show List.Nodup [0, 1, 2] by decide) ⟨rfl, rfl, rfl, trivial⟩ ((lp_ct_77tx G0 hI w  41) G0 hI hK ((Int8.ofInt 24).toInt32) ⟨by omega, by omega⟩ (by omega) (by omega) (by omega) (by omega))
  | false =>
    rw [pj_cF]
    have ub12 := pj_u_leF b12
    refine pj_X_of (fun r h => pj_R_icF rfl b12 h) ?_
    refine pj_X_of (fun r h => pj_R_to (G0, 10, [(0, .ref 2), (1, .int w)], [.int (Int32.ofInt (-1))], 0, 0) 10 2 (fun _ => rfl) h) ?_
    have q14 : (pj_fi G0 2 1).toInt = y11.toInt := by rw [show pj_fi G0 2 1 = y11 from hy11.symm]
    exact pj_X_rt rfl rfl ⟨_, rfl, hI, hK, ⟨by omega, by omega⟩, (fun H hH => by subst hH; exact (by omega)), rfl⟩
theorem fr_77tx (G0 : pj_G) (hI : pj_Inv G0) (w : Int32) : pj_Inv (F_77tx G0 w).2 ∧ pj_kpt kc_77tx G0 (F_77tx G0 w).2 ∧ ((-1 : Int) ≤ (F_77tx G0 w).1.toInt ∧ (F_77tx G0 w).1.toInt ≤ 80) ∧ (((pj_fi G0 2 1).toInt ≤ 76 → (F_77tx G0 w).1.toInt = (pj_fi G0 2 1).toInt + 4 ∧ (pj_fi (F_77tx G0 w).2 2 1).toInt = (pj_fi G0 2 1).toInt + 4) ∧ (76 < (pj_fi G0 2 1).toInt → (F_77tx G0 w).1.toInt = -1 ∧ (pj_fi (F_77tx G0 w).2 2 1).toInt = (pj_fi G0 2 1).toInt)) := by
  obtain ⟨v, G', -, y, -, i, j, r, x, e⟩ := ct_77tx G0 hI w
  rw [← e]
  exact ⟨i, j, r, x _ rfl⟩
def kc_78tx : pj_KT := ([(2, 1)], [2], [])
noncomputable def F_78tx (G0 : pj_G) (n : Int32) : Int32 × pj_G := cond (pj_c1 .lt n 0) ((Int32.ofInt 0, G0)) (pj_nm (pj_fi G0 2 1) (fun y1 => cond (pj_c1 .le n y1) (pj_nm (pj_wv G0 2 1 (.int n)) (fun G5 => (Int32.ofInt 1, G5))) ((Int32.ofInt 0, G0))))
theorem F_78tx_e (G0 : pj_G) (n : Int32) : F_78tx G0 n = cond (pj_c1 .lt n 0) ((Int32.ofInt 0, G0)) (pj_nm (pj_fi G0 2 1) (fun y1 => cond (pj_c1 .le n y1) (pj_nm (pj_wv G0 2 1 (.int n)) (fun G5 => (Int32.ofInt 1, G5))) ((Int32.ofInt 0, G0)))) := rfl
theorem ct_78tx (G0 : pj_G) (hI : pj_Inv G0) (n : Int32) : pj_Y 1 78 [.ref 2, .int n] G0 (fun v' G' => ∃ y : Int32, v' = some (.int y) ∧ pj_Inv G' ∧ pj_kpt kc_78tx G0 G' ∧ ((0 : Int) ≤ y.toInt ∧ y.toInt ≤ 1) ∧ (∀ H, G0 = H → ((0 ≤ n.toInt ∧ n.toInt ≤ (pj_fi H 2 1).toInt → y.toInt = 1 ∧ (pj_fi G' 2 1).toInt = n.toInt) ∧ (¬ (0 ≤ n.toInt ∧ n.toInt ≤ (pj_fi H 2 1).toInt) → y.toInt = 0 ∧ (pj_fi G' 2 1).toInt = (pj_fi H 2 1).toInt))) ∧ ((y, G') = F_78tx G0 n)) := by
  have c0_ : (Int32.ofInt 0).toInt = 0 := by decide
  have c1_ : (Int32.ofInt 1).toInt = 1 := by decide
  refine pj_Y_X (M := pj_m78) rfl rfl (Nat.le_of_ble_eq_true rfl) ?_
  have hK : pj_kpt kc_78tx G0 G0 := pj_kpt_r _ _
  show pj_X _ _ G0 0 [(0, .ref 2), (1, .int n)] [] _
  rw [F_78tx_e]
  obtain ⟨y1, hy1⟩ : ∃ z : Int32, z = pj_fi G0 2 1 := ⟨_, rfl⟩
  have ey1 : (pj_fi G0 2 1).toInt = y1.toInt := by rw [hy1]
  have ry1 : (0 : Int) ≤ y1.toInt ∧ y1.toInt ≤ 80 := by rw [hy1]; exact hI.2.1 2 1 (0, 80) rfl
  refine pj_X_of (fun r h => pj_R_to (G0, 1, [(0, .ref 2), (1, .int n)], [.int n], 0, 0) 1 2 (fun _ => rfl) h) ?_
  cases b2 : pj_c1 .lt n 0 with
  | true =>
    rw [pj_cT]
    have ub2 := pj_u0_ltT b2
    refine pj_X_of (fun r h => pj_R_ifT 12 rfl rfl b2 h) ?_
    refine pj_X_of (fun r h => pj_R_to (G0, 13, [(0, .ref 2), (1, .int n)], [.int (Int32.ofInt 0)], 0, 0) 13 2 (fun _ => rfl) h) ?_
    have q3 : (pj_fi G0 2 1).toInt = y1.toInt := by rw [show pj_fi G0 2 1 = y1 from hy1.symm]
    exact pj_X_rt rfl rfl ⟨_, rfl, hI, hK, ⟨by omega, by omega⟩, (fun H hH => by subst hH; exact (by omega)), rfl⟩
  | false =>
    rw [pj_cF]
    have ub2 := pj_u0_ltF b2
    refine pj_X_of (fun r h => pj_R_ifF rfl b2 h) ?_
    refine pj_X_of (fun r h => pj_R_to (G0, 6, [(0, .ref 2), (1, .int n)], [.ref 2, .int n], 0, 0) 6 3 (fun _ => rfl) h) ?_
    refine pj_X_of (fun r h => pj_T_gi hI rfl rfl h) ?_
    show pj_X _ _ G0 9 [(0, .ref 2), (1, .int n)] [.int (pj_fi G0 2 1), .int n] _
    rw [← hy1, pj_nm_e]
    cases b4 : pj_c1 .le n y1 with
    | true =>
      rw [pj_cT]
      have ub4 := pj_u_leT b4
      refine pj_X_of (fun r h => pj_R_icT 14 rfl rfl b4 h) ?_
      refine pj_X_of (fun r h => pj_R_to (G0, 16, [(0, .ref 2), (1, .int n)], [.int n, .ref 2], 0, 0) 16 3 (fun _ => rfl) h) ?_
      refine pj_X_of (fun r h => pj_T_pf hI rfl rfl rfl h) ?_
      show pj_X _ _ (pj_wv G0 2 1 (.int n)) 19 [(0, .ref 2), (1, .int n)] [] _
      obtain ⟨G5, hG5⟩ : ∃ H, H = pj_wv G0 2 1 (.int n) := ⟨_, rfl⟩
      have iG5 : pj_Inv G5 := by rw [hG5]; exact pj_Inv_wi hI (ci := 9) rfl (fun q hq => by cases hq; exact ⟨by show (0 : Int) ≤ _; omega, by show _ ≤ (80 : Int); omega⟩)
      have kG5 : pj_kpt kc_78tx G0 G5 := by rw [hG5]; exact pj_kpt_v hK rfl
      rw [← hG5]
      rw [pj_nm_e]
      refine pj_X_of (fun r h => pj_R_to (G5, 20, [(0, .ref 2), (1, .int n)], [.int (Int32.ofInt 1)], 0, 0) 20 2 (fun _ => rfl) h) ?_
      have q6 : (pj_fi G5 2 1).toInt = n.toInt := by rw [show pj_fi G5 2 1 = n from by rw [hG5]; exact pj_fi_wi hI.1 (ci := 9) rfl _]
      exact pj_X_rt rfl rfl ⟨_, rfl, iG5, kG5, ⟨by omega, by omega⟩, (fun H hH => by subst hH; exact (by omega)), rfl⟩
    | false =>
      rw [pj_cF]
      have ub4 := pj_u_leF b4
      refine pj_X_of (fun r h => pj_R_icF rfl b4 h) ?_
      refine pj_X_of (fun r h => pj_R_to (G0, 13, [(0, .ref 2), (1, .int n)], [.int (Int32.ofInt 0)], 0, 0) 13 2 (fun _ => rfl) h) ?_
      have q7 : (pj_fi G0 2 1).toInt = y1.toInt := by rw [show pj_fi G0 2 1 = y1 from hy1.symm]
      exact pj_X_rt rfl rfl ⟨_, rfl, hI, hK, ⟨by omega, by omega⟩, (fun H hH => by subst hH; exact (by omega)), rfl⟩
theorem fr_78tx (G0 : pj_G) (hI : pj_Inv G0) (n : Int32) : pj_Inv (F_78tx G0 n).2 ∧ pj_kpt kc_78tx G0 (F_78tx G0 n).2 ∧ ((0 : Int) ≤ (F_78tx G0 n).1.toInt ∧ (F_78tx G0 n).1.toInt ≤ 1) ∧ ((0 ≤ n.toInt ∧ n.toInt ≤ (pj_fi G0 2 1).toInt → (F_78tx G0 n).1.toInt = 1 ∧ (pj_fi (F_78tx G0 n).2 2 1).toInt = n.toInt) ∧ (¬ (0 ≤ n.toInt ∧ n.toInt ≤ (pj_fi G0 2 1).toInt) → (F_78tx G0 n).1.toInt = 0 ∧ (pj_fi (F_78tx G0 n).2 2 1).toInt = (pj_fi G0 2 1).toInt)) := by
  obtain ⟨v, G', -, y, -, i, j, r, x, e⟩ := ct_78tx G0 hI n
  rw [← e]
  exact ⟨i, j, r, x _ rfl⟩
def kc_117x : pj_KT := ([(2, 1)], [2, 3], [3])
noncomputable def F_117x (G0 : pj_G) (w : Int32) : Int32 × pj_G := pj_bd (F_77tx G0 w) (fun y1 G2 => (y1, G2))
theorem F_117x_e (G0 : pj_G) (w : Int32) : F_117x G0 w = pj_bd (F_77tx G0 w) (fun y1 G2 => (y1, G2)) := rfl
theorem ct_117x (G0 : pj_G) (hI : pj_Inv G0) (w : Int32) : pj_Y 2 117 [.ref 1, .int w] G0 (fun v' G' => ∃ y : Int32, v' = some (.int y) ∧ pj_Inv G' ∧ pj_kpt kc_117x G0 G' ∧ ((-2147483648 : Int) ≤ y.toInt ∧ y.toInt ≤ 2147483647) ∧ ((y, G') = F_117x G0 w)) := by
  refine pj_Y_X (M := pj_m117) rfl rfl (Nat.le_of_ble_eq_true rfl) ?_
  have hK : pj_kpt kc_117x G0 G0 := pj_kpt_r _ _
  show pj_X _ _ G0 0 [(0, .ref 1), (1, .int w)] [] _
  rw [F_117x_e]
  refine pj_X_of (fun r h => pj_R_to (G0, 1, [(0, .ref 1), (1, .int w)], [.ref 1], 0, 0) 1 2 (fun _ => rfl) h) ?_
  refine pj_X_of (fun r h => pj_T_gr hI rfl rfl rfl h) ?_
  refine pj_X_of (fun r h => pj_R_to (G0, 5, [(0, .ref 1), (1, .int w)], [.int w, .ref 2], 0, 0) 5 2 (fun _ => rfl) h) ?_
  refine pj_X_ca (vs := [.ref 2, .int w]) rfl (fun _ => rfl) ⟨Nat.le_of_ble_eq_true rfl, Nat.le_of_ble_eq_true rfl, pj_T_rcv hI rfl⟩ ⟨rfl, rfl⟩ (pj_Y_up (by decide) (ct_77tx G0 hI w)) ?_
  rintro _ G2 ⟨y1, rfl, iG2, jG2, ry1, ey1, fy1⟩
  replace ey1 := ey1 _ rfl
  rw [← fy1, pj_bd_e]
  have kG2 : pj_kpt kc_117x G0 G2 := pj_kpt_t hK (pj_kpt_s jG2 rfl)
  show pj_X _ _ G2 8 [(0, .ref 1), (1, .int w)] [.int y1] _
  exact pj_X_rt rfl rfl ⟨_, rfl, iG2, kG2, pj_i32 _, rfl⟩
theorem fr_117x (G0 : pj_G) (hI : pj_Inv G0) (w : Int32) : pj_Inv (F_117x G0 w).2 ∧ pj_kpt kc_117x G0 (F_117x G0 w).2 := by
  obtain ⟨v, G', -, y, -, i, j, r, e⟩ := ct_117x G0 hI w
  rw [← e]
  exact ⟨i, j⟩
def kc_117tx : pj_KT := ([(2, 1)], [2, 3], [3])
noncomputable def F_117tx (G0 : pj_G) (w : Int32) : Int32 × pj_G := pj_bd (F_77tx G0 w) (fun y3 G4 => (y3, G4))
theorem F_117tx_e (G0 : pj_G) (w : Int32) : F_117tx G0 w = pj_bd (F_77tx G0 w) (fun y3 G4 => (y3, G4)) := rfl
theorem ct_117tx (G0 : pj_G) (hI : pj_Inv G0) (w : Int32) : pj_Y 2 117 [.ref 1, .int w] G0 (fun v' G' => ∃ y : Int32, v' = some (.int y) ∧ pj_Inv G' ∧ pj_kpt kc_117tx G0 G' ∧ ((-2147483648 : Int) ≤ y.toInt ∧ y.toInt ≤ 2147483647) ∧ (∀ H, G0 = H → (((pj_fi H 2 1).toInt ≤ 76 → y.toInt = (pj_fi H 2 1).toInt + 4 ∧ (pj_fi G' 2 1).toInt = (pj_fi H 2 1).toInt + 4) ∧ (76 < (pj_fi H 2 1).toInt → y.toInt = -1 ∧ (pj_fi G' 2 1).toInt = (pj_fi H 2 1).toInt))) ∧ ((y, G') = F_117tx G0 w)) := by
  refine pj_Y_X (M := pj_m117) rfl rfl (Nat.le_of_ble_eq_true rfl) ?_
  have hK : pj_kpt kc_117tx G0 G0 := pj_kpt_r _ _
  show pj_X _ _ G0 0 [(0, .ref 1), (1, .int w)] [] _
  rw [F_117tx_e]
  obtain ⟨y1, hy1⟩ : ∃ z : Int32, z = pj_fi G0 2 1 := ⟨_, rfl⟩
  have ey1 : (pj_fi G0 2 1).toInt = y1.toInt := by rw [hy1]
  have ry1 : (0 : Int) ≤ y1.toInt ∧ y1.toInt ≤ 80 := by rw [hy1]; exact hI.2.1 2 1 (0, 80) rfl
  refine pj_X_of (fun r h => pj_R_to (G0, 1, [(0, .ref 1), (1, .int w)], [.ref 1], 0, 0) 1 2 (fun _ => rfl) h) ?_
  refine pj_X_of (fun r h => pj_T_gr hI rfl rfl rfl h) ?_
  refine pj_X_of (fun r h => pj_R_to (G0, 5, [(0, .ref 1), (1, .int w)], [.int w, .ref 2], 0, 0) 5 2 (fun _ => rfl) h) ?_
  have q2 : (pj_fi G0 2 1).toInt = y1.toInt := by rw [show pj_fi G0 2 1 = y1 from hy1.symm]
  refine pj_X_ca (vs := [.ref 2, .int w]) rfl (fun _ => rfl) ⟨Nat.le_of_ble_eq_true rfl, Nat.le_of_ble_eq_true rfl, pj_T_rcv hI rfl⟩ ⟨rfl, rfl⟩ (pj_Y_up (by decide) (ct_77tx G0 hI w)) ?_
  rintro _ G4 ⟨y3, rfl, iG4, jG4, ry3, ey3, fy3⟩
  replace ey3 := ey3 _ rfl
  rw [← fy3, pj_bd_e]
  have kG4 : pj_kpt kc_117tx G0 G4 := pj_kpt_t hK (pj_kpt_s jG4 rfl)
  obtain ⟨y5, hy5⟩ : ∃ z : Int32, z = pj_fi G4 2 1 := ⟨_, rfl⟩
  have ey5 : (pj_fi G4 2 1).toInt = y5.toInt := by rw [hy5]
  have ry5 : (0 : Int) ≤ y5.toInt ∧ y5.toInt ≤ 80 := by rw [hy5]; exact iG4.2.1 2 1 (0, 80) rfl
  show pj_X _ _ G4 8 [(0, .ref 1), (1, .int w)] [.int y3] _
  have q6 : (pj_fi G4 2 1).toInt = y5.toInt := by rw [show pj_fi G4 2 1 = y5 from hy5.symm]
  exact pj_X_rt rfl rfl ⟨_, rfl, iG4, kG4, pj_i32 _, (fun H hH => by subst hH; exact (by omega)), rfl⟩
theorem fr_117tx (G0 : pj_G) (hI : pj_Inv G0) (w : Int32) : pj_Inv (F_117tx G0 w).2 ∧ pj_kpt kc_117tx G0 (F_117tx G0 w).2 ∧ (((pj_fi G0 2 1).toInt ≤ 76 → (F_117tx G0 w).1.toInt = (pj_fi G0 2 1).toInt + 4 ∧ (pj_fi (F_117tx G0 w).2 2 1).toInt = (pj_fi G0 2 1).toInt + 4) ∧ (76 < (pj_fi G0 2 1).toInt → (F_117tx G0 w).1.toInt = -1 ∧ (pj_fi (F_117tx G0 w).2 2 1).toInt = (pj_fi G0 2 1).toInt)) := by
  obtain ⟨v, G', -, y, -, i, j, r, x, e⟩ := ct_117tx G0 hI w
  rw [← e]
  exact ⟨i, j, x _ rfl⟩
def kc_118x : pj_KT := ([(2, 1)], [2], [])
noncomputable def F_118x (G0 : pj_G) (n : Int32) : Int32 × pj_G := pj_bd (F_78tx G0 n) (fun y1 G2 => (y1, G2))
theorem F_118x_e (G0 : pj_G) (n : Int32) : F_118x G0 n = pj_bd (F_78tx G0 n) (fun y1 G2 => (y1, G2)) := rfl
theorem ct_118x (G0 : pj_G) (hI : pj_Inv G0) (n : Int32) : pj_Y 2 118 [.ref 1, .int n] G0 (fun v' G' => ∃ y : Int32, v' = some (.int y) ∧ pj_Inv G' ∧ pj_kpt kc_118x G0 G' ∧ ((0 : Int) ≤ y.toInt ∧ y.toInt ≤ 1) ∧ ((y, G') = F_118x G0 n)) := by
  refine pj_Y_X (M := pj_m118) rfl rfl (Nat.le_of_ble_eq_true rfl) ?_
  have hK : pj_kpt kc_118x G0 G0 := pj_kpt_r _ _
  show pj_X _ _ G0 0 [(0, .ref 1), (1, .int n)] [] _
  rw [F_118x_e]
  refine pj_X_of (fun r h => pj_R_to (G0, 1, [(0, .ref 1), (1, .int n)], [.ref 1], 0, 0) 1 2 (fun _ => rfl) h) ?_
  refine pj_X_of (fun r h => pj_T_gr hI rfl rfl rfl h) ?_
  refine pj_X_of (fun r h => pj_R_to (G0, 5, [(0, .ref 1), (1, .int n)], [.int n, .ref 2], 0, 0) 5 2 (fun _ => rfl) h) ?_
  refine pj_X_ca (vs := [.ref 2, .int n]) rfl (fun _ => rfl) ⟨Nat.le_of_ble_eq_true rfl, Nat.le_of_ble_eq_true rfl, pj_T_rcv hI rfl⟩ ⟨rfl, rfl⟩ (pj_Y_up (by decide) (ct_78tx G0 hI n)) ?_
  rintro _ G2 ⟨y1, rfl, iG2, jG2, ry1, ey1, fy1⟩
  replace ey1 := ey1 _ rfl
  rw [← fy1, pj_bd_e]
  have kG2 : pj_kpt kc_118x G0 G2 := pj_kpt_t hK (pj_kpt_s jG2 rfl)
  show pj_X _ _ G2 8 [(0, .ref 1), (1, .int n)] [.int y1] _
  exact pj_X_rt (v := some (.int y1)) rfl (pj_rtb ⟨by omega, by omega⟩) ⟨_, rfl, iG2, kG2, ⟨by omega, by omega⟩, rfl⟩
theorem fr_118x (G0 : pj_G) (hI : pj_Inv G0) (n : Int32) : pj_Inv (F_118x G0 n).2 ∧ pj_kpt kc_118x G0 (F_118x G0 n).2 ∧ ((0 : Int) ≤ (F_118x G0 n).1.toInt ∧ (F_118x G0 n).1.toInt ≤ 1) := by
  obtain ⟨v, G', -, y, -, i, j, r, e⟩ := ct_118x G0 hI n
  rw [← e]
  exact ⟨i, j, r⟩
def kc_118tx : pj_KT := ([(2, 1)], [2], [])
noncomputable def F_118tx (G0 : pj_G) (n : Int32) : Int32 × pj_G := pj_bd (F_78tx G0 n) (fun y3 G4 => (y3, G4))
theorem F_118tx_e (G0 : pj_G) (n : Int32) : F_118tx G0 n = pj_bd (F_78tx G0 n) (fun y3 G4 => (y3, G4)) := rfl
theorem ct_118tx (G0 : pj_G) (hI : pj_Inv G0) (n : Int32) : pj_Y 2 118 [.ref 1, .int n] G0 (fun v' G' => ∃ y : Int32, v' = some (.int y) ∧ pj_Inv G' ∧ pj_kpt kc_118tx G0 G' ∧ ((0 : Int) ≤ y.toInt ∧ y.toInt ≤ 1) ∧ (∀ H, G0 = H → ((0 ≤ n.toInt ∧ n.toInt ≤ (pj_fi H 2 1).toInt → y.toInt = 1 ∧ (pj_fi G' 2 1).toInt = n.toInt) ∧ (¬ (0 ≤ n.toInt ∧ n.toInt ≤ (pj_fi H 2 1).toInt) → y.toInt = 0 ∧ (pj_fi G' 2 1).toInt = (pj_fi H 2 1).toInt))) ∧ ((y, G') = F_118tx G0 n)) := by
  refine pj_Y_X (M := pj_m118) rfl rfl (Nat.le_of_ble_eq_true rfl) ?_
  have hK : pj_kpt kc_118tx G0 G0 := pj_kpt_r _ _
  show pj_X _ _ G0 0 [(0, .ref 1), (1, .int n)] [] _
  rw [F_118tx_e]
  obtain ⟨y1, hy1⟩ : ∃ z : Int32, z = pj_fi G0 2 1 := ⟨_, rfl⟩
  have ey1 : (pj_fi G0 2 1).toInt = y1.toInt := by rw [hy1]
  have ry1 : (0 : Int) ≤ y1.toInt ∧ y1.toInt ≤ 80 := by rw [hy1]; exact hI.2.1 2 1 (0, 80) rfl
  refine pj_X_of (fun r h => pj_R_to (G0, 1, [(0, .ref 1), (1, .int n)], [.ref 1], 0, 0) 1 2 (fun _ => rfl) h) ?_
  refine pj_X_of (fun r h => pj_T_gr hI rfl rfl rfl h) ?_
  refine pj_X_of (fun r h => pj_R_to (G0, 5, [(0, .ref 1), (1, .int n)], [.int n, .ref 2], 0, 0) 5 2 (fun _ => rfl) h) ?_
  have q2 : (pj_fi G0 2 1).toInt = y1.toInt := by rw [show pj_fi G0 2 1 = y1 from hy1.symm]
  refine pj_X_ca (vs := [.ref 2, .int n]) rfl (fun _ => rfl) ⟨Nat.le_of_ble_eq_true rfl, Nat.le_of_ble_eq_true rfl, pj_T_rcv hI rfl⟩ ⟨rfl, rfl⟩ (pj_Y_up (by decide) (ct_78tx G0 hI n)) ?_
  rintro _ G4 ⟨y3, rfl, iG4, jG4, ry3, ey3, fy3⟩
  replace ey3 := ey3 _ rfl
  rw [← fy3, pj_bd_e]
  have kG4 : pj_kpt kc_118tx G0 G4 := pj_kpt_t hK (pj_kpt_s jG4 rfl)
  obtain ⟨y5, hy5⟩ : ∃ z : Int32, z = pj_fi G4 2 1 := ⟨_, rfl⟩
  have ey5 : (pj_fi G4 2 1).toInt = y5.toInt := by rw [hy5]
  have ry5 : (0 : Int) ≤ y5.toInt ∧ y5.toInt ≤ 80 := by rw [hy5]; exact iG4.2.1 2 1 (0, 80) rfl
  show pj_X _ _ G4 8 [(0, .ref 1), (1, .int n)] [.int y3] _
  have q6 : (pj_fi G4 2 1).toInt = y5.toInt := by rw [show pj_fi G4 2 1 = y5 from hy5.symm]
  exact pj_X_rt (v := some (.int y3)) rfl (pj_rtb ⟨by omega, by omega⟩) ⟨_, rfl, iG4, kG4, ⟨by omega, by omega⟩, (fun H hH => by subst hH; exact (by omega)), rfl⟩
theorem fr_118tx (G0 : pj_G) (hI : pj_Inv G0) (n : Int32) : pj_Inv (F_118tx G0 n).2 ∧ pj_kpt kc_118tx G0 (F_118tx G0 n).2 ∧ ((0 : Int) ≤ (F_118tx G0 n).1.toInt ∧ (F_118tx G0 n).1.toInt ≤ 1) ∧ ((0 ≤ n.toInt ∧ n.toInt ≤ (pj_fi G0 2 1).toInt → (F_118tx G0 n).1.toInt = 1 ∧ (pj_fi (F_118tx G0 n).2 2 1).toInt = n.toInt) ∧ (¬ (0 ≤ n.toInt ∧ n.toInt ≤ (pj_fi G0 2 1).toInt) → (F_118tx G0 n).1.toInt = 0 ∧ (pj_fi (F_118tx G0 n).2 2 1).toInt = (pj_fi G0 2 1).toInt)) := by
  obtain ⟨v, G', -, y, -, i, j, r, x, e⟩ := ct_118tx G0 hI n
  rw [← e]
  exact ⟨i, j, r, x _ rfl⟩
def kc_41_7x : pj_KT := ([(2, 3), (2, 4), (7, 0), (7, 1)], [2, 7, 8, 9, 10, 11], [8, 9, 10, 11])
noncomputable def L_41_7x (G0 : pj_G) (fu : Nat) : Int32 → pj_G → pj_G := Nat.rec (motive := fun _ => Int32 → pj_G → pj_G) (fun _ G => G) (fun _ ih v2 G => cond (pj_c1 .ge v2 ((Int8.ofInt 10).toInt32)) (G) (pj_bd (F_82x G ((Int8.ofInt 59).toInt32)) (fun y2 G3 => cond (pj_c1 .eq y2 0) (G3) (pj_nm (pj_fi G3 7 0) (fun y5 => pj_bd (F_87x G3 (Int32.ofInt (-1)) y5) (fun y6 G7 => pj_nm (pj_wa G7 8 v2.toInt.toNat y6) (fun G8 => pj_nm (pj_ai G8 8 v2.toInt.toNat) (fun z9 => pj_nm (pj_fi G8 7 0) (fun y10 => pj_bd (F_87x G8 z9 y10) (fun y11 G12 => pj_nm (pj_wa G12 9 v2.toInt.toNat y11) (fun G13 => pj_bd (F_86x G13 (Int32.ofInt 2)) (fun y14 G15 => pj_nm (pj_wa G15 10 v2.toInt.toNat y14) (fun G16 => pj_bd (F_83x G16 ((Int8.ofInt 58).toInt32) ((Int8.ofInt 58).toInt32)) (fun y17 G18 => pj_bd (F_83x G18 ((Int8.ofInt 49).toInt32) ((Int8.ofInt 57).toInt32)) (fun y19 G20 => pj_nm ((Int32.ofInt 1) + y19) (fun z21 => pj_nm (pj_wa G20 11 v2.toInt.toNat z21) (fun G22 => pj_nm (v2 + (Int32.ofInt 1)) (fun z23 => pj_nm (pj_wv G22 7 1 (.int z23)) (fun G24 => ih z23 G24))))))))))))))))))) fu
theorem L_41_7x_s0 (G0 : pj_G) (fu : Nat) (v2 : Int32) (G : pj_G) : L_41_7x G0 (fu + 1) v2 G = cond (pj_c1 .ge v2 ((Int8.ofInt 10).toInt32)) (G) (pj_bd (F_82x G ((Int8.ofInt 59).toInt32)) (fun y2 G3 => cond (pj_c1 .eq y2 0) (G3) (pj_nm (pj_fi G3 7 0) (fun y5 => pj_bd (F_87x G3 (Int32.ofInt (-1)) y5) (fun y6 G7 => pj_nm (pj_wa G7 8 v2.toInt.toNat y6) (fun G8 => pj_nm (pj_ai G8 8 v2.toInt.toNat) (fun z9 => pj_nm (pj_fi G8 7 0) (fun y10 => pj_bd (F_87x G8 z9 y10) (fun y11 G12 => pj_nm (pj_wa G12 9 v2.toInt.toNat y11) (fun G13 => pj_bd (F_86x G13 (Int32.ofInt 2)) (fun y14 G15 => pj_nm (pj_wa G15 10 v2.toInt.toNat y14) (fun G16 => pj_bd (F_83x G16 ((Int8.ofInt 58).toInt32) ((Int8.ofInt 58).toInt32)) (fun y17 G18 => pj_bd (F_83x G18 ((Int8.ofInt 49).toInt32) ((Int8.ofInt 57).toInt32)) (fun y19 G20 => pj_nm ((Int32.ofInt 1) + y19) (fun z21 => pj_nm (pj_wa G20 11 v2.toInt.toNat z21) (fun G22 => pj_nm (v2 + (Int32.ofInt 1)) (fun z23 => pj_nm (pj_wv G22 7 1 (.int z23)) (fun G24 => L_41_7x G0 fu z23 G24)))))))))))))))))) := rfl
noncomputable def F_41_7x (G0 : pj_G) : pj_G := pj_bd (F_83x G0 ((Int8.ofInt 50).toInt32) ((Int8.ofInt 56).toInt32)) (fun y25 G26 => pj_nm ((Int32.ofInt 2) + y25) (fun z27 => pj_nm (pj_wv G26 7 0 (.int z27)) (fun G28 => pj_nm (pj_wv G28 7 1 (.int (Int32.ofInt 0))) (fun G29 => L_41_7x G0 11 (Int32.ofInt 0) G29))))
theorem F_41_7x_e (G0 : pj_G) : F_41_7x G0 = pj_bd (F_83x G0 ((Int8.ofInt 50).toInt32) ((Int8.ofInt 56).toInt32)) (fun y25 G26 => pj_nm ((Int32.ofInt 2) + y25) (fun z27 => pj_nm (pj_wv G26 7 0 (.int z27)) (fun G28 => pj_nm (pj_wv G28 7 1 (.int (Int32.ofInt 0))) (fun G29 => L_41_7x G0 11 (Int32.ofInt 0) G29)))) := rfl
theorem lp_ct_41_7x (G0 : pj_G) (hI0 : pj_Inv G0) : ∀ mn : Nat, (∀ (G : pj_G) (hI : pj_Inv G) (hK : pj_kpt kc_41_7x G0 G) (v2 : Int32), ((0 : Int) ≤ v2.toInt ∧ v2.toInt ≤ 10) → 10 - v2.toInt < (mn : Int) → pj_X 3 pj_m41 G 21 [(0, .ref 7), (1, .ref 2), (2, .int v2)] [] (fun v' G' => v' = none ∧ pj_Inv G' ∧ pj_kpt kc_41_7x G0 G' ∧ (G' = L_41_7x G0 mn v2 G))) := by
  have c0_ : ((Int8.ofInt 10).toInt32).toInt = 10 := by decide
  have c1_ : ((Int8.ofInt 49).toInt32).toInt = 49 := by decide
  have c2_ : ((Int8.ofInt 50).toInt32).toInt = 50 := by decide
  have c3_ : ((Int8.ofInt 56).toInt32).toInt = 56 := by decide
  have c4_ : ((Int8.ofInt 57).toInt32).toInt = 57 := by decide
  have c5_ : ((Int8.ofInt 58).toInt32).toInt = 58 := by decide
  have c6_ : ((Int8.ofInt 59).toInt32).toInt = 59 := by decide
  have c7_ : (Int32.ofInt (-1)).toInt = -1 := by decide
  have c8_ : (Int32.ofInt 0).toInt = 0 := by decide
  have c9_ : (Int32.ofInt 1).toInt = 1 := by decide
  have c10_ : (Int32.ofInt 2).toInt = 2 := by decide
  intro mn
  induction mn with
  | zero =>
    intro G hI hK v2 rv2 hm
    exfalso
    omega
  | succ mn ih =>
    intro G hI hK v2 rv2 hm
    rw [L_41_7x_s0]
    refine pj_X_of (fun r h => pj_R_to (G, 24, [(0, .ref 7), (1, .ref 2), (2, .int v2)], [.int ((Int8.ofInt 10).toInt32), .int v2], 0, 0) 24 3 (fun _ => rfl) h) ?_
    cases b1 : pj_c1 .ge v2 ((Int8.ofInt 10).toInt32) with
    | true =>
      rw [pj_cT]
      have ub1 := pj_u_geT b1
      refine pj_X_of (fun r h => pj_R_icT 120 rfl rfl b1 h) ?_
      exact pj_X_rt rfl rfl ⟨rfl, hI, hK, rfl⟩
    | false =>
      rw [pj_cF]
      have ub1 := pj_u_geF b1
      refine pj_X_of (fun r h => pj_R_icF rfl b1 h) ?_
      refine pj_X_of (fun r h => pj_R_to (G, 30, [(0, .ref 7), (1, .ref 2), (2, .int v2)], [.int ((Int8.ofInt 59).toInt32), .ref 2], 0, 0) 30 3 (fun _ => rfl) h) ?_
      refine pj_X_ca (vs := [.ref 2, .int ((Int8.ofInt 59).toInt32)]) rfl (fun _ => rfl) ⟨Nat.le_of_ble_eq_true rfl, Nat.le_of_ble_eq_true rfl, pj_T_rcv hI rfl⟩ ⟨rfl, rfl⟩ (pj_Y_up (by decide) (ct_82x G hI ((Int8.ofInt 59).toInt32) ⟨by omega, by omega⟩)) ?_
      rintro _ G3 ⟨y2, rfl, iG3, jG3, ry2, ey2, fy2⟩
      replace ey2 := ey2 _ rfl
      rw [← fy2, pj_bd_e]
      have kG3 : pj_kpt kc_41_7x G0 G3 := pj_kpt_t hK (pj_kpt_s jG3 rfl)
      show pj_X _ _ G3 33 [(0, .ref 7), (1, .ref 2), (2, .int v2)] [.int y2] _
      cases b4 : pj_c1 .eq y2 0 with
      | true =>
        rw [pj_cT]
        have ub4 := pj_u0_eqT b4
        refine pj_X_of (fun r h => pj_R_ifT 120 rfl rfl b4 h) ?_
        exact pj_X_rt rfl rfl ⟨rfl, iG3, kG3, rfl⟩
      | false =>
        rw [pj_cF]
        have ub4 := pj_u0_eqF b4
        refine pj_X_of (fun r h => pj_R_ifF rfl b4 h) ?_
        refine pj_X_of (fun r h => pj_R_to (G3, 37, [(0, .ref 7), (1, .ref 2), (2, .int v2)], [.ref 7], 0, 0) 37 2 (fun _ => rfl) h) ?_
        refine pj_X_of (fun r h => pj_T_gr iG3 rfl rfl rfl h) ?_
        refine pj_X_of (fun r h => pj_R_to (G3, 44, [(0, .ref 7), (1, .ref 2), (2, .int v2)], [.ref 7, .int (Int32.ofInt (-1)), .ref 2, .int v2, .ref 8], 0, 0) 44 5 (fun _ => rfl) h) ?_
        refine pj_X_of (fun r h => pj_T_gi iG3 rfl rfl h) ?_
        show pj_X _ _ G3 47 [(0, .ref 7), (1, .ref 2), (2, .int v2)] [.int (pj_fi G3 7 0), .int (Int32.ofInt (-1)), .ref 2, .int v2, .ref 8] _
        obtain ⟨y5, hy5⟩ : ∃ z : Int32, z = pj_fi G3 7 0 := ⟨_, rfl⟩
        refine pj_X_eqi hy5.symm ?_
        rw [← hy5, pj_nm_e]
        have ey5 : (pj_fi G3 7 0).toInt = y5.toInt := by rw [hy5]
        have ry5 : (0 : Int) ≤ y5.toInt ∧ y5.toInt ≤ 8 := by rw [hy5]; exact iG3.2.1 7 0 (0, 8) rfl
        refine pj_X_ca (vs := [.ref 2, .int (Int32.ofInt (-1)), .int y5]) rfl (fun _ => rfl) ⟨Nat.le_of_ble_eq_true rfl, Nat.le_of_ble_eq_true rfl, pj_T_rcv iG3 rfl⟩ ⟨rfl, rfl⟩ (pj_Y_up (by decide) (ct_87x G3 iG3 (Int32.ofInt (-1)) y5 ⟨by omega, by omega⟩ ⟨by omega, by omega⟩)) ?_
        rintro _ G7 ⟨y6, rfl, iG7, jG7, ry6, ey6, fy6⟩
        replace ey6 := ey6 _ rfl
        rw [← fy6, pj_bd_e]
        have kG7 : pj_kpt kc_41_7x G0 G7 := pj_kpt_t kG3 (pj_kpt_s jG7 rfl)
        show pj_X _ _ G7 50 [(0, .ref 7), (1, .ref 2), (2, .int v2)] [.int y6, .int v2, .ref 8] _
        refine pj_X_of (fun r h => pj_T_is iG7 rfl rfl (by omega) (by omega) h) ?_
        show pj_X _ _ (pj_wa G7 8 v2.toInt.toNat y6) 51 [(0, .ref 7), (1, .ref 2), (2, .int v2)] [] _
        obtain ⟨G8, hG8⟩ : ∃ H, H = pj_wa G7 8 v2.toInt.toNat y6 := ⟨_, rfl⟩
        have iG8 : pj_Inv G8 := by rw [hG8]; exact pj_Inv_wa iG7 rfl (fun q hq => by cases hq; exact ⟨by show (0 : Int) ≤ _; omega, by show _ ≤ (7 : Int); omega, by show _ ≤ (0 : Int) ∨ (0 : Int) ≤ _; omega⟩) (fun n hn => by cases hn)
        have kG8 : pj_kpt kc_41_7x G0 G8 := by rw [hG8]; exact pj_kpt_a kG7 rfl
        rw [← hG8]
        rw [pj_nm_e]
        refine pj_X_of (fun r h => pj_R_to (G8, 52, [(0, .ref 7), (1, .ref 2), (2, .int v2)], [.ref 7], 0, 0) 52 2 (fun _ => rfl) h) ?_
        refine pj_X_of (fun r h => pj_T_gr iG8 rfl rfl rfl h) ?_
        refine pj_X_of (fun r h => pj_R_to (G8, 58, [(0, .ref 7), (1, .ref 2), (2, .int v2)], [.ref 7, .ref 2, .int v2, .ref 9], 0, 0) 58 4 (fun _ => rfl) h) ?_
        refine pj_X_of (fun r h => pj_T_gr iG8 rfl rfl rfl h) ?_
        refine pj_X_of (fun r h => pj_R_to (G8, 62, [(0, .ref 7), (1, .ref 2), (2, .int v2)], [.int v2, .ref 8, .ref 2, .int v2, .ref 9], 0, 0) 62 2 (fun _ => rfl) h) ?_
        refine pj_X_of (fun r h => pj_T_il iG8 rfl rfl (by omega) (by omega) h) ?_
        show pj_X _ _ G8 63 [(0, .ref 7), (1, .ref 2), (2, .int v2)] [.int (pj_ai G8 8 v2.toInt.toNat), .ref 2, .int v2, .ref 9] _
        obtain ⟨z9, hz9⟩ : ∃ z : Int32, z = pj_ai G8 8 v2.toInt.toNat := ⟨_, rfl⟩
        refine pj_X_eqi hz9.symm ?_
        rw [← hz9, pj_nm_e]
        have ez9 : (pj_ai G8 8 v2.toInt.toNat).toInt = z9.toInt := by rw [hz9]
        have fz9_0 : (0 : Int) ≤ z9.toInt ∧ z9.toInt ≤ 7 ∧ (z9.toInt ≤ 0 ∨ 0 ≤ z9.toInt) := by rw [hz9]; exact iG8.2.2.1 8 (10, 0, 7, 0, 0) rfl _ (by show _ < 10; omega)
        refine pj_X_of (fun r h => pj_R_to (G8, 64, [(0, .ref 7), (1, .ref 2), (2, .int v2)], [.ref 7, .int z9, .ref 2, .int v2, .ref 9], 0, 0) 64 2 (fun _ => rfl) h) ?_
        refine pj_X_of (fun r h => pj_T_gi iG8 rfl rfl h) ?_
        show pj_X _ _ G8 67 [(0, .ref 7), (1, .ref 2), (2, .int v2)] [.int (pj_fi G8 7 0), .int z9, .ref 2, .int v2, .ref 9] _
        obtain ⟨y10, hy10⟩ : ∃ z : Int32, z = pj_fi G8 7 0 := ⟨_, rfl⟩
        refine pj_X_eqi hy10.symm ?_
        rw [← hy10, pj_nm_e]
        have ey10 : (pj_fi G8 7 0).toInt = y10.toInt := by rw [hy10]
        have ry10 : (0 : Int) ≤ y10.toInt ∧ y10.toInt ≤ 8 := by rw [hy10]; exact iG8.2.1 7 0 (0, 8) rfl
        refine pj_X_ca (vs := [.ref 2, .int z9, .int y10]) rfl (fun _ => rfl) ⟨Nat.le_of_ble_eq_true rfl, Nat.le_of_ble_eq_true rfl, pj_T_rcv iG8 rfl⟩ ⟨rfl, rfl⟩ (pj_Y_up (by decide) (ct_87x G8 iG8 z9 y10 ⟨by omega, by omega⟩ ⟨by omega, by omega⟩)) ?_
        rintro _ G12 ⟨y11, rfl, iG12, jG12, ry11, ey11, fy11⟩
        replace ey11 := ey11 _ rfl
        rw [← fy11, pj_bd_e]
        have kG12 : pj_kpt kc_41_7x G0 G12 := pj_kpt_t kG8 (pj_kpt_s jG12 rfl)
        show pj_X _ _ G12 70 [(0, .ref 7), (1, .ref 2), (2, .int v2)] [.int y11, .int v2, .ref 9] _
        refine pj_X_of (fun r h => pj_T_is iG12 rfl rfl (by omega) (by omega) h) ?_
        show pj_X _ _ (pj_wa G12 9 v2.toInt.toNat y11) 71 [(0, .ref 7), (1, .ref 2), (2, .int v2)] [] _
        obtain ⟨G13, hG13⟩ : ∃ H, H = pj_wa G12 9 v2.toInt.toNat y11 := ⟨_, rfl⟩
        have iG13 : pj_Inv G13 := by rw [hG13]; exact pj_Inv_wa iG12 rfl (fun q hq => by cases hq; exact ⟨by show (0 : Int) ≤ _; omega, by show _ ≤ (7 : Int); omega, by show _ ≤ (0 : Int) ∨ (0 : Int) ≤ _; omega⟩) (fun n hn => by cases hn)
        have kG13 : pj_kpt kc_41_7x G0 G13 := by rw [hG13]; exact pj_kpt_a kG12 rfl
        rw [← hG13]
        rw [pj_nm_e]
        refine pj_X_of (fun r h => pj_R_to (G13, 72, [(0, .ref 7), (1, .ref 2), (2, .int v2)], [.ref 7], 0, 0) 72 2 (fun _ => rfl) h) ?_
        refine pj_X_of (fun r h => pj_T_gr iG13 rfl rfl rfl h) ?_
        refine pj_X_of (fun r h => pj_R_to (G13, 78, [(0, .ref 7), (1, .ref 2), (2, .int v2)], [.int (Int32.ofInt 2), .ref 2, .int v2, .ref 10], 0, 0) 78 4 (fun _ => rfl) h) ?_
        refine pj_X_ca (vs := [.ref 2, .int (Int32.ofInt 2)]) rfl (fun _ => rfl) ⟨Nat.le_of_ble_eq_true rfl, Nat.le_of_ble_eq_true rfl, pj_T_rcv iG13 rfl⟩ ⟨rfl, rfl⟩ (pj_Y_up (by decide) (ct_86x G13 iG13 (Int32.ofInt 2) ⟨by omega, by omega⟩)) ?_
        rintro _ G15 ⟨y14, rfl, iG15, jG15, ry14, fy14⟩
        rw [← fy14, pj_bd_e]
        have kG15 : pj_kpt kc_41_7x G0 G15 := pj_kpt_t kG13 (pj_kpt_s jG15 rfl)
        show pj_X _ _ G15 81 [(0, .ref 7), (1, .ref 2), (2, .int v2)] [.int y14, .int v2, .ref 10] _
        refine pj_X_of (fun r h => pj_T_is iG15 rfl rfl (by omega) (by omega) h) ?_
        show pj_X _ _ (pj_wa G15 10 v2.toInt.toNat y14) 82 [(0, .ref 7), (1, .ref 2), (2, .int v2)] [] _
        obtain ⟨G16, hG16⟩ : ∃ H, H = pj_wa G15 10 v2.toInt.toNat y14 := ⟨_, rfl⟩
        have iG16 : pj_Inv G16 := by rw [hG16]; exact pj_Inv_wa iG15 rfl (fun q hq => by cases hq) (fun n hn => by cases hn)
        have kG16 : pj_kpt kc_41_7x G0 G16 := by rw [hG16]; exact pj_kpt_a kG15 rfl
        rw [← hG16]
        rw [pj_nm_e]
        refine pj_X_of (fun r h => pj_R_to (G16, 87, [(0, .ref 7), (1, .ref 2), (2, .int v2)], [.int ((Int8.ofInt 58).toInt32), .int ((Int8.ofInt 58).toInt32), .ref 2], 0, 0) 87 4 (fun _ => rfl) h) ?_
        refine pj_X_ca (vs := [.ref 2, .int ((Int8.ofInt 58).toInt32), .int ((Int8.ofInt 58).toInt32)]) rfl (fun _ => rfl) ⟨Nat.le_of_ble_eq_true rfl, Nat.le_of_ble_eq_true rfl, pj_T_rcv iG16 rfl⟩ ⟨rfl, rfl⟩ (pj_Y_up (by decide) (ct_83x G16 iG16 ((Int8.ofInt 58).toInt32) ((Int8.ofInt 58).toInt32) ⟨by omega, by omega⟩ ⟨by omega, by omega⟩)) ?_
        rintro _ G18 ⟨y17, rfl, iG18, jG18, ry17, ey17, fy17⟩
        replace ey17 := ey17 _ rfl
        rw [← fy17, pj_bd_e]
        have kG18 : pj_kpt kc_41_7x G0 G18 := pj_kpt_t kG16 (pj_kpt_s jG18 rfl)
        show pj_X _ _ G18 90 [(0, .ref 7), (1, .ref 2), (2, .int v2)] [.int y17] _
        refine pj_X_of (fun r h => pj_R_to (G18, 92, [(0, .ref 7), (1, .ref 2), (2, .int v2)], [.ref 7], 0, 0) 92 3 (fun _ => rfl) h) ?_
        refine pj_X_of (fun r h => pj_T_gr iG18 rfl rfl rfl h) ?_
        refine pj_X_of (fun r h => pj_R_to (G18, 102, [(0, .ref 7), (1, .ref 2), (2, .int v2)], [.int ((Int8.ofInt 57).toInt32), .int ((Int8.ofInt 49).toInt32), .ref 2, .int (Int32.ofInt 1), .int v2, .ref 11], 0, 0) 102 6 (fun _ => rfl) h) ?_
        refine pj_X_ca (vs := [.ref 2, .int ((Int8.ofInt 49).toInt32), .int ((Int8.ofInt 57).toInt32)]) rfl (fun _ => rfl) ⟨Nat.le_of_ble_eq_true rfl, Nat.le_of_ble_eq_true rfl, pj_T_rcv iG18 rfl⟩ ⟨rfl, rfl⟩ (pj_Y_up (by decide) (ct_83x G18 iG18 ((Int8.ofInt 49).toInt32) ((Int8.ofInt 57).toInt32) ⟨by omega, by omega⟩ ⟨by omega, by omega⟩)) ?_
        rintro _ G20 ⟨y19, rfl, iG20, jG20, ry19, ey19, fy19⟩
        replace ey19 := ey19 _ rfl
        rw [← fy19, pj_bd_e]
        have kG20 : pj_kpt kc_41_7x G0 G20 := pj_kpt_t kG18 (pj_kpt_s jG20 rfl)
        show pj_X _ _ G20 105 [(0, .ref 7), (1, .ref 2), (2, .int v2)] [.int y19, .int (Int32.ofInt 1), .int v2, .ref 11] _
        refine pj_X_of (fun r h => pj_R_to (G20, 106, [(0, .ref 7), (1, .ref 2), (2, .int v2)], [.int ((Int32.ofInt 1) + y19), .int v2, .ref 11], 0, 0) 106 2 (fun _ => rfl) h) ?_
        obtain ⟨z21, hz21⟩ : ∃ z : Int32, z = (Int32.ofInt 1) + y19 := ⟨_, rfl⟩
        refine pj_X_eqi hz21.symm ?_
        rw [← hz21, pj_nm_e]
        have fz21_0 : z21.toInt = (Int32.ofInt 1).toInt + y19.toInt := by rw [hz21]; exact pj_addI (by have := pj_i32 (Int32.ofInt 1); have := pj_i32 y19; omega) (by have := pj_i32 (Int32.ofInt 1); have := pj_i32 y19; omega)
        refine pj_X_of (fun r h => pj_T_is iG20 rfl rfl (by omega) (by omega) h) ?_
        show pj_X _ _ (pj_wa G20 11 v2.toInt.toNat z21) 107 [(0, .ref 7), (1, .ref 2), (2, .int v2)] [] _
        obtain ⟨G22, hG22⟩ : ∃ H, H = pj_wa G20 11 v2.toInt.toNat z21 := ⟨_, rfl⟩
        have iG22 : pj_Inv G22 := by rw [hG22]; exact pj_Inv_wa iG20 rfl (fun q hq => by cases hq; exact ⟨by show (0 : Int) ≤ _; omega, by show _ ≤ (9 : Int); omega, by show _ ≤ (0 : Int) ∨ (0 : Int) ≤ _; omega⟩) (fun n hn => by cases hn)
        have kG22 : pj_kpt kc_41_7x G0 G22 := by rw [hG22]; exact pj_kpt_a kG20 rfl
        rw [← hG22]
        rw [pj_nm_e]
        refine pj_X_of (fun r h => pj_R_to (G22, 111, [(0, .ref 7), (1, .ref 2), (2, .int v2)], [.int (v2 + (Int32.ofInt 1)), .ref 7], 0, 0) 111 5 (fun _ => rfl) h) ?_
        obtain ⟨z23, hz23⟩ : ∃ z : Int32, z = v2 + (Int32.ofInt 1) := ⟨_, rfl⟩
        refine pj_X_eqi hz23.symm ?_
        rw [← hz23, pj_nm_e]
        have fz23_0 : z23.toInt = v2.toInt + (Int32.ofInt 1).toInt := by rw [hz23]; exact pj_addI (by have := pj_i32 v2; have := pj_i32 (Int32.ofInt 1); omega) (by have := pj_i32 v2; have := pj_i32 (Int32.ofInt 1); omega)
        refine pj_X_of (fun r h => pj_T_pf iG22 rfl rfl rfl h) ?_
        show pj_X _ _ (pj_wv G22 7 1 (.int z23)) 114 [(0, .ref 7), (1, .ref 2), (2, .int v2)] [] _
        obtain ⟨G24, hG24⟩ : ∃ H, H = pj_wv G22 7 1 (.int z23) := ⟨_, rfl⟩
        have iG24 : pj_Inv G24 := by rw [hG24]; exact pj_Inv_wi iG22 (ci := 5) rfl (fun q hq => by cases hq; exact ⟨by show (0 : Int) ≤ _; omega, by show _ ≤ (10 : Int); omega⟩)
        have kG24 : pj_kpt kc_41_7x G0 G24 := by rw [hG24]; exact pj_kpt_v kG22 rfl
        rw [← hG24]
        rw [pj_nm_e]
        refine pj_X_of (fun r h => pj_R_to (G24, 117, [(2, .int (v2 + Int32.ofInt 1)), (0, .ref 7), (1, .ref 2)], [], 0, 0) 117 2 (fun _ => rfl) h) ?_
        rw [← hz23]
        refine pj_X_of (fun r h => pj_R_to (G24, 21, [(2, .int z23), (0, .ref 7), (1, .ref 2)], [], 0, 0) 21 2 (fun _ => rfl) h) ?_
        exact pj_X_sub [(0, .ref 7), (1, .ref 2), (2, .int z23)] (show List.Nodup [0, 1, 2] by decide) ⟨rfl, rfl, rfl, trivial⟩ (ih G24 iG24 kG24 z23 ⟨by omega, by omega⟩ (by omega))
theorem ct_41_7x (G0 : pj_G) (hI : pj_Inv G0) : pj_Y 4 41 [.ref 7, .ref 2] G0 (fun v' G' => v' = none ∧ pj_Inv G' ∧ pj_kpt kc_41_7x G0 G' ∧ (G' = F_41_7x G0)) := by
  have c0_ : ((Int8.ofInt 10).toInt32).toInt = 10 := by decide
  have c1_ : ((Int8.ofInt 49).toInt32).toInt = 49 := by decide
  have c2_ : ((Int8.ofInt 50).toInt32).toInt = 50 := by decide
  have c3_ : ((Int8.ofInt 56).toInt32).toInt = 56 := by decide
  have c4_ : ((Int8.ofInt 57).toInt32).toInt = 57 := by decide
  have c5_ : ((Int8.ofInt 58).toInt32).toInt = 58 := by decide
  have c6_ : ((Int8.ofInt 59).toInt32).toInt = 59 := by decide
  have c7_ : (Int32.ofInt (-1)).toInt = -1 := by decide
  have c8_ : (Int32.ofInt 0).toInt = 0 := by decide
  have c9_ : (Int32.ofInt 1).toInt = 1 := by decide
  have c10_ : (Int32.ofInt 2).toInt = 2 := by decide
  refine pj_Y_X (M := pj_m41) rfl rfl (Nat.le_of_ble_eq_true rfl) ?_
  have hK : pj_kpt kc_41_7x G0 G0 := pj_kpt_r _ _
  show pj_X _ _ G0 0 [(0, .ref 7), (1, .ref 2)] [] _
  rw [F_41_7x_e]
  refine pj_X_of (fun r h => pj_R_to (G0, 7, [(0, .ref 7), (1, .ref 2)], [.int ((Int8.ofInt 56).toInt32), .int ((Int8.ofInt 50).toInt32), .ref 2, .int (Int32.ofInt 2), .ref 7], 0, 0) 7 6 (fun _ => rfl) h) ?_
  refine pj_X_ca (vs := [.ref 2, .int ((Int8.ofInt 50).toInt32), .int ((Int8.ofInt 56).toInt32)]) rfl (fun _ => rfl) ⟨Nat.le_of_ble_eq_true rfl, Nat.le_of_ble_eq_true rfl, pj_T_rcv hI rfl⟩ ⟨rfl, rfl⟩ (pj_Y_up (by decide) (ct_83x G0 hI ((Int8.ofInt 50).toInt32) ((Int8.ofInt 56).toInt32) ⟨by omega, by omega⟩ ⟨by omega, by omega⟩)) ?_
  rintro _ G26 ⟨y25, rfl, iG26, jG26, ry25, ey25, fy25⟩
  replace ey25 := ey25 _ rfl
  rw [← fy25, pj_bd_e]
  have kG26 : pj_kpt kc_41_7x G0 G26 := pj_kpt_t hK (pj_kpt_s jG26 rfl)
  show pj_X _ _ G26 10 [(0, .ref 7), (1, .ref 2)] [.int y25, .int (Int32.ofInt 2), .ref 7] _
  refine pj_X_of (fun r h => pj_R_to (G26, 11, [(0, .ref 7), (1, .ref 2)], [.int ((Int32.ofInt 2) + y25), .ref 7], 0, 0) 11 2 (fun _ => rfl) h) ?_
  obtain ⟨z27, hz27⟩ : ∃ z : Int32, z = (Int32.ofInt 2) + y25 := ⟨_, rfl⟩
  refine pj_X_eqi hz27.symm ?_
  rw [← hz27, pj_nm_e]
  have fz27_0 : z27.toInt = (Int32.ofInt 2).toInt + y25.toInt := by rw [hz27]; exact pj_addI (by have := pj_i32 (Int32.ofInt 2); have := pj_i32 y25; omega) (by have := pj_i32 (Int32.ofInt 2); have := pj_i32 y25; omega)
  refine pj_X_of (fun r h => pj_T_pf iG26 rfl rfl rfl h) ?_
  show pj_X _ _ (pj_wv G26 7 0 (.int z27)) 14 [(0, .ref 7), (1, .ref 2)] [] _
  obtain ⟨G28, hG28⟩ : ∃ H, H = pj_wv G26 7 0 (.int z27) := ⟨_, rfl⟩
  have iG28 : pj_Inv G28 := by rw [hG28]; exact pj_Inv_wi iG26 (ci := 5) rfl (fun q hq => by cases hq; exact ⟨by show (0 : Int) ≤ _; omega, by show _ ≤ (8 : Int); omega⟩)
  have kG28 : pj_kpt kc_41_7x G0 G28 := by rw [hG28]; exact pj_kpt_v kG26 rfl
  rw [← hG28]
  rw [pj_nm_e]
  refine pj_X_of (fun r h => pj_R_to (G28, 16, [(0, .ref 7), (1, .ref 2)], [.int (Int32.ofInt 0), .ref 7], 0, 0) 16 3 (fun _ => rfl) h) ?_
  refine pj_X_of (fun r h => pj_T_pf iG28 rfl rfl rfl h) ?_
  show pj_X _ _ (pj_wv G28 7 1 (.int (Int32.ofInt 0))) 19 [(0, .ref 7), (1, .ref 2)] [] _
  obtain ⟨G29, hG29⟩ : ∃ H, H = pj_wv G28 7 1 (.int (Int32.ofInt 0)) := ⟨_, rfl⟩
  have iG29 : pj_Inv G29 := by rw [hG29]; exact pj_Inv_wi iG28 (ci := 5) rfl (fun q hq => by cases hq; exact ⟨by show (0 : Int) ≤ _; omega, by show _ ≤ (10 : Int); omega⟩)
  have kG29 : pj_kpt kc_41_7x G0 G29 := by rw [hG29]; exact pj_kpt_v kG28 rfl
  rw [← hG29]
  rw [pj_nm_e]
  refine pj_X_of (fun r h => pj_R_to (G29, 21, [(2, .int (Int32.ofInt 0)), (0, .ref 7), (1, .ref 2)], [], 0, 0) 21 3 (fun _ => rfl) h) ?_
  exact pj_X_sub [(0, .ref 7), (1, .ref 2), (2, .int (Int32.ofInt 0))] (show List.Nodup [0, 1, 2] by decide) ⟨rfl, rfl, rfl, trivial⟩ ((lp_ct_41_7x G0 hI   11) G29 iG29 kG29 (Int32.ofInt 0) ⟨by omega, by omega⟩ (by omega))
theorem fr_41_7x (G0 : pj_G) (hI : pj_Inv G0) : pj_Inv (F_41_7x G0) ∧ pj_kpt kc_41_7x G0 (F_41_7x G0) := by
  obtain ⟨v, G', -, -, i, j, e⟩ := ct_41_7x G0 hI 
  rw [← e]
  exact ⟨i, j⟩
def kc_41_14x : pj_KT := ([(2, 3), (2, 4), (14, 0), (14, 1)], [2, 14, 15, 16, 17, 18], [15, 16, 17, 18])
noncomputable def L_41_14x (G0 : pj_G) (fu : Nat) : Int32 → pj_G → pj_G := Nat.rec (motive := fun _ => Int32 → pj_G → pj_G) (fun _ G => G) (fun _ ih v2 G => cond (pj_c1 .ge v2 ((Int8.ofInt 10).toInt32)) (G) (pj_bd (F_82x G ((Int8.ofInt 59).toInt32)) (fun y2 G3 => cond (pj_c1 .eq y2 0) (G3) (pj_nm (pj_fi G3 14 0) (fun y5 => pj_bd (F_87x G3 (Int32.ofInt (-1)) y5) (fun y6 G7 => pj_nm (pj_wa G7 15 v2.toInt.toNat y6) (fun G8 => pj_nm (pj_ai G8 15 v2.toInt.toNat) (fun z9 => pj_nm (pj_fi G8 14 0) (fun y10 => pj_bd (F_87x G8 z9 y10) (fun y11 G12 => pj_nm (pj_wa G12 16 v2.toInt.toNat y11) (fun G13 => pj_bd (F_86x G13 (Int32.ofInt 2)) (fun y14 G15 => pj_nm (pj_wa G15 17 v2.toInt.toNat y14) (fun G16 => pj_bd (F_83x G16 ((Int8.ofInt 58).toInt32) ((Int8.ofInt 58).toInt32)) (fun y17 G18 => pj_bd (F_83x G18 ((Int8.ofInt 49).toInt32) ((Int8.ofInt 57).toInt32)) (fun y19 G20 => pj_nm ((Int32.ofInt 1) + y19) (fun z21 => pj_nm (pj_wa G20 18 v2.toInt.toNat z21) (fun G22 => pj_nm (v2 + (Int32.ofInt 1)) (fun z23 => pj_nm (pj_wv G22 14 1 (.int z23)) (fun G24 => ih z23 G24))))))))))))))))))) fu
theorem L_41_14x_s0 (G0 : pj_G) (fu : Nat) (v2 : Int32) (G : pj_G) : L_41_14x G0 (fu + 1) v2 G = cond (pj_c1 .ge v2 ((Int8.ofInt 10).toInt32)) (G) (pj_bd (F_82x G ((Int8.ofInt 59).toInt32)) (fun y2 G3 => cond (pj_c1 .eq y2 0) (G3) (pj_nm (pj_fi G3 14 0) (fun y5 => pj_bd (F_87x G3 (Int32.ofInt (-1)) y5) (fun y6 G7 => pj_nm (pj_wa G7 15 v2.toInt.toNat y6) (fun G8 => pj_nm (pj_ai G8 15 v2.toInt.toNat) (fun z9 => pj_nm (pj_fi G8 14 0) (fun y10 => pj_bd (F_87x G8 z9 y10) (fun y11 G12 => pj_nm (pj_wa G12 16 v2.toInt.toNat y11) (fun G13 => pj_bd (F_86x G13 (Int32.ofInt 2)) (fun y14 G15 => pj_nm (pj_wa G15 17 v2.toInt.toNat y14) (fun G16 => pj_bd (F_83x G16 ((Int8.ofInt 58).toInt32) ((Int8.ofInt 58).toInt32)) (fun y17 G18 => pj_bd (F_83x G18 ((Int8.ofInt 49).toInt32) ((Int8.ofInt 57).toInt32)) (fun y19 G20 => pj_nm ((Int32.ofInt 1) + y19) (fun z21 => pj_nm (pj_wa G20 18 v2.toInt.toNat z21) (fun G22 => pj_nm (v2 + (Int32.ofInt 1)) (fun z23 => pj_nm (pj_wv G22 14 1 (.int z23)) (fun G24 => L_41_14x G0 fu z23 G24)))))))))))))))))) := rfl
noncomputable def F_41_14x (G0 : pj_G) : pj_G := pj_bd (F_83x G0 ((Int8.ofInt 50).toInt32) ((Int8.ofInt 56).toInt32)) (fun y25 G26 => pj_nm ((Int32.ofInt 2) + y25) (fun z27 => pj_nm (pj_wv G26 14 0 (.int z27)) (fun G28 => pj_nm (pj_wv G28 14 1 (.int (Int32.ofInt 0))) (fun G29 => L_41_14x G0 11 (Int32.ofInt 0) G29))))
theorem F_41_14x_e (G0 : pj_G) : F_41_14x G0 = pj_bd (F_83x G0 ((Int8.ofInt 50).toInt32) ((Int8.ofInt 56).toInt32)) (fun y25 G26 => pj_nm ((Int32.ofInt 2) + y25) (fun z27 => pj_nm (pj_wv G26 14 0 (.int z27)) (fun G28 => pj_nm (pj_wv G28 14 1 (.int (Int32.ofInt 0))) (fun G29 => L_41_14x G0 11 (Int32.ofInt 0) G29)))) := rfl
theorem lp_ct_41_14x (G0 : pj_G) (hI0 : pj_Inv G0) : ∀ mn : Nat, (∀ (G : pj_G) (hI : pj_Inv G) (hK : pj_kpt kc_41_14x G0 G) (v2 : Int32), ((0 : Int) ≤ v2.toInt ∧ v2.toInt ≤ 10) → 10 - v2.toInt < (mn : Int) → pj_X 3 pj_m41 G 21 [(0, .ref 14), (1, .ref 2), (2, .int v2)] [] (fun v' G' => v' = none ∧ pj_Inv G' ∧ pj_kpt kc_41_14x G0 G' ∧ (G' = L_41_14x G0 mn v2 G))) := by
  have c0_ : ((Int8.ofInt 10).toInt32).toInt = 10 := by decide
  have c1_ : ((Int8.ofInt 49).toInt32).toInt = 49 := by decide
  have c2_ : ((Int8.ofInt 50).toInt32).toInt = 50 := by decide
  have c3_ : ((Int8.ofInt 56).toInt32).toInt = 56 := by decide
  have c4_ : ((Int8.ofInt 57).toInt32).toInt = 57 := by decide
  have c5_ : ((Int8.ofInt 58).toInt32).toInt = 58 := by decide
  have c6_ : ((Int8.ofInt 59).toInt32).toInt = 59 := by decide
  have c7_ : (Int32.ofInt (-1)).toInt = -1 := by decide
  have c8_ : (Int32.ofInt 0).toInt = 0 := by decide
  have c9_ : (Int32.ofInt 1).toInt = 1 := by decide
  have c10_ : (Int32.ofInt 2).toInt = 2 := by decide
  intro mn
  induction mn with
  | zero =>
    intro G hI hK v2 rv2 hm
    exfalso
    omega
  | succ mn ih =>
    intro G hI hK v2 rv2 hm
    rw [L_41_14x_s0]
    refine pj_X_of (fun r h => pj_R_to (G, 24, [(0, .ref 14), (1, .ref 2), (2, .int v2)], [.int ((Int8.ofInt 10).toInt32), .int v2], 0, 0) 24 3 (fun _ => rfl) h) ?_
    cases b1 : pj_c1 .ge v2 ((Int8.ofInt 10).toInt32) with
    | true =>
      rw [pj_cT]
      have ub1 := pj_u_geT b1
      refine pj_X_of (fun r h => pj_R_icT 120 rfl rfl b1 h) ?_
      exact pj_X_rt rfl rfl ⟨rfl, hI, hK, rfl⟩
    | false =>
      rw [pj_cF]
      have ub1 := pj_u_geF b1
      refine pj_X_of (fun r h => pj_R_icF rfl b1 h) ?_
      refine pj_X_of (fun r h => pj_R_to (G, 30, [(0, .ref 14), (1, .ref 2), (2, .int v2)], [.int ((Int8.ofInt 59).toInt32), .ref 2], 0, 0) 30 3 (fun _ => rfl) h) ?_
      refine pj_X_ca (vs := [.ref 2, .int ((Int8.ofInt 59).toInt32)]) rfl (fun _ => rfl) ⟨Nat.le_of_ble_eq_true rfl, Nat.le_of_ble_eq_true rfl, pj_T_rcv hI rfl⟩ ⟨rfl, rfl⟩ (pj_Y_up (by decide) (ct_82x G hI ((Int8.ofInt 59).toInt32) ⟨by omega, by omega⟩)) ?_
      rintro _ G3 ⟨y2, rfl, iG3, jG3, ry2, ey2, fy2⟩
      replace ey2 := ey2 _ rfl
      rw [← fy2, pj_bd_e]
      have kG3 : pj_kpt kc_41_14x G0 G3 := pj_kpt_t hK (pj_kpt_s jG3 rfl)
      show pj_X _ _ G3 33 [(0, .ref 14), (1, .ref 2), (2, .int v2)] [.int y2] _
      cases b4 : pj_c1 .eq y2 0 with
      | true =>
        rw [pj_cT]
        have ub4 := pj_u0_eqT b4
        refine pj_X_of (fun r h => pj_R_ifT 120 rfl rfl b4 h) ?_
        exact pj_X_rt rfl rfl ⟨rfl, iG3, kG3, rfl⟩
      | false =>
        rw [pj_cF]
        have ub4 := pj_u0_eqF b4
        refine pj_X_of (fun r h => pj_R_ifF rfl b4 h) ?_
        refine pj_X_of (fun r h => pj_R_to (G3, 37, [(0, .ref 14), (1, .ref 2), (2, .int v2)], [.ref 14], 0, 0) 37 2 (fun _ => rfl) h) ?_
        refine pj_X_of (fun r h => pj_T_gr iG3 rfl rfl rfl h) ?_
        refine pj_X_of (fun r h => pj_R_to (G3, 44, [(0, .ref 14), (1, .ref 2), (2, .int v2)], [.ref 14, .int (Int32.ofInt (-1)), .ref 2, .int v2, .ref 15], 0, 0) 44 5 (fun _ => rfl) h) ?_
        refine pj_X_of (fun r h => pj_T_gi iG3 rfl rfl h) ?_
        show pj_X _ _ G3 47 [(0, .ref 14), (1, .ref 2), (2, .int v2)] [.int (pj_fi G3 14 0), .int (Int32.ofInt (-1)), .ref 2, .int v2, .ref 15] _
        obtain ⟨y5, hy5⟩ : ∃ z : Int32, z = pj_fi G3 14 0 := ⟨_, rfl⟩
        refine pj_X_eqi hy5.symm ?_
        rw [← hy5, pj_nm_e]
        have ey5 : (pj_fi G3 14 0).toInt = y5.toInt := by rw [hy5]
        have ry5 : (0 : Int) ≤ y5.toInt ∧ y5.toInt ≤ 8 := by rw [hy5]; exact iG3.2.1 14 0 (0, 8) rfl
        refine pj_X_ca (vs := [.ref 2, .int (Int32.ofInt (-1)), .int y5]) rfl (fun _ => rfl) ⟨Nat.le_of_ble_eq_true rfl, Nat.le_of_ble_eq_true rfl, pj_T_rcv iG3 rfl⟩ ⟨rfl, rfl⟩ (pj_Y_up (by decide) (ct_87x G3 iG3 (Int32.ofInt (-1)) y5 ⟨by omega, by omega⟩ ⟨by omega, by omega⟩)) ?_
        rintro _ G7 ⟨y6, rfl, iG7, jG7, ry6, ey6, fy6⟩
        replace ey6 := ey6 _ rfl
        rw [← fy6, pj_bd_e]
        have kG7 : pj_kpt kc_41_14x G0 G7 := pj_kpt_t kG3 (pj_kpt_s jG7 rfl)
        show pj_X _ _ G7 50 [(0, .ref 14), (1, .ref 2), (2, .int v2)] [.int y6, .int v2, .ref 15] _
        refine pj_X_of (fun r h => pj_T_is iG7 rfl rfl (by omega) (by omega) h) ?_
        show pj_X _ _ (pj_wa G7 15 v2.toInt.toNat y6) 51 [(0, .ref 14), (1, .ref 2), (2, .int v2)] [] _
        obtain ⟨G8, hG8⟩ : ∃ H, H = pj_wa G7 15 v2.toInt.toNat y6 := ⟨_, rfl⟩
        have iG8 : pj_Inv G8 := by rw [hG8]; exact pj_Inv_wa iG7 rfl (fun q hq => by cases hq; exact ⟨by show (0 : Int) ≤ _; omega, by show _ ≤ (7 : Int); omega, by show _ ≤ (0 : Int) ∨ (0 : Int) ≤ _; omega⟩) (fun n hn => by cases hn)
        have kG8 : pj_kpt kc_41_14x G0 G8 := by rw [hG8]; exact pj_kpt_a kG7 rfl
        rw [← hG8]
        rw [pj_nm_e]
        refine pj_X_of (fun r h => pj_R_to (G8, 52, [(0, .ref 14), (1, .ref 2), (2, .int v2)], [.ref 14], 0, 0) 52 2 (fun _ => rfl) h) ?_
        refine pj_X_of (fun r h => pj_T_gr iG8 rfl rfl rfl h) ?_
        refine pj_X_of (fun r h => pj_R_to (G8, 58, [(0, .ref 14), (1, .ref 2), (2, .int v2)], [.ref 14, .ref 2, .int v2, .ref 16], 0, 0) 58 4 (fun _ => rfl) h) ?_
        refine pj_X_of (fun r h => pj_T_gr iG8 rfl rfl rfl h) ?_
        refine pj_X_of (fun r h => pj_R_to (G8, 62, [(0, .ref 14), (1, .ref 2), (2, .int v2)], [.int v2, .ref 15, .ref 2, .int v2, .ref 16], 0, 0) 62 2 (fun _ => rfl) h) ?_
        refine pj_X_of (fun r h => pj_T_il iG8 rfl rfl (by omega) (by omega) h) ?_
        show pj_X _ _ G8 63 [(0, .ref 14), (1, .ref 2), (2, .int v2)] [.int (pj_ai G8 15 v2.toInt.toNat), .ref 2, .int v2, .ref 16] _
        obtain ⟨z9, hz9⟩ : ∃ z : Int32, z = pj_ai G8 15 v2.toInt.toNat := ⟨_, rfl⟩
        refine pj_X_eqi hz9.symm ?_
        rw [← hz9, pj_nm_e]
        have ez9 : (pj_ai G8 15 v2.toInt.toNat).toInt = z9.toInt := by rw [hz9]
        have fz9_0 : (0 : Int) ≤ z9.toInt ∧ z9.toInt ≤ 7 ∧ (z9.toInt ≤ 0 ∨ 0 ≤ z9.toInt) := by rw [hz9]; exact iG8.2.2.1 15 (10, 0, 7, 0, 0) rfl _ (by show _ < 10; omega)
        refine pj_X_of (fun r h => pj_R_to (G8, 64, [(0, .ref 14), (1, .ref 2), (2, .int v2)], [.ref 14, .int z9, .ref 2, .int v2, .ref 16], 0, 0) 64 2 (fun _ => rfl) h) ?_
        refine pj_X_of (fun r h => pj_T_gi iG8 rfl rfl h) ?_
        show pj_X _ _ G8 67 [(0, .ref 14), (1, .ref 2), (2, .int v2)] [.int (pj_fi G8 14 0), .int z9, .ref 2, .int v2, .ref 16] _
        obtain ⟨y10, hy10⟩ : ∃ z : Int32, z = pj_fi G8 14 0 := ⟨_, rfl⟩
        refine pj_X_eqi hy10.symm ?_
        rw [← hy10, pj_nm_e]
        have ey10 : (pj_fi G8 14 0).toInt = y10.toInt := by rw [hy10]
        have ry10 : (0 : Int) ≤ y10.toInt ∧ y10.toInt ≤ 8 := by rw [hy10]; exact iG8.2.1 14 0 (0, 8) rfl
        refine pj_X_ca (vs := [.ref 2, .int z9, .int y10]) rfl (fun _ => rfl) ⟨Nat.le_of_ble_eq_true rfl, Nat.le_of_ble_eq_true rfl, pj_T_rcv iG8 rfl⟩ ⟨rfl, rfl⟩ (pj_Y_up (by decide) (ct_87x G8 iG8 z9 y10 ⟨by omega, by omega⟩ ⟨by omega, by omega⟩)) ?_
        rintro _ G12 ⟨y11, rfl, iG12, jG12, ry11, ey11, fy11⟩
        replace ey11 := ey11 _ rfl
        rw [← fy11, pj_bd_e]
        have kG12 : pj_kpt kc_41_14x G0 G12 := pj_kpt_t kG8 (pj_kpt_s jG12 rfl)
        show pj_X _ _ G12 70 [(0, .ref 14), (1, .ref 2), (2, .int v2)] [.int y11, .int v2, .ref 16] _
        refine pj_X_of (fun r h => pj_T_is iG12 rfl rfl (by omega) (by omega) h) ?_
        show pj_X _ _ (pj_wa G12 16 v2.toInt.toNat y11) 71 [(0, .ref 14), (1, .ref 2), (2, .int v2)] [] _
        obtain ⟨G13, hG13⟩ : ∃ H, H = pj_wa G12 16 v2.toInt.toNat y11 := ⟨_, rfl⟩
        have iG13 : pj_Inv G13 := by rw [hG13]; exact pj_Inv_wa iG12 rfl (fun q hq => by cases hq; exact ⟨by show (0 : Int) ≤ _; omega, by show _ ≤ (7 : Int); omega, by show _ ≤ (0 : Int) ∨ (0 : Int) ≤ _; omega⟩) (fun n hn => by cases hn)
        have kG13 : pj_kpt kc_41_14x G0 G13 := by rw [hG13]; exact pj_kpt_a kG12 rfl
        rw [← hG13]
        rw [pj_nm_e]
        refine pj_X_of (fun r h => pj_R_to (G13, 72, [(0, .ref 14), (1, .ref 2), (2, .int v2)], [.ref 14], 0, 0) 72 2 (fun _ => rfl) h) ?_
        refine pj_X_of (fun r h => pj_T_gr iG13 rfl rfl rfl h) ?_
        refine pj_X_of (fun r h => pj_R_to (G13, 78, [(0, .ref 14), (1, .ref 2), (2, .int v2)], [.int (Int32.ofInt 2), .ref 2, .int v2, .ref 17], 0, 0) 78 4 (fun _ => rfl) h) ?_
        refine pj_X_ca (vs := [.ref 2, .int (Int32.ofInt 2)]) rfl (fun _ => rfl) ⟨Nat.le_of_ble_eq_true rfl, Nat.le_of_ble_eq_true rfl, pj_T_rcv iG13 rfl⟩ ⟨rfl, rfl⟩ (pj_Y_up (by decide) (ct_86x G13 iG13 (Int32.ofInt 2) ⟨by omega, by omega⟩)) ?_
        rintro _ G15 ⟨y14, rfl, iG15, jG15, ry14, fy14⟩
        rw [← fy14, pj_bd_e]
        have kG15 : pj_kpt kc_41_14x G0 G15 := pj_kpt_t kG13 (pj_kpt_s jG15 rfl)
        show pj_X _ _ G15 81 [(0, .ref 14), (1, .ref 2), (2, .int v2)] [.int y14, .int v2, .ref 17] _
        refine pj_X_of (fun r h => pj_T_is iG15 rfl rfl (by omega) (by omega) h) ?_
        show pj_X _ _ (pj_wa G15 17 v2.toInt.toNat y14) 82 [(0, .ref 14), (1, .ref 2), (2, .int v2)] [] _
        obtain ⟨G16, hG16⟩ : ∃ H, H = pj_wa G15 17 v2.toInt.toNat y14 := ⟨_, rfl⟩
        have iG16 : pj_Inv G16 := by rw [hG16]; exact pj_Inv_wa iG15 rfl (fun q hq => by cases hq) (fun n hn => by cases hn)
        have kG16 : pj_kpt kc_41_14x G0 G16 := by rw [hG16]; exact pj_kpt_a kG15 rfl
        rw [← hG16]
        rw [pj_nm_e]
        refine pj_X_of (fun r h => pj_R_to (G16, 87, [(0, .ref 14), (1, .ref 2), (2, .int v2)], [.int ((Int8.ofInt 58).toInt32), .int ((Int8.ofInt 58).toInt32), .ref 2], 0, 0) 87 4 (fun _ => rfl) h) ?_
        refine pj_X_ca (vs := [.ref 2, .int ((Int8.ofInt 58).toInt32), .int ((Int8.ofInt 58).toInt32)]) rfl (fun _ => rfl) ⟨Nat.le_of_ble_eq_true rfl, Nat.le_of_ble_eq_true rfl, pj_T_rcv iG16 rfl⟩ ⟨rfl, rfl⟩ (pj_Y_up (by decide) (ct_83x G16 iG16 ((Int8.ofInt 58).toInt32) ((Int8.ofInt 58).toInt32) ⟨by omega, by omega⟩ ⟨by omega, by omega⟩)) ?_
        rintro _ G18 ⟨y17, rfl, iG18, jG18, ry17, ey17, fy17⟩
        replace ey17 := ey17 _ rfl
        rw [← fy17, pj_bd_e]
        have kG18 : pj_kpt kc_41_14x G0 G18 := pj_kpt_t kG16 (pj_kpt_s jG18 rfl)
        show pj_X _ _ G18 90 [(0, .ref 14), (1, .ref 2), (2, .int v2)] [.int y17] _
        refine pj_X_of (fun r h => pj_R_to (G18, 92, [(0, .ref 14), (1, .ref 2), (2, .int v2)], [.ref 14], 0, 0) 92 3 (fun _ => rfl) h) ?_
        refine pj_X_of (fun r h => pj_T_gr iG18 rfl rfl rfl h) ?_
        refine pj_X_of (fun r h => pj_R_to (G18, 102, [(0, .ref 14), (1, .ref 2), (2, .int v2)], [.int ((Int8.ofInt 57).toInt32), .int ((Int8.ofInt 49).toInt32), .ref 2, .int (Int32.ofInt 1), .int v2, .ref 18], 0, 0) 102 6 (fun _ => rfl) h) ?_
        refine pj_X_ca (vs := [.ref 2, .int ((Int8.ofInt 49).toInt32), .int ((Int8.ofInt 57).toInt32)]) rfl (fun _ => rfl) ⟨Nat.le_of_ble_eq_true rfl, Nat.le_of_ble_eq_true rfl, pj_T_rcv iG18 rfl⟩ ⟨rfl, rfl⟩ (pj_Y_up (by decide) (ct_83x G18 iG18 ((Int8.ofInt 49).toInt32) ((Int8.ofInt 57).toInt32) ⟨by omega, by omega⟩ ⟨by omega, by omega⟩)) ?_
        rintro _ G20 ⟨y19, rfl, iG20, jG20, ry19, ey19, fy19⟩
        replace ey19 := ey19 _ rfl
        rw [← fy19, pj_bd_e]
        have kG20 : pj_kpt kc_41_14x G0 G20 := pj_kpt_t kG18 (pj_kpt_s jG20 rfl)
        show pj_X _ _ G20 105 [(0, .ref 14), (1, .ref 2), (2, .int v2)] [.int y19, .int (Int32.ofInt 1), .int v2, .ref 18] _
        refine pj_X_of (fun r h => pj_R_to (G20, 106, [(0, .ref 14), (1, .ref 2), (2, .int v2)], [.int ((Int32.ofInt 1) + y19), .int v2, .ref 18], 0, 0) 106 2 (fun _ => rfl) h) ?_
        obtain ⟨z21, hz21⟩ : ∃ z : Int32, z = (Int32.ofInt 1) + y19 := ⟨_, rfl⟩
        refine pj_X_eqi hz21.symm ?_
        rw [← hz21, pj_nm_e]
        have fz21_0 : z21.toInt = (Int32.ofInt 1).toInt + y19.toInt := by rw [hz21]; exact pj_addI (by have := pj_i32 (Int32.ofInt 1); have := pj_i32 y19; omega) (by have := pj_i32 (Int32.ofInt 1); have := pj_i32 y19; omega)
        refine pj_X_of (fun r h => pj_T_is iG20 rfl rfl (by omega) (by omega) h) ?_
        show pj_X _ _ (pj_wa G20 18 v2.toInt.toNat z21) 107 [(0, .ref 14), (1, .ref 2), (2, .int v2)] [] _
        obtain ⟨G22, hG22⟩ : ∃ H, H = pj_wa G20 18 v2.toInt.toNat z21 := ⟨_, rfl⟩
        have iG22 : pj_Inv G22 := by rw [hG22]; exact pj_Inv_wa iG20 rfl (fun q hq => by cases hq; exact ⟨by show (0 : Int) ≤ _; omega, by show _ ≤ (9 : Int); omega, by show _ ≤ (0 : Int) ∨ (0 : Int) ≤ _; omega⟩) (fun n hn => by cases hn)
        have kG22 : pj_kpt kc_41_14x G0 G22 := by rw [hG22]; exact pj_kpt_a kG20 rfl
        rw [← hG22]
        rw [pj_nm_e]
        refine pj_X_of (fun r h => pj_R_to (G22, 111, [(0, .ref 14), (1, .ref 2), (2, .int v2)], [.int (v2 + (Int32.ofInt 1)), .ref 14], 0, 0) 111 5 (fun _ => rfl) h) ?_
        obtain ⟨z23, hz23⟩ : ∃ z : Int32, z = v2 + (Int32.ofInt 1) := ⟨_, rfl⟩
        refine pj_X_eqi hz23.symm ?_
        rw [← hz23, pj_nm_e]
        have fz23_0 : z23.toInt = v2.toInt + (Int32.ofInt 1).toInt := by rw [hz23]; exact pj_addI (by have := pj_i32 v2; have := pj_i32 (Int32.ofInt 1); omega) (by have := pj_i32 v2; have := pj_i32 (Int32.ofInt 1); omega)
        refine pj_X_of (fun r h => pj_T_pf iG22 rfl rfl rfl h) ?_
        show pj_X _ _ (pj_wv G22 14 1 (.int z23)) 114 [(0, .ref 14), (1, .ref 2), (2, .int v2)] [] _
        obtain ⟨G24, hG24⟩ : ∃ H, H = pj_wv G22 14 1 (.int z23) := ⟨_, rfl⟩
        have iG24 : pj_Inv G24 := by rw [hG24]; exact pj_Inv_wi iG22 (ci := 5) rfl (fun q hq => by cases hq; exact ⟨by show (0 : Int) ≤ _; omega, by show _ ≤ (10 : Int); omega⟩)
        have kG24 : pj_kpt kc_41_14x G0 G24 := by rw [hG24]; exact pj_kpt_v kG22 rfl
        rw [← hG24]
        rw [pj_nm_e]
        refine pj_X_of (fun r h => pj_R_to (G24, 117, [(2, .int (v2 + Int32.ofInt 1)), (0, .ref 14), (1, .ref 2)], [], 0, 0) 117 2 (fun _ => rfl) h) ?_
        rw [← hz23]
        refine pj_X_of (fun r h => pj_R_to (G24, 21, [(2, .int z23), (0, .ref 14), (1, .ref 2)], [], 0, 0) 21 2 (fun _ => rfl) h) ?_
        exact pj_X_sub [(0, .ref 14), (1, .ref 2), (2, .int z23)] (show List.Nodup [0, 1, 2] by decide) ⟨rfl, rfl, rfl, trivial⟩ (ih G24 iG24 kG24 z23 ⟨by omega, by omega⟩ (by omega))
theorem ct_41_14x (G0 : pj_G) (hI : pj_Inv G0) : pj_Y 4 41 [.ref 14, .ref 2] G0 (fun v' G' => v' = none ∧ pj_Inv G' ∧ pj_kpt kc_41_14x G0 G' ∧ (G' = F_41_14x G0)) := by
  have c0_ : ((Int8.ofInt 10).toInt32).toInt = 10 := by decide
  have c1_ : ((Int8.ofInt 49).toInt32).toInt = 49 := by decide
  have c2_ : ((Int8.ofInt 50).toInt32).toInt = 50 := by decide
  have c3_ : ((Int8.ofInt 56).toInt32).toInt = 56 := by decide
  have c4_ : ((Int8.ofInt 57).toInt32).toInt = 57 := by decide
  have c5_ : ((Int8.ofInt 58).toInt32).toInt = 58 := by decide
  have c6_ : ((Int8.ofInt 59).toInt32).toInt = 59 := by decide
  have c7_ : (Int32.ofInt (-1)).toInt = -1 := by decide
  have c8_ : (Int32.ofInt 0).toInt = 0 := by decide
  have c9_ : (Int32.ofInt 1).toInt = 1 := by decide
  have c10_ : (Int32.ofInt 2).toInt = 2 := by decide
  refine pj_Y_X (M := pj_m41) rfl rfl (Nat.le_of_ble_eq_true rfl) ?_
  have hK : pj_kpt kc_41_14x G0 G0 := pj_kpt_r _ _
  show pj_X _ _ G0 0 [(0, .ref 14), (1, .ref 2)] [] _
  rw [F_41_14x_e]
  refine pj_X_of (fun r h => pj_R_to (G0, 7, [(0, .ref 14), (1, .ref 2)], [.int ((Int8.ofInt 56).toInt32), .int ((Int8.ofInt 50).toInt32), .ref 2, .int (Int32.ofInt 2), .ref 14], 0, 0) 7 6 (fun _ => rfl) h) ?_
  refine pj_X_ca (vs := [.ref 2, .int ((Int8.ofInt 50).toInt32), .int ((Int8.ofInt 56).toInt32)]) rfl (fun _ => rfl) ⟨Nat.le_of_ble_eq_true rfl, Nat.le_of_ble_eq_true rfl, pj_T_rcv hI rfl⟩ ⟨rfl, rfl⟩ (pj_Y_up (by decide) (ct_83x G0 hI ((Int8.ofInt 50).toInt32) ((Int8.ofInt 56).toInt32) ⟨by omega, by omega⟩ ⟨by omega, by omega⟩)) ?_
  rintro _ G26 ⟨y25, rfl, iG26, jG26, ry25, ey25, fy25⟩
  replace ey25 := ey25 _ rfl
  rw [← fy25, pj_bd_e]
  have kG26 : pj_kpt kc_41_14x G0 G26 := pj_kpt_t hK (pj_kpt_s jG26 rfl)
  show pj_X _ _ G26 10 [(0, .ref 14), (1, .ref 2)] [.int y25, .int (Int32.ofInt 2), .ref 14] _
  refine pj_X_of (fun r h => pj_R_to (G26, 11, [(0, .ref 14), (1, .ref 2)], [.int ((Int32.ofInt 2) + y25), .ref 14], 0, 0) 11 2 (fun _ => rfl) h) ?_
  obtain ⟨z27, hz27⟩ : ∃ z : Int32, z = (Int32.ofInt 2) + y25 := ⟨_, rfl⟩
  refine pj_X_eqi hz27.symm ?_
  rw [← hz27, pj_nm_e]
  have fz27_0 : z27.toInt = (Int32.ofInt 2).toInt + y25.toInt := by rw [hz27]; exact pj_addI (by have := pj_i32 (Int32.ofInt 2); have := pj_i32 y25; omega) (by have := pj_i32 (Int32.ofInt 2); have := pj_i32 y25; omega)
  refine pj_X_of (fun r h => pj_T_pf iG26 rfl rfl rfl h) ?_
  show pj_X _ _ (pj_wv G26 14 0 (.int z27)) 14 [(0, .ref 14), (1, .ref 2)] [] _
  obtain ⟨G28, hG28⟩ : ∃ H, H = pj_wv G26 14 0 (.int z27) := ⟨_, rfl⟩
  have iG28 : pj_Inv G28 := by rw [hG28]; exact pj_Inv_wi iG26 (ci := 5) rfl (fun q hq => by cases hq; exact ⟨by show (0 : Int) ≤ _; omega, by show _ ≤ (8 : Int); omega⟩)
  have kG28 : pj_kpt kc_41_14x G0 G28 := by rw [hG28]; exact pj_kpt_v kG26 rfl
  rw [← hG28]
  rw [pj_nm_e]
  refine pj_X_of (fun r h => pj_R_to (G28, 16, [(0, .ref 14), (1, .ref 2)], [.int (Int32.ofInt 0), .ref 14], 0, 0) 16 3 (fun _ => rfl) h) ?_
  refine pj_X_of (fun r h => pj_T_pf iG28 rfl rfl rfl h) ?_
  show pj_X _ _ (pj_wv G28 14 1 (.int (Int32.ofInt 0))) 19 [(0, .ref 14), (1, .ref 2)] [] _
  obtain ⟨G29, hG29⟩ : ∃ H, H = pj_wv G28 14 1 (.int (Int32.ofInt 0)) := ⟨_, rfl⟩
  have iG29 : pj_Inv G29 := by rw [hG29]; exact pj_Inv_wi iG28 (ci := 5) rfl (fun q hq => by cases hq; exact ⟨by show (0 : Int) ≤ _; omega, by show _ ≤ (10 : Int); omega⟩)
  have kG29 : pj_kpt kc_41_14x G0 G29 := by rw [hG29]; exact pj_kpt_v kG28 rfl
  rw [← hG29]
  rw [pj_nm_e]
  refine pj_X_of (fun r h => pj_R_to (G29, 21, [(2, .int (Int32.ofInt 0)), (0, .ref 14), (1, .ref 2)], [], 0, 0) 21 3 (fun _ => rfl) h) ?_
  exact pj_X_sub [(0, .ref 14), (1, .ref 2), (2, .int (Int32.ofInt 0))] (show List.Nodup [0, 1, 2] by decide) ⟨rfl, rfl, rfl, trivial⟩ ((lp_ct_41_14x G0 hI   11) G29 iG29 kG29 (Int32.ofInt 0) ⟨by omega, by omega⟩ (by omega))
theorem fr_41_14x (G0 : pj_G) (hI : pj_Inv G0) : pj_Inv (F_41_14x G0) ∧ pj_kpt kc_41_14x G0 (F_41_14x G0) := by
  obtain ⟨v, G', -, -, i, j, e⟩ := ct_41_14x G0 hI 
  rw [← e]
  exact ⟨i, j⟩
def kc_36x : pj_KT := ([(53, 2)], [53], [])
noncomputable def F_36x (G0 : pj_G) : pj_G := pj_nm (pj_wv G0 53 2 (.int (Int32.ofInt 0))) (fun G1 => G1)
theorem F_36x_e (G0 : pj_G) : F_36x G0 = pj_nm (pj_wv G0 53 2 (.int (Int32.ofInt 0))) (fun G1 => G1) := rfl
theorem ct_36x (G0 : pj_G) (hI : pj_Inv G0) : pj_Y 1 36 [.ref 53] G0 (fun v' G' => v' = none ∧ pj_Inv G' ∧ pj_kpt kc_36x G0 G' ∧ (G' = F_36x G0)) := by
  have c0_ : (Int32.ofInt 0).toInt = 0 := by decide
  refine pj_Y_X (M := pj_m36) rfl rfl (Nat.le_of_ble_eq_true rfl) ?_
  have hK : pj_kpt kc_36x G0 G0 := pj_kpt_r _ _
  show pj_X _ _ G0 0 [(0, .ref 53)] [] _
  rw [F_36x_e]
  refine pj_X_of (fun r h => pj_R_to (G0, 2, [(0, .ref 53)], [.int (Int32.ofInt 0), .ref 53], 0, 0) 2 3 (fun _ => rfl) h) ?_
  refine pj_X_of (fun r h => pj_T_pf hI rfl rfl rfl h) ?_
  show pj_X _ _ (pj_wv G0 53 2 (.int (Int32.ofInt 0))) 5 [(0, .ref 53)] [] _
  obtain ⟨G1, hG1⟩ : ∃ H, H = pj_wv G0 53 2 (.int (Int32.ofInt 0)) := ⟨_, rfl⟩
  have iG1 : pj_Inv G1 := by rw [hG1]; exact pj_Inv_wi hI (ci := 4) rfl (fun q hq => by cases hq; exact ⟨by show (0 : Int) ≤ _; omega, by show _ ≤ (15 : Int); omega⟩)
  have kG1 : pj_kpt kc_36x G0 G1 := by rw [hG1]; exact pj_kpt_v hK rfl
  rw [← hG1]
  rw [pj_nm_e]
  exact pj_X_rt rfl rfl ⟨rfl, iG1, kG1, rfl⟩
theorem fr_36x (G0 : pj_G) (hI : pj_Inv G0) : pj_Inv (F_36x G0) ∧ pj_kpt kc_36x G0 (F_36x G0) := by
  obtain ⟨v, G', -, -, i, j, e⟩ := ct_36x G0 hI 
  rw [← e]
  exact ⟨i, j⟩
def kc_37x : pj_KT := ([(53, 2)], [53, 56], [56])
noncomputable def L_37x (G0 : pj_G) (fu : Nat) : Int32 → pj_G → pj_G := Nat.rec (motive := fun _ => Int32 → pj_G → pj_G) (fun _ G => G) (fun _ ih v1 G => cond (pj_c1 .ge v1 (Int32.ofInt 3)) (G) (pj_nm (pj_wa G 56 v1.toInt.toNat (vp_nar .boolean (Int32.ofInt 0))) (fun G2 => pj_nm (v1 + Int32.ofInt 1) (fun z3 => ih z3 G2)))) fu
theorem L_37x_s0 (G0 : pj_G) (fu : Nat) (v1 : Int32) (G : pj_G) : L_37x G0 (fu + 1) v1 G = cond (pj_c1 .ge v1 (Int32.ofInt 3)) (G) (pj_nm (pj_wa G 56 v1.toInt.toNat (vp_nar .boolean (Int32.ofInt 0))) (fun G2 => pj_nm (v1 + Int32.ofInt 1) (fun z3 => L_37x G0 fu z3 G2))) := rfl
noncomputable def F_37x (G0 : pj_G) : pj_G := pj_nm (F_36x G0) (fun G5 => L_37x G0 4 (Int32.ofInt 0) G5)
theorem F_37x_e (G0 : pj_G) : F_37x G0 = pj_nm (F_36x G0) (fun G5 => L_37x G0 4 (Int32.ofInt 0) G5) := rfl
theorem lp_ct_37x (G0 : pj_G) (hI0 : pj_Inv G0) : ∀ mn : Nat, (∀ (G : pj_G) (hI : pj_Inv G) (hK : pj_kpt kc_37x G0 G) (v1 : Int32), ((0 : Int) ≤ v1.toInt ∧ v1.toInt ≤ 3) → 3 - v1.toInt < (mn : Int) → pj_X 1 pj_m37 G 6 [(0, .ref 53), (1, .int v1)] [] (fun v' G' => v' = none ∧ pj_Inv G' ∧ pj_kpt kc_37x G0 G' ∧ (G' = L_37x G0 mn v1 G))) := by
  have c0_ : (Int32.ofInt 0).toInt = 0 := by decide
  have c1_ : (Int32.ofInt 1).toInt = 1 := by decide
  have c2_ : (Int32.ofInt 3).toInt = 3 := by decide
  intro mn
  induction mn with
  | zero =>
    intro G hI hK v1 rv1 hm
    exfalso
    omega
  | succ mn ih =>
    intro G hI hK v1 rv1 hm
    rw [L_37x_s0]
    refine pj_X_of (fun r h => pj_R_to (G, 8, [(0, .ref 53), (1, .int v1)], [.int (Int32.ofInt 3), .int v1], 0, 0) 8 3 (fun _ => rfl) h) ?_
    cases b1 : pj_c1 .ge v1 (Int32.ofInt 3) with
    | true =>
      rw [pj_cT]
      have ub1 := pj_u_geT b1
      refine pj_X_of (fun r h => pj_R_icT 24 rfl rfl b1 h) ?_
      exact pj_X_rt rfl rfl ⟨rfl, hI, hK, rfl⟩
    | false =>
      rw [pj_cF]
      have ub1 := pj_u_geF b1
      refine pj_X_of (fun r h => pj_R_icF rfl b1 h) ?_
      refine pj_X_of (fun r h => pj_R_to (G, 12, [(0, .ref 53), (1, .int v1)], [.ref 53], 0, 0) 12 2 (fun _ => rfl) h) ?_
      refine pj_X_of (fun r h => pj_T_gr hI rfl rfl rfl h) ?_
      refine pj_X_of (fun r h => pj_R_to (G, 17, [(0, .ref 53), (1, .int v1)], [.int (Int32.ofInt 0), .int v1, .ref 56], 0, 0) 17 3 (fun _ => rfl) h) ?_
      refine pj_X_of (fun r h => pj_T_bs hI rfl rfl (by omega) (by omega) h) ?_
      show pj_X _ _ (pj_wa G 56 v1.toInt.toNat (vp_nar .boolean (Int32.ofInt 0))) 18 [(0, .ref 53), (1, .int v1)] [] _
      obtain ⟨G2, hG2⟩ : ∃ H, H = pj_wa G 56 v1.toInt.toNat (vp_nar .boolean (Int32.ofInt 0)) := ⟨_, rfl⟩
      have iG2 : pj_Inv G2 := by rw [hG2]; exact pj_Inv_wb hI rfl rfl rfl
      have kG2 : pj_kpt kc_37x G0 G2 := by rw [hG2]; exact pj_kpt_a hK rfl
      rw [← hG2]
      rw [pj_nm_e]
      refine pj_X_of (fun r h => pj_R_to (G2, 21, [(1, .int (v1 + Int32.ofInt 1)), (0, .ref 53)], [], 0, 0) 21 2 (fun _ => rfl) h) ?_
      obtain ⟨z3, hz3⟩ : ∃ z : Int32, z = v1 + Int32.ofInt 1 := ⟨_, rfl⟩
      rw [← hz3]
      rw [pj_nm_e]
      have fz3_0 : z3.toInt = v1.toInt + (Int32.ofInt 1).toInt := by rw [hz3]; exact pj_addI (by have := pj_i32 v1; have := pj_i32 (Int32.ofInt 1); omega) (by have := pj_i32 v1; have := pj_i32 (Int32.ofInt 1); omega)
      refine pj_X_of (fun r h => pj_R_to (G2, 6, [(1, .int z3), (0, .ref 53)], [], 0, 0) 6 2 (fun _ => rfl) h) ?_
      exact pj_X_sub [(0, .ref 53), (1, .int z3)] (show List.Nodup [0, 1] by decide) ⟨rfl, rfl, trivial⟩ (ih G2 iG2 kG2 z3 ⟨by omega, by omega⟩ (by omega))
theorem ct_37x (G0 : pj_G) (hI : pj_Inv G0) : pj_Y 2 37 [.ref 53] G0 (fun v' G' => v' = none ∧ pj_Inv G' ∧ pj_kpt kc_37x G0 G' ∧ (G' = F_37x G0)) := by
  have c0_ : (Int32.ofInt 0).toInt = 0 := by decide
  have c1_ : (Int32.ofInt 1).toInt = 1 := by decide
  have c2_ : (Int32.ofInt 3).toInt = 3 := by decide
  refine pj_Y_X (M := pj_m37) rfl rfl (Nat.le_of_ble_eq_true rfl) ?_
  have hK : pj_kpt kc_37x G0 G0 := pj_kpt_r _ _
  show pj_X _ _ G0 0 [(0, .ref 53)] [] _
  rw [F_37x_e]
  refine pj_X_of (fun r h => pj_R_to (G0, 1, [(0, .ref 53)], [.ref 53], 0, 0) 1 2 (fun _ => rfl) h) ?_
  refine pj_X_ca (vs := [.ref 53]) rfl (fun _ => rfl) ⟨Nat.le_of_ble_eq_true rfl, Nat.le_of_ble_eq_true rfl, pj_T_rcv hI rfl⟩ ⟨rfl, rfl⟩ (pj_Y_up (by decide) (ct_36x G0 hI)) ?_
  rintro _ G5 ⟨rfl, iG5, jG5, fy4⟩
  rw [← fy4, pj_nm_e]
  have kG5 : pj_kpt kc_37x G0 G5 := pj_kpt_t hK (pj_kpt_s jG5 rfl)
  show pj_X _ _ G5 4 [(0, .ref 53)] [] _
  refine pj_X_of (fun r h => pj_R_to (G5, 6, [(1, .int (Int32.ofInt 0)), (0, .ref 53)], [], 0, 0) 6 3 (fun _ => rfl) h) ?_
  exact pj_X_sub [(0, .ref 53), (1, .int (Int32.ofInt 0))] (show List.Nodup [0, 1] by decide) ⟨rfl, rfl, trivial⟩ ((lp_ct_37x G0 hI   4) G5 iG5 kG5 (Int32.ofInt 0) ⟨by omega, by omega⟩ (by omega))
theorem fr_37x (G0 : pj_G) (hI : pj_Inv G0) : pj_Inv (F_37x G0) ∧ pj_kpt kc_37x G0 (F_37x G0) := by
  obtain ⟨v, G', -, -, i, j, e⟩ := ct_37x G0 hI 
  rw [← e]
  exact ⟨i, j⟩
def kc_42_7x : pj_KT := ([], [12, 13], [12, 13])
noncomputable def L_42_7x (G0 : pj_G) (fu : Nat) : Nat → Int32 → Int32 → Int32 → pj_G → pj_G := Nat.rec (motive := fun _ => Nat → Int32 → Int32 → Int32 → pj_G → pj_G) (fun _ _ _ _ G => G) (fun _ ih lab v1 v2 v3 G => cond (Nat.beq lab 0) (pj_nm (pj_fi G 7 1) (fun y1 => cond (pj_c1 .ge v1 y1) (G) (ih 1 v1 (Int32.ofInt 0) (Int32.ofInt 0) G))) (pj_nm (pj_fi G 7 1) (fun y4 => cond (pj_c1 .ge v3 y4) (pj_nm (pj_wa G 12 v1.toInt.toNat v2) (fun G6 => pj_nm (pj_wa G6 13 v2.toInt.toNat v1) (fun G7 => pj_nm (v1 + Int32.ofInt 1) (fun z8 => ih 0 z8 0 0 G7)))) (pj_nm (pj_ai G 10 v3.toInt.toNat) (fun z9 => pj_nm (pj_ai G 10 v1.toInt.toNat) (fun z10 => cond (pj_c1 .lt z9 z10) (pj_nm (v2 + Int32.ofInt 1) (fun z12 => pj_nm (v3 + Int32.ofInt 1) (fun z13 => ih 1 v1 z12 z13 G))) (cond (pj_c1 .ne z9 z10) (pj_nm (v3 + Int32.ofInt 1) (fun z16 => ih 1 v1 v2 z16 G)) (cond (pj_c1 .ge v3 v1) (pj_nm (v3 + Int32.ofInt 1) (fun z19 => ih 1 v1 v2 z19 G)) (pj_nm (v2 + Int32.ofInt 1) (fun z21 => pj_nm (v3 + Int32.ofInt 1) (fun z22 => ih 1 v1 z21 z22 G))))))))))) fu
theorem L_42_7x_s0 (G0 : pj_G) (fu : Nat) (v1 : Int32) (G : pj_G) : L_42_7x G0 (fu + 1) 0 v1 0 0 G = pj_nm (pj_fi G 7 1) (fun y1 => cond (pj_c1 .ge v1 y1) (G) (L_42_7x G0 fu 1 v1 (Int32.ofInt 0) (Int32.ofInt 0) G)) := rfl
theorem L_42_7x_s1 (G0 : pj_G) (fu : Nat) (v1 : Int32) (v2 : Int32) (v3 : Int32) (G : pj_G) : L_42_7x G0 (fu + 1) 1 v1 v2 v3 G = pj_nm (pj_fi G 7 1) (fun y4 => cond (pj_c1 .ge v3 y4) (pj_nm (pj_wa G 12 v1.toInt.toNat v2) (fun G6 => pj_nm (pj_wa G6 13 v2.toInt.toNat v1) (fun G7 => pj_nm (v1 + Int32.ofInt 1) (fun z8 => L_42_7x G0 fu 0 z8 0 0 G7)))) (pj_nm (pj_ai G 10 v3.toInt.toNat) (fun z9 => pj_nm (pj_ai G 10 v1.toInt.toNat) (fun z10 => cond (pj_c1 .lt z9 z10) (pj_nm (v2 + Int32.ofInt 1) (fun z12 => pj_nm (v3 + Int32.ofInt 1) (fun z13 => L_42_7x G0 fu 1 v1 z12 z13 G))) (cond (pj_c1 .ne z9 z10) (pj_nm (v3 + Int32.ofInt 1) (fun z16 => L_42_7x G0 fu 1 v1 v2 z16 G)) (cond (pj_c1 .ge v3 v1) (pj_nm (v3 + Int32.ofInt 1) (fun z19 => L_42_7x G0 fu 1 v1 v2 z19 G)) (pj_nm (v2 + Int32.ofInt 1) (fun z21 => pj_nm (v3 + Int32.ofInt 1) (fun z22 => L_42_7x G0 fu 1 v1 z21 z22 G))))))))) := rfl
noncomputable def F_42_7x (G0 : pj_G) : pj_G := L_42_7x G0 401 0 (Int32.ofInt 0) 0 0 G0
theorem F_42_7x_e (G0 : pj_G) : F_42_7x G0 = L_42_7x G0 401 0 (Int32.ofInt 0) 0 0 G0 := rfl
theorem lp_ct_42_7x (G0 : pj_G) (hI0 : pj_Inv G0) : ∀ mn : Nat, (∀ (G : pj_G) (hI : pj_Inv G) (hK : pj_kpt kc_42_7x G0 G) (v1 : Int32), ((0 : Int) ≤ v1.toInt ∧ v1.toInt ≤ 10) → 30 * (10 - v1.toInt) < (mn : Int) → pj_X 0 pj_m42 G 2 [(0, .ref 7), (1, .int v1)] [] (fun v' G' => v' = none ∧ pj_Inv G' ∧ pj_kpt kc_42_7x G0 G' ∧ (G' = L_42_7x G0 mn 0 v1 0 0 G))) ∧ (∀ (G : pj_G) (hI : pj_Inv G) (hK : pj_kpt kc_42_7x G0 G) (v1 : Int32) (v2 : Int32) (v3 : Int32), ((0 : Int) ≤ v1.toInt ∧ v1.toInt ≤ 9) → ((0 : Int) ≤ v2.toInt ∧ v2.toInt ≤ 10) → ((0 : Int) ≤ v3.toInt ∧ v3.toInt ≤ 10) → (v2.toInt ≤ v3.toInt) → (v1.toInt < v3.toInt → v2.toInt ≤ v3.toInt - 1) → (v1.toInt < (pj_fi G 7 1).toInt) → 30 * (10 - v1.toInt) - 1 - v3.toInt < (mn : Int) → pj_X 0 pj_m42 G 14 [(0, .ref 7), (1, .int v1), (2, .int v2), (3, .int v3)] [] (fun v' G' => v' = none ∧ pj_Inv G' ∧ pj_kpt kc_42_7x G0 G' ∧ (G' = L_42_7x G0 mn 1 v1 v2 v3 G))) := by
  have c0_ : (Int32.ofInt 0).toInt = 0 := by decide
  have c1_ : (Int32.ofInt 1).toInt = 1 := by decide
  intro mn
  induction mn with
  | zero =>
    refine ⟨?_, ?_⟩
    · intro G hI hK v1 rv1 hm
      exfalso
      omega
    · intro G hI hK v1 v2 v3 rv1 rv2 rv3 x0_ x1_ x2_ hm
      exfalso
      omega
  | succ mn ih =>
    refine ⟨?_, ?_⟩
    · intro G hI hK v1 rv1 hm
      rw [L_42_7x_s0]
      refine pj_X_of (fun r h => pj_R_to (G, 4, [(0, .ref 7), (1, .int v1)], [.ref 7, .int v1], 0, 0) 4 3 (fun _ => rfl) h) ?_
      refine pj_X_of (fun r h => pj_T_gi hI rfl rfl h) ?_
      show pj_X _ _ G 7 [(0, .ref 7), (1, .int v1)] [.int (pj_fi G 7 1), .int v1] _
      obtain ⟨y1, hy1⟩ : ∃ z : Int32, z = pj_fi G 7 1 := ⟨_, rfl⟩
      refine pj_X_eqi hy1.symm ?_
      rw [← hy1, pj_nm_e]
      have ey1 : (pj_fi G 7 1).toInt = y1.toInt := by rw [hy1]
      have ry1 : (0 : Int) ≤ y1.toInt ∧ y1.toInt ≤ 10 := by rw [hy1]; exact hI.2.1 7 1 (0, 10) rfl
      cases b2 : pj_c1 .ge v1 y1 with
      | true =>
        rw [pj_cT]
        have ub2 := pj_u_geT b2
        refine pj_X_of (fun r h => pj_R_icT 86 rfl rfl b2 h) ?_
        exact pj_X_rt rfl rfl ⟨rfl, hI, hK, rfl⟩
      | false =>
        rw [pj_cF]
        have ub2 := pj_u_geF b2
        refine pj_X_of (fun r h => pj_R_icF rfl b2 h) ?_
        refine pj_X_of (fun r h => pj_R_to (G, 14, [(3, .int (Int32.ofInt 0)), (2, .int (Int32.ofInt 0)), (0, .ref 7), (1, .int v1)], [], 0, 0) 14 5 (fun _ => rfl) h) ?_
        have q3 : (pj_fi G 7 1).toInt = y1.toInt := by rw [show pj_fi G 7 1 = y1 from hy1.symm]
        exact pj_X_sub [(0, .ref 7), (1, .int v1), (2, .int (Int32.ofInt 0)), (3, .int (Int32.ofInt 0))] (show List.Nodup [0, 1, 2, 3] by decide) ⟨rfl, rfl, rfl, rfl, trivial⟩ (ih.2 G hI hK v1 (Int32.ofInt 0) (Int32.ofInt 0) ⟨by omega, by omega⟩ ⟨by omega, by omega⟩ ⟨by omega, by omega⟩ (by omega) (by omega) (by omega) (by omega))
    · intro G hI hK v1 v2 v3 rv1 rv2 rv3 x0_ x1_ x2_ hm
      rw [L_42_7x_s1]
      refine pj_X_of (fun r h => pj_R_to (G, 16, [(0, .ref 7), (1, .int v1), (2, .int v2), (3, .int v3)], [.ref 7, .int v3], 0, 0) 16 3 (fun _ => rfl) h) ?_
      refine pj_X_of (fun r h => pj_T_gi hI rfl rfl h) ?_
      show pj_X _ _ G 19 [(0, .ref 7), (1, .int v1), (2, .int v2), (3, .int v3)] [.int (pj_fi G 7 1), .int v3] _
      obtain ⟨y4, hy4⟩ : ∃ z : Int32, z = pj_fi G 7 1 := ⟨_, rfl⟩
      refine pj_X_eqi hy4.symm ?_
      rw [← hy4, pj_nm_e]
      have ey4 : (pj_fi G 7 1).toInt = y4.toInt := by rw [hy4]
      have ry4 : (0 : Int) ≤ y4.toInt ∧ y4.toInt ≤ 10 := by rw [hy4]; exact hI.2.1 7 1 (0, 10) rfl
      cases b5 : pj_c1 .ge v3 y4 with
      | true =>
        rw [pj_cT]
        have ub5 := pj_u_geT b5
        refine pj_X_of (fun r h => pj_R_icT 66 rfl rfl b5 h) ?_
        refine pj_X_of (fun r h => pj_R_to (G, 67, [(0, .ref 7), (1, .int v1), (2, .int v2), (3, .int v3)], [.ref 7], 0, 0) 67 2 (fun _ => rfl) h) ?_
        refine pj_X_of (fun r h => pj_T_gr hI rfl rfl rfl h) ?_
        refine pj_X_of (fun r h => pj_R_to (G, 72, [(0, .ref 7), (1, .int v1), (2, .int v2), (3, .int v3)], [.int v2, .int v1, .ref 12], 0, 0) 72 3 (fun _ => rfl) h) ?_
        refine pj_X_of (fun r h => pj_T_is hI rfl rfl (by omega) (by omega) h) ?_
        show pj_X _ _ (pj_wa G 12 v1.toInt.toNat v2) 73 [(0, .ref 7), (1, .int v1), (2, .int v2), (3, .int v3)] [] _
        obtain ⟨G6, hG6⟩ : ∃ H, H = pj_wa G 12 v1.toInt.toNat v2 := ⟨_, rfl⟩
        have iG6 : pj_Inv G6 := by rw [hG6]; exact pj_Inv_wa hI rfl (fun q hq => by cases hq; exact ⟨by show (0 : Int) ≤ _; omega, by show _ ≤ (9 : Int); omega, by show _ ≤ (0 : Int) ∨ (0 : Int) ≤ _; omega⟩) (fun n hn => by cases hn)
        have kG6 : pj_kpt kc_42_7x G0 G6 := by rw [hG6]; exact pj_kpt_a hK rfl
        rw [← hG6]
        rw [pj_nm_e]
        refine pj_X_of (fun r h => pj_R_to (G6, 74, [(0, .ref 7), (1, .int v1), (2, .int v2), (3, .int v3)], [.ref 7], 0, 0) 74 2 (fun _ => rfl) h) ?_
        refine pj_X_of (fun r h => pj_T_gr iG6 rfl rfl rfl h) ?_
        refine pj_X_of (fun r h => pj_R_to (G6, 79, [(0, .ref 7), (1, .int v1), (2, .int v2), (3, .int v3)], [.int v1, .int v2, .ref 13], 0, 0) 79 3 (fun _ => rfl) h) ?_
        refine pj_X_of (fun r h => pj_T_is iG6 rfl rfl (by omega) (by omega) h) ?_
        show pj_X _ _ (pj_wa G6 13 v2.toInt.toNat v1) 80 [(0, .ref 7), (1, .int v1), (2, .int v2), (3, .int v3)] [] _
        obtain ⟨G7, hG7⟩ : ∃ H, H = pj_wa G6 13 v2.toInt.toNat v1 := ⟨_, rfl⟩
        have iG7 : pj_Inv G7 := by rw [hG7]; exact pj_Inv_wa iG6 rfl (fun q hq => by cases hq; exact ⟨by show (0 : Int) ≤ _; omega, by show _ ≤ (9 : Int); omega, by show _ ≤ (0 : Int) ∨ (0 : Int) ≤ _; omega⟩) (fun n hn => by cases hn)
        have kG7 : pj_kpt kc_42_7x G0 G7 := by rw [hG7]; exact pj_kpt_a kG6 rfl
        rw [← hG7]
        rw [pj_nm_e]
        refine pj_X_of (fun r h => pj_R_to (G7, 83, [(1, .int (v1 + Int32.ofInt 1)), (0, .ref 7), (2, .int v2), (3, .int v3)], [], 0, 0) 83 2 (fun _ => rfl) h) ?_
        obtain ⟨z8, hz8⟩ : ∃ z : Int32, z = v1 + Int32.ofInt 1 := ⟨_, rfl⟩
        rw [← hz8]
        rw [pj_nm_e]
        have fz8_0 : z8.toInt = v1.toInt + (Int32.ofInt 1).toInt := by rw [hz8]; exact pj_addI (by have := pj_i32 v1; have := pj_i32 (Int32.ofInt 1); omega) (by have := pj_i32 v1; have := pj_i32 (Int32.ofInt 1); omega)
        refine pj_X_of (fun r h => pj_R_to (G7, 2, [(1, .int z8), (0, .ref 7), (2, .int v2), (3, .int v3)], [], 0, 0) 2 2 (fun _ => rfl) h) ?_
        exact pj_X_sub [(0, .ref 7), (1, .int z8)] (show List.Nodup [0, 1] by decide) ⟨rfl, rfl, trivial⟩ (ih.1 G7 iG7 kG7 z8 ⟨by omega, by omega⟩ (by omega))
      | false =>
        rw [pj_cF]
        have ub5 := pj_u_geF b5
        refine pj_X_of (fun r h => pj_R_icF rfl b5 h) ?_
        refine pj_X_of (fun r h => pj_R_to (G, 23, [(0, .ref 7), (1, .int v1), (2, .int v2), (3, .int v3)], [.ref 7], 0, 0) 23 2 (fun _ => rfl) h) ?_
        refine pj_X_of (fun r h => pj_T_gr hI rfl rfl rfl h) ?_
        refine pj_X_of (fun r h => pj_R_to (G, 27, [(0, .ref 7), (1, .int v1), (2, .int v2), (3, .int v3)], [.int v3, .ref 10], 0, 0) 27 2 (fun _ => rfl) h) ?_
        refine pj_X_of (fun r h => pj_T_il hI rfl rfl (by omega) (by omega) h) ?_
        show pj_X _ _ G 28 [(0, .ref 7), (1, .int v1), (2, .int v2), (3, .int v3)] [.int (pj_ai G 10 v3.toInt.toNat)] _
        obtain ⟨z9, hz9⟩ : ∃ z : Int32, z = pj_ai G 10 v3.toInt.toNat := ⟨_, rfl⟩
        refine pj_X_eqi hz9.symm ?_
        rw [← hz9, pj_nm_e]
        have ez9 : (pj_ai G 10 v3.toInt.toNat).toInt = z9.toInt := by rw [hz9]
        refine pj_X_of (fun r h => pj_R_to (G, 29, [(0, .ref 7), (1, .int v1), (2, .int v2), (3, .int v3)], [.ref 7, .int z9], 0, 0) 29 2 (fun _ => rfl) h) ?_
        refine pj_X_of (fun r h => pj_T_gr hI rfl rfl rfl h) ?_
        refine pj_X_of (fun r h => pj_R_to (G, 33, [(0, .ref 7), (1, .int v1), (2, .int v2), (3, .int v3)], [.int v1, .ref 10, .int z9], 0, 0) 33 2 (fun _ => rfl) h) ?_
        refine pj_X_of (fun r h => pj_T_il hI rfl rfl (by omega) (by omega) h) ?_
        show pj_X _ _ G 34 [(0, .ref 7), (1, .int v1), (2, .int v2), (3, .int v3)] [.int (pj_ai G 10 v1.toInt.toNat), .int z9] _
        obtain ⟨z10, hz10⟩ : ∃ z : Int32, z = pj_ai G 10 v1.toInt.toNat := ⟨_, rfl⟩
        refine pj_X_eqi hz10.symm ?_
        rw [← hz10, pj_nm_e]
        have ez10 : (pj_ai G 10 v1.toInt.toNat).toInt = z10.toInt := by rw [hz10]
        have xz10_z9 : v1.toInt = v3.toInt → z10.toInt = z9.toInt := by intro e; rw [hz10, hz9, show v1.toInt.toNat = v3.toInt.toNat by rw [e]]
        cases b11 : pj_c1 .lt z9 z10 with
        | true =>
          rw [pj_cT]
          have ub11 := pj_u_ltT b11
          refine pj_X_of (fun r h => pj_R_icT 57 rfl rfl b11 h) ?_
          refine pj_X_of (fun r h => pj_R_to (G, 60, [(2, .int (v2 + Int32.ofInt 1)), (0, .ref 7), (1, .int v1), (3, .int v3)], [], 0, 0) 60 2 (fun _ => rfl) h) ?_
          obtain ⟨z12, hz12⟩ : ∃ z : Int32, z = v2 + Int32.ofInt 1 := ⟨_, rfl⟩
          rw [← hz12]
          rw [pj_nm_e]
          have fz12_0 : z12.toInt = v2.toInt + (Int32.ofInt 1).toInt := by rw [hz12]; exact pj_addI (by have := pj_i32 v2; have := pj_i32 (Int32.ofInt 1); omega) (by have := pj_i32 v2; have := pj_i32 (Int32.ofInt 1); omega)
          refine pj_X_of (fun r h => pj_R_to (G, 63, [(3, .int (v3 + Int32.ofInt 1)), (2, .int z12), (0, .ref 7), (1, .int v1)], [], 0, 0) 63 2 (fun _ => rfl) h) ?_
          obtain ⟨z13, hz13⟩ : ∃ z : Int32, z = v3 + Int32.ofInt 1 := ⟨_, rfl⟩
          rw [← hz13]
          rw [pj_nm_e]
          have fz13_0 : z13.toInt = v3.toInt + (Int32.ofInt 1).toInt := by rw [hz13]; exact pj_addI (by have := pj_i32 v3; have := pj_i32 (Int32.ofInt 1); omega) (by have := pj_i32 v3; have := pj_i32 (Int32.ofInt 1); omega)
          refine pj_X_of (fun r h => pj_R_to (G, 14, [(3, .int z13), (2, .int z12), (0, .ref 7), (1, .int v1)], [], 0, 0) 14 2 (fun _ => rfl) h) ?_
          have q14 : (pj_fi G 7 1).toInt = y4.toInt := by rw [show pj_fi G 7 1 = y4 from hy4.symm]
          exact pj_X_sub [(0, .ref 7), (1, .int v1), (2, .int z12), (3, .int z13)] (show List.Nodup [0, 1, 2, 3] by decide) ⟨rfl, rfl, rfl, rfl, trivial⟩ (ih.2 G hI hK v1 z12 z13 ⟨by omega, by omega⟩ ⟨by omega, by omega⟩ ⟨by omega, by omega⟩ (by omega) (by omega) (by omega) (by omega))
        | false =>
          rw [pj_cF]
          have ub11 := pj_u_ltF b11
          refine pj_X_of (fun r h => pj_R_icF rfl b11 h) ?_
          refine pj_X_of (fun r h => pj_R_to (G, 38, [(0, .ref 7), (1, .int v1), (2, .int v2), (3, .int v3)], [.ref 7], 0, 0) 38 2 (fun _ => rfl) h) ?_
          refine pj_X_of (fun r h => pj_T_gr hI rfl rfl rfl h) ?_
          refine pj_X_of (fun r h => pj_R_to (G, 42, [(0, .ref 7), (1, .int v1), (2, .int v2), (3, .int v3)], [.int v3, .ref 10], 0, 0) 42 2 (fun _ => rfl) h) ?_
          refine pj_X_of (fun r h => pj_T_il hI rfl rfl (by omega) (by omega) h) ?_
          show pj_X _ _ G 43 [(0, .ref 7), (1, .int v1), (2, .int v2), (3, .int v3)] [.int (pj_ai G 10 v3.toInt.toNat)] _
          refine pj_X_eqi hz9.symm ?_
          refine pj_X_of (fun r h => pj_R_to (G, 44, [(0, .ref 7), (1, .int v1), (2, .int v2), (3, .int v3)], [.ref 7, .int z9], 0, 0) 44 2 (fun _ => rfl) h) ?_
          refine pj_X_of (fun r h => pj_T_gr hI rfl rfl rfl h) ?_
          refine pj_X_of (fun r h => pj_R_to (G, 48, [(0, .ref 7), (1, .int v1), (2, .int v2), (3, .int v3)], [.int v1, .ref 10, .int z9], 0, 0) 48 2 (fun _ => rfl) h) ?_
          refine pj_X_of (fun r h => pj_T_il hI rfl rfl (by omega) (by omega) h) ?_
          show pj_X _ _ G 49 [(0, .ref 7), (1, .int v1), (2, .int v2), (3, .int v3)] [.int (pj_ai G 10 v1.toInt.toNat), .int z9] _
          refine pj_X_eqi hz10.symm ?_
          cases b15 : pj_c1 .ne z9 z10 with
          | true =>
            rw [pj_cT]
            have ub15 := pj_u_neT b15
            refine pj_X_of (fun r h => pj_R_icT 60 rfl rfl b15 h) ?_
            refine pj_X_of (fun r h => pj_R_to (G, 63, [(3, .int (v3 + Int32.ofInt 1)), (0, .ref 7), (1, .int v1), (2, .int v2)], [], 0, 0) 63 2 (fun _ => rfl) h) ?_
            obtain ⟨z16, hz16⟩ : ∃ z : Int32, z = v3 + Int32.ofInt 1 := ⟨_, rfl⟩
            rw [← hz16]
            rw [pj_nm_e]
            have fz16_0 : z16.toInt = v3.toInt + (Int32.ofInt 1).toInt := by rw [hz16]; exact pj_addI (by have := pj_i32 v3; have := pj_i32 (Int32.ofInt 1); omega) (by have := pj_i32 v3; have := pj_i32 (Int32.ofInt 1); omega)
            refine pj_X_of (fun r h => pj_R_to (G, 14, [(3, .int z16), (0, .ref 7), (1, .int v1), (2, .int v2)], [], 0, 0) 14 2 (fun _ => rfl) h) ?_
            have q17 : (pj_fi G 7 1).toInt = y4.toInt := by rw [show pj_fi G 7 1 = y4 from hy4.symm]
            exact pj_X_sub [(0, .ref 7), (1, .int v1), (2, .int v2), (3, .int z16)] (show List.Nodup [0, 1, 2, 3] by decide) ⟨rfl, rfl, rfl, rfl, trivial⟩ (ih.2 G hI hK v1 v2 z16 ⟨by omega, by omega⟩ ⟨by omega, by omega⟩ ⟨by omega, by omega⟩ (by omega) (by omega) (by omega) (by omega))
          | false =>
            rw [pj_cF]
            have ub15 := pj_u_neF b15
            refine pj_X_of (fun r h => pj_R_icF rfl b15 h) ?_
            refine pj_X_of (fun r h => pj_R_to (G, 54, [(0, .ref 7), (1, .int v1), (2, .int v2), (3, .int v3)], [.int v1, .int v3], 0, 0) 54 3 (fun _ => rfl) h) ?_
            cases b18 : pj_c1 .ge v3 v1 with
            | true =>
              rw [pj_cT]
              have ub18 := pj_u_geT b18
              refine pj_X_of (fun r h => pj_R_icT 60 rfl rfl b18 h) ?_
              refine pj_X_of (fun r h => pj_R_to (G, 63, [(3, .int (v3 + Int32.ofInt 1)), (0, .ref 7), (1, .int v1), (2, .int v2)], [], 0, 0) 63 2 (fun _ => rfl) h) ?_
              obtain ⟨z19, hz19⟩ : ∃ z : Int32, z = v3 + Int32.ofInt 1 := ⟨_, rfl⟩
              rw [← hz19]
              rw [pj_nm_e]
              have fz19_0 : z19.toInt = v3.toInt + (Int32.ofInt 1).toInt := by rw [hz19]; exact pj_addI (by have := pj_i32 v3; have := pj_i32 (Int32.ofInt 1); omega) (by have := pj_i32 v3; have := pj_i32 (Int32.ofInt 1); omega)
              refine pj_X_of (fun r h => pj_R_to (G, 14, [(3, .int z19), (0, .ref 7), (1, .int v1), (2, .int v2)], [], 0, 0) 14 2 (fun _ => rfl) h) ?_
              have q20 : (pj_fi G 7 1).toInt = y4.toInt := by rw [show pj_fi G 7 1 = y4 from hy4.symm]
              exact pj_X_sub [(0, .ref 7), (1, .int v1), (2, .int v2), (3, .int z19)] (show List.Nodup [0, 1, 2, 3] by decide) ⟨rfl, rfl, rfl, rfl, trivial⟩ (ih.2 G hI hK v1 v2 z19 ⟨by omega, by omega⟩ ⟨by omega, by omega⟩ ⟨by omega, by omega⟩ (by omega) (by omega) (by omega) (by omega))
            | false =>
              rw [pj_cF]
              have ub18 := pj_u_geF b18
              refine pj_X_of (fun r h => pj_R_icF rfl b18 h) ?_
              refine pj_X_of (fun r h => pj_R_to (G, 60, [(2, .int (v2 + Int32.ofInt 1)), (0, .ref 7), (1, .int v1), (3, .int v3)], [], 0, 0) 60 2 (fun _ => rfl) h) ?_
              obtain ⟨z21, hz21⟩ : ∃ z : Int32, z = v2 + Int32.ofInt 1 := ⟨_, rfl⟩
              rw [← hz21]
              rw [pj_nm_e]
              have fz21_0 : z21.toInt = v2.toInt + (Int32.ofInt 1).toInt := by rw [hz21]; exact pj_addI (by have := pj_i32 v2; have := pj_i32 (Int32.ofInt 1); omega) (by have := pj_i32 v2; have := pj_i32 (Int32.ofInt 1); omega)
              refine pj_X_of (fun r h => pj_R_to (G, 63, [(3, .int (v3 + Int32.ofInt 1)), (2, .int z21), (0, .ref 7), (1, .int v1)], [], 0, 0) 63 2 (fun _ => rfl) h) ?_
              obtain ⟨z22, hz22⟩ : ∃ z : Int32, z = v3 + Int32.ofInt 1 := ⟨_, rfl⟩
              rw [← hz22]
              rw [pj_nm_e]
              have fz22_0 : z22.toInt = v3.toInt + (Int32.ofInt 1).toInt := by rw [hz22]; exact pj_addI (by have := pj_i32 v3; have := pj_i32 (Int32.ofInt 1); omega) (by have := pj_i32 v3; have := pj_i32 (Int32.ofInt 1); omega)
              refine pj_X_of (fun r h => pj_R_to (G, 14, [(3, .int z22), (2, .int z21), (0, .ref 7), (1, .int v1)], [], 0, 0) 14 2 (fun _ => rfl) h) ?_
              have q23 : (pj_fi G 7 1).toInt = y4.toInt := by rw [show pj_fi G 7 1 = y4 from hy4.symm]
              exact pj_X_sub [(0, .ref 7), (1, .int v1), (2, .int z21), (3, .int z22)] (show List.Nodup [0, 1, 2, 3] by decide) ⟨rfl, rfl, rfl, rfl, trivial⟩ (ih.2 G hI hK v1 z21 z22 ⟨by omega, by omega⟩ ⟨by omega, by omega⟩ ⟨by omega, by omega⟩ (by omega) (by omega) (by omega) (by omega))
theorem ct_42_7x (G0 : pj_G) (hI : pj_Inv G0) : pj_Y 1 42 [.ref 7] G0 (fun v' G' => v' = none ∧ pj_Inv G' ∧ pj_kpt kc_42_7x G0 G' ∧ (G' = F_42_7x G0)) := by
  have c0_ : (Int32.ofInt 0).toInt = 0 := by decide
  have c1_ : (Int32.ofInt 1).toInt = 1 := by decide
  refine pj_Y_X (M := pj_m42) rfl rfl (Nat.le_of_ble_eq_true rfl) ?_
  have hK : pj_kpt kc_42_7x G0 G0 := pj_kpt_r _ _
  show pj_X _ _ G0 0 [(0, .ref 7)] [] _
  rw [F_42_7x_e]
  refine pj_X_of (fun r h => pj_R_to (G0, 2, [(1, .int (Int32.ofInt 0)), (0, .ref 7)], [], 0, 0) 2 3 (fun _ => rfl) h) ?_
  exact pj_X_sub [(0, .ref 7), (1, .int (Int32.ofInt 0))] (show List.Nodup [0, 1] by decide) ⟨rfl, rfl, trivial⟩ ((lp_ct_42_7x G0 hI   401).1 G0 hI hK (Int32.ofInt 0) ⟨by omega, by omega⟩ (by omega))
theorem fr_42_7x (G0 : pj_G) (hI : pj_Inv G0) : pj_Inv (F_42_7x G0) ∧ pj_kpt kc_42_7x G0 (F_42_7x G0) := by
  obtain ⟨v, G', -, -, i, j, e⟩ := ct_42_7x G0 hI 
  rw [← e]
  exact ⟨i, j⟩
def kc_42_14x : pj_KT := ([], [19, 20], [19, 20])
noncomputable def L_42_14x (G0 : pj_G) (fu : Nat) : Nat → Int32 → Int32 → Int32 → pj_G → pj_G := Nat.rec (motive := fun _ => Nat → Int32 → Int32 → Int32 → pj_G → pj_G) (fun _ _ _ _ G => G) (fun _ ih lab v1 v2 v3 G => cond (Nat.beq lab 0) (pj_nm (pj_fi G 14 1) (fun y1 => cond (pj_c1 .ge v1 y1) (G) (ih 1 v1 (Int32.ofInt 0) (Int32.ofInt 0) G))) (pj_nm (pj_fi G 14 1) (fun y4 => cond (pj_c1 .ge v3 y4) (pj_nm (pj_wa G 19 v1.toInt.toNat v2) (fun G6 => pj_nm (pj_wa G6 20 v2.toInt.toNat v1) (fun G7 => pj_nm (v1 + Int32.ofInt 1) (fun z8 => ih 0 z8 0 0 G7)))) (pj_nm (pj_ai G 17 v3.toInt.toNat) (fun z9 => pj_nm (pj_ai G 17 v1.toInt.toNat) (fun z10 => cond (pj_c1 .lt z9 z10) (pj_nm (v2 + Int32.ofInt 1) (fun z12 => pj_nm (v3 + Int32.ofInt 1) (fun z13 => ih 1 v1 z12 z13 G))) (cond (pj_c1 .ne z9 z10) (pj_nm (v3 + Int32.ofInt 1) (fun z16 => ih 1 v1 v2 z16 G)) (cond (pj_c1 .ge v3 v1) (pj_nm (v3 + Int32.ofInt 1) (fun z19 => ih 1 v1 v2 z19 G)) (pj_nm (v2 + Int32.ofInt 1) (fun z21 => pj_nm (v3 + Int32.ofInt 1) (fun z22 => ih 1 v1 z21 z22 G))))))))))) fu
theorem L_42_14x_s0 (G0 : pj_G) (fu : Nat) (v1 : Int32) (G : pj_G) : L_42_14x G0 (fu + 1) 0 v1 0 0 G = pj_nm (pj_fi G 14 1) (fun y1 => cond (pj_c1 .ge v1 y1) (G) (L_42_14x G0 fu 1 v1 (Int32.ofInt 0) (Int32.ofInt 0) G)) := rfl
theorem L_42_14x_s1 (G0 : pj_G) (fu : Nat) (v1 : Int32) (v2 : Int32) (v3 : Int32) (G : pj_G) : L_42_14x G0 (fu + 1) 1 v1 v2 v3 G = pj_nm (pj_fi G 14 1) (fun y4 => cond (pj_c1 .ge v3 y4) (pj_nm (pj_wa G 19 v1.toInt.toNat v2) (fun G6 => pj_nm (pj_wa G6 20 v2.toInt.toNat v1) (fun G7 => pj_nm (v1 + Int32.ofInt 1) (fun z8 => L_42_14x G0 fu 0 z8 0 0 G7)))) (pj_nm (pj_ai G 17 v3.toInt.toNat) (fun z9 => pj_nm (pj_ai G 17 v1.toInt.toNat) (fun z10 => cond (pj_c1 .lt z9 z10) (pj_nm (v2 + Int32.ofInt 1) (fun z12 => pj_nm (v3 + Int32.ofInt 1) (fun z13 => L_42_14x G0 fu 1 v1 z12 z13 G))) (cond (pj_c1 .ne z9 z10) (pj_nm (v3 + Int32.ofInt 1) (fun z16 => L_42_14x G0 fu 1 v1 v2 z16 G)) (cond (pj_c1 .ge v3 v1) (pj_nm (v3 + Int32.ofInt 1) (fun z19 => L_42_14x G0 fu 1 v1 v2 z19 G)) (pj_nm (v2 + Int32.ofInt 1) (fun z21 => pj_nm (v3 + Int32.ofInt 1) (fun z22 => L_42_14x G0 fu 1 v1 z21 z22 G))))))))) := rfl
noncomputable def F_42_14x (G0 : pj_G) : pj_G := L_42_14x G0 401 0 (Int32.ofInt 0) 0 0 G0
theorem F_42_14x_e (G0 : pj_G) : F_42_14x G0 = L_42_14x G0 401 0 (Int32.ofInt 0) 0 0 G0 := rfl
theorem lp_ct_42_14x (G0 : pj_G) (hI0 : pj_Inv G0) : ∀ mn : Nat, (∀ (G : pj_G) (hI : pj_Inv G) (hK : pj_kpt kc_42_14x G0 G) (v1 : Int32), ((0 : Int) ≤ v1.toInt ∧ v1.toInt ≤ 10) → 30 * (10 - v1.toInt) < (mn : Int) → pj_X 0 pj_m42 G 2 [(0, .ref 14), (1, .int v1)] [] (fun v' G' => v' = none ∧ pj_Inv G' ∧ pj_kpt kc_42_14x G0 G' ∧ (G' = L_42_14x G0 mn 0 v1 0 0 G))) ∧ (∀ (G : pj_G) (hI : pj_Inv G) (hK : pj_kpt kc_42_14x G0 G) (v1 : Int32) (v2 : Int32) (v3 : Int32), ((0 : Int) ≤ v1.toInt ∧ v1.toInt ≤ 9) → ((0 : Int) ≤ v2.toInt ∧ v2.toInt ≤ 10) → ((0 : Int) ≤ v3.toInt ∧ v3.toInt ≤ 10) → (v2.toInt ≤ v3.toInt) → (v1.toInt < v3.toInt → v2.toInt ≤ v3.toInt - 1) → (v1.toInt < (pj_fi G 14 1).toInt) → 30 * (10 - v1.toInt) - 1 - v3.toInt < (mn : Int) → pj_X 0 pj_m42 G 14 [(0, .ref 14), (1, .int v1), (2, .int v2), (3, .int v3)] [] (fun v' G' => v' = none ∧ pj_Inv G' ∧ pj_kpt kc_42_14x G0 G' ∧ (G' = L_42_14x G0 mn 1 v1 v2 v3 G))) := by
  have c0_ : (Int32.ofInt 0).toInt = 0 := by decide
  have c1_ : (Int32.ofInt 1).toInt = 1 := by decide
  intro mn
  induction mn with
  | zero =>
    refine ⟨?_, ?_⟩
    · intro G hI hK v1 rv1 hm
      exfalso
      omega
    · intro G hI hK v1 v2 v3 rv1 rv2 rv3 x0_ x1_ x2_ hm
      exfalso
      omega
  | succ mn ih =>
    refine ⟨?_, ?_⟩
    · intro G hI hK v1 rv1 hm
      rw [L_42_14x_s0]
      refine pj_X_of (fun r h => pj_R_to (G, 4, [(0, .ref 14), (1, .int v1)], [.ref 14, .int v1], 0, 0) 4 3 (fun _ => rfl) h) ?_
      refine pj_X_of (fun r h => pj_T_gi hI rfl rfl h) ?_
      show pj_X _ _ G 7 [(0, .ref 14), (1, .int v1)] [.int (pj_fi G 14 1), .int v1] _
      obtain ⟨y1, hy1⟩ : ∃ z : Int32, z = pj_fi G 14 1 := ⟨_, rfl⟩
      refine pj_X_eqi hy1.symm ?_
      rw [← hy1, pj_nm_e]
      have ey1 : (pj_fi G 14 1).toInt = y1.toInt := by rw [hy1]
      have ry1 : (0 : Int) ≤ y1.toInt ∧ y1.toInt ≤ 10 := by rw [hy1]; exact hI.2.1 14 1 (0, 10) rfl
      cases b2 : pj_c1 .ge v1 y1 with
      | true =>
        rw [pj_cT]
        have ub2 := pj_u_geT b2
        refine pj_X_of (fun r h => pj_R_icT 86 rfl rfl b2 h) ?_
        exact pj_X_rt rfl rfl ⟨rfl, hI, hK, rfl⟩
      | false =>
        rw [pj_cF]
        have ub2 := pj_u_geF b2
        refine pj_X_of (fun r h => pj_R_icF rfl b2 h) ?_
        refine pj_X_of (fun r h => pj_R_to (G, 14, [(3, .int (Int32.ofInt 0)), (2, .int (Int32.ofInt 0)), (0, .ref 14), (1, .int v1)], [], 0, 0) 14 5 (fun _ => rfl) h) ?_
        have q3 : (pj_fi G 14 1).toInt = y1.toInt := by rw [show pj_fi G 14 1 = y1 from hy1.symm]
        exact pj_X_sub [(0, .ref 14), (1, .int v1), (2, .int (Int32.ofInt 0)), (3, .int (Int32.ofInt 0))] (show List.Nodup [0, 1, 2, 3] by decide) ⟨rfl, rfl, rfl, rfl, trivial⟩ (ih.2 G hI hK v1 (Int32.ofInt 0) (Int32.ofInt 0) ⟨by omega, by omega⟩ ⟨by omega, by omega⟩ ⟨by omega, by omega⟩ (by omega) (by omega) (by omega) (by omega))
    · intro G hI hK v1 v2 v3 rv1 rv2 rv3 x0_ x1_ x2_ hm
      rw [L_42_14x_s1]
      refine pj_X_of (fun r h => pj_R_to (G, 16, [(0, .ref 14), (1, .int v1), (2, .int v2), (3, .int v3)], [.ref 14, .int v3], 0, 0) 16 3 (fun _ => rfl) h) ?_
      refine pj_X_of (fun r h => pj_T_gi hI rfl rfl h) ?_
      show pj_X _ _ G 19 [(0, .ref 14), (1, .int v1), (2, .int v2), (3, .int v3)] [.int (pj_fi G 14 1), .int v3] _
      obtain ⟨y4, hy4⟩ : ∃ z : Int32, z = pj_fi G 14 1 := ⟨_, rfl⟩
      refine pj_X_eqi hy4.symm ?_
      rw [← hy4, pj_nm_e]
      have ey4 : (pj_fi G 14 1).toInt = y4.toInt := by rw [hy4]
      have ry4 : (0 : Int) ≤ y4.toInt ∧ y4.toInt ≤ 10 := by rw [hy4]; exact hI.2.1 14 1 (0, 10) rfl
      cases b5 : pj_c1 .ge v3 y4 with
      | true =>
        rw [pj_cT]
        have ub5 := pj_u_geT b5
        refine pj_X_of (fun r h => pj_R_icT 66 rfl rfl b5 h) ?_
        refine pj_X_of (fun r h => pj_R_to (G, 67, [(0, .ref 14), (1, .int v1), (2, .int v2), (3, .int v3)], [.ref 14], 0, 0) 67 2 (fun _ => rfl) h) ?_
        refine pj_X_of (fun r h => pj_T_gr hI rfl rfl rfl h) ?_
        refine pj_X_of (fun r h => pj_R_to (G, 72, [(0, .ref 14), (1, .int v1), (2, .int v2), (3, .int v3)], [.int v2, .int v1, .ref 19], 0, 0) 72 3 (fun _ => rfl) h) ?_
        refine pj_X_of (fun r h => pj_T_is hI rfl rfl (by omega) (by omega) h) ?_
        show pj_X _ _ (pj_wa G 19 v1.toInt.toNat v2) 73 [(0, .ref 14), (1, .int v1), (2, .int v2), (3, .int v3)] [] _
        obtain ⟨G6, hG6⟩ : ∃ H, H = pj_wa G 19 v1.toInt.toNat v2 := ⟨_, rfl⟩
        have iG6 : pj_Inv G6 := by rw [hG6]; exact pj_Inv_wa hI rfl (fun q hq => by cases hq; exact ⟨by show (0 : Int) ≤ _; omega, by show _ ≤ (9 : Int); omega, by show _ ≤ (0 : Int) ∨ (0 : Int) ≤ _; omega⟩) (fun n hn => by cases hn)
        have kG6 : pj_kpt kc_42_14x G0 G6 := by rw [hG6]; exact pj_kpt_a hK rfl
        rw [← hG6]
        rw [pj_nm_e]
        refine pj_X_of (fun r h => pj_R_to (G6, 74, [(0, .ref 14), (1, .int v1), (2, .int v2), (3, .int v3)], [.ref 14], 0, 0) 74 2 (fun _ => rfl) h) ?_
        refine pj_X_of (fun r h => pj_T_gr iG6 rfl rfl rfl h) ?_
        refine pj_X_of (fun r h => pj_R_to (G6, 79, [(0, .ref 14), (1, .int v1), (2, .int v2), (3, .int v3)], [.int v1, .int v2, .ref 20], 0, 0) 79 3 (fun _ => rfl) h) ?_
        refine pj_X_of (fun r h => pj_T_is iG6 rfl rfl (by omega) (by omega) h) ?_
        show pj_X _ _ (pj_wa G6 20 v2.toInt.toNat v1) 80 [(0, .ref 14), (1, .int v1), (2, .int v2), (3, .int v3)] [] _
        obtain ⟨G7, hG7⟩ : ∃ H, H = pj_wa G6 20 v2.toInt.toNat v1 := ⟨_, rfl⟩
        have iG7 : pj_Inv G7 := by rw [hG7]; exact pj_Inv_wa iG6 rfl (fun q hq => by cases hq; exact ⟨by show (0 : Int) ≤ _; omega, by show _ ≤ (9 : Int); omega, by show _ ≤ (0 : Int) ∨ (0 : Int) ≤ _; omega⟩) (fun n hn => by cases hn)
        have kG7 : pj_kpt kc_42_14x G0 G7 := by rw [hG7]; exact pj_kpt_a kG6 rfl
        rw [← hG7]
        rw [pj_nm_e]
        refine pj_X_of (fun r h => pj_R_to (G7, 83, [(1, .int (v1 + Int32.ofInt 1)), (0, .ref 14), (2, .int v2), (3, .int v3)], [], 0, 0) 83 2 (fun _ => rfl) h) ?_
        obtain ⟨z8, hz8⟩ : ∃ z : Int32, z = v1 + Int32.ofInt 1 := ⟨_, rfl⟩
        rw [← hz8]
        rw [pj_nm_e]
        have fz8_0 : z8.toInt = v1.toInt + (Int32.ofInt 1).toInt := by rw [hz8]; exact pj_addI (by have := pj_i32 v1; have := pj_i32 (Int32.ofInt 1); omega) (by have := pj_i32 v1; have := pj_i32 (Int32.ofInt 1); omega)
        refine pj_X_of (fun r h => pj_R_to (G7, 2, [(1, .int z8), (0, .ref 14), (2, .int v2), (3, .int v3)], [], 0, 0) 2 2 (fun _ => rfl) h) ?_
        exact pj_X_sub [(0, .ref 14), (1, .int z8)] (show List.Nodup [0, 1] by decide) ⟨rfl, rfl, trivial⟩ (ih.1 G7 iG7 kG7 z8 ⟨by omega, by omega⟩ (by omega))
      | false =>
        rw [pj_cF]
        have ub5 := pj_u_geF b5
        refine pj_X_of (fun r h => pj_R_icF rfl b5 h) ?_
        refine pj_X_of (fun r h => pj_R_to (G, 23, [(0, .ref 14), (1, .int v1), (2, .int v2), (3, .int v3)], [.ref 14], 0, 0) 23 2 (fun _ => rfl) h) ?_
        refine pj_X_of (fun r h => pj_T_gr hI rfl rfl rfl h) ?_
        refine pj_X_of (fun r h => pj_R_to (G, 27, [(0, .ref 14), (1, .int v1), (2, .int v2), (3, .int v3)], [.int v3, .ref 17], 0, 0) 27 2 (fun _ => rfl) h) ?_
        refine pj_X_of (fun r h => pj_T_il hI rfl rfl (by omega) (by omega) h) ?_
        show pj_X _ _ G 28 [(0, .ref 14), (1, .int v1), (2, .int v2), (3, .int v3)] [.int (pj_ai G 17 v3.toInt.toNat)] _
        obtain ⟨z9, hz9⟩ : ∃ z : Int32, z = pj_ai G 17 v3.toInt.toNat := ⟨_, rfl⟩
        refine pj_X_eqi hz9.symm ?_
        rw [← hz9, pj_nm_e]
        have ez9 : (pj_ai G 17 v3.toInt.toNat).toInt = z9.toInt := by rw [hz9]
        refine pj_X_of (fun r h => pj_R_to (G, 29, [(0, .ref 14), (1, .int v1), (2, .int v2), (3, .int v3)], [.ref 14, .int z9], 0, 0) 29 2 (fun _ => rfl) h) ?_
        refine pj_X_of (fun r h => pj_T_gr hI rfl rfl rfl h) ?_
        refine pj_X_of (fun r h => pj_R_to (G, 33, [(0, .ref 14), (1, .int v1), (2, .int v2), (3, .int v3)], [.int v1, .ref 17, .int z9], 0, 0) 33 2 (fun _ => rfl) h) ?_
        refine pj_X_of (fun r h => pj_T_il hI rfl rfl (by omega) (by omega) h) ?_
        show pj_X _ _ G 34 [(0, .ref 14), (1, .int v1), (2, .int v2), (3, .int v3)] [.int (pj_ai G 17 v1.toInt.toNat), .int z9] _
        obtain ⟨z10, hz10⟩ : ∃ z : Int32, z = pj_ai G 17 v1.toInt.toNat := ⟨_, rfl⟩
        refine pj_X_eqi hz10.symm ?_
        rw [← hz10, pj_nm_e]
        have ez10 : (pj_ai G 17 v1.toInt.toNat).toInt = z10.toInt := by rw [hz10]
        have xz10_z9 : v1.toInt = v3.toInt → z10.toInt = z9.toInt := by intro e; rw [hz10, hz9, show v1.toInt.toNat = v3.toInt.toNat by rw [e]]
        cases b11 : pj_c1 .lt z9 z10 with
        | true =>
          rw [pj_cT]
          have ub11 := pj_u_ltT b11
          refine pj_X_of (fun r h => pj_R_icT 57 rfl rfl b11 h) ?_
          refine pj_X_of (fun r h => pj_R_to (G, 60, [(2, .int (v2 + Int32.ofInt 1)), (0, .ref 14), (1, .int v1), (3, .int v3)], [], 0, 0) 60 2 (fun _ => rfl) h) ?_
          obtain ⟨z12, hz12⟩ : ∃ z : Int32, z = v2 + Int32.ofInt 1 := ⟨_, rfl⟩
          rw [← hz12]
          rw [pj_nm_e]
          have fz12_0 : z12.toInt = v2.toInt + (Int32.ofInt 1).toInt := by rw [hz12]; exact pj_addI (by have := pj_i32 v2; have := pj_i32 (Int32.ofInt 1); omega) (by have := pj_i32 v2; have := pj_i32 (Int32.ofInt 1); omega)
          refine pj_X_of (fun r h => pj_R_to (G, 63, [(3, .int (v3 + Int32.ofInt 1)), (2, .int z12), (0, .ref 14), (1, .int v1)], [], 0, 0) 63 2 (fun _ => rfl) h) ?_
          obtain ⟨z13, hz13⟩ : ∃ z : Int32, z = v3 + Int32.ofInt 1 := ⟨_, rfl⟩
          rw [← hz13]
          rw [pj_nm_e]
          have fz13_0 : z13.toInt = v3.toInt + (Int32.ofInt 1).toInt := by rw [hz13]; exact pj_addI (by have := pj_i32 v3; have := pj_i32 (Int32.ofInt 1); omega) (by have := pj_i32 v3; have := pj_i32 (Int32.ofInt 1); omega)
          refine pj_X_of (fun r h => pj_R_to (G, 14, [(3, .int z13), (2, .int z12), (0, .ref 14), (1, .int v1)], [], 0, 0) 14 2 (fun _ => rfl) h) ?_
          have q14 : (pj_fi G 14 1).toInt = y4.toInt := by rw [show pj_fi G 14 1 = y4 from hy4.symm]
          exact pj_X_sub [(0, .ref 14), (1, .int v1), (2, .int z12), (3, .int z13)] (show List.Nodup [0, 1, 2, 3] by decide) ⟨rfl, rfl, rfl, rfl, trivial⟩ (ih.2 G hI hK v1 z12 z13 ⟨by omega, by omega⟩ ⟨by omega, by omega⟩ ⟨by omega, by omega⟩ (by omega) (by omega) (by omega) (by omega))
        | false =>
          rw [pj_cF]
          have ub11 := pj_u_ltF b11
          refine pj_X_of (fun r h => pj_R_icF rfl b11 h) ?_
          refine pj_X_of (fun r h => pj_R_to (G, 38, [(0, .ref 14), (1, .int v1), (2, .int v2), (3, .int v3)], [.ref 14], 0, 0) 38 2 (fun _ => rfl) h) ?_
          refine pj_X_of (fun r h => pj_T_gr hI rfl rfl rfl h) ?_
          refine pj_X_of (fun r h => pj_R_to (G, 42, [(0, .ref 14), (1, .int v1), (2, .int v2), (3, .int v3)], [.int v3, .ref 17], 0, 0) 42 2 (fun _ => rfl) h) ?_
          refine pj_X_of (fun r h => pj_T_il hI rfl rfl (by omega) (by omega) h) ?_
          show pj_X _ _ G 43 [(0, .ref 14), (1, .int v1), (2, .int v2), (3, .int v3)] [.int (pj_ai G 17 v3.toInt.toNat)] _
          refine pj_X_eqi hz9.symm ?_
          refine pj_X_of (fun r h => pj_R_to (G, 44, [(0, .ref 14), (1, .int v1), (2, .int v2), (3, .int v3)], [.ref 14, .int z9], 0, 0) 44 2 (fun _ => rfl) h) ?_
          refine pj_X_of (fun r h => pj_T_gr hI rfl rfl rfl h) ?_
          refine pj_X_of (fun r h => pj_R_to (G, 48, [(0, .ref 14), (1, .int v1), (2, .int v2), (3, .int v3)], [.int v1, .ref 17, .int z9], 0, 0) 48 2 (fun _ => rfl) h) ?_
          refine pj_X_of (fun r h => pj_T_il hI rfl rfl (by omega) (by omega) h) ?_
          show pj_X _ _ G 49 [(0, .ref 14), (1, .int v1), (2, .int v2), (3, .int v3)] [.int (pj_ai G 17 v1.toInt.toNat), .int z9] _
          refine pj_X_eqi hz10.symm ?_
          cases b15 : pj_c1 .ne z9 z10 with
          | true =>
            rw [pj_cT]
            have ub15 := pj_u_neT b15
            refine pj_X_of (fun r h => pj_R_icT 60 rfl rfl b15 h) ?_
            refine pj_X_of (fun r h => pj_R_to (G, 63, [(3, .int (v3 + Int32.ofInt 1)), (0, .ref 14), (1, .int v1), (2, .int v2)], [], 0, 0) 63 2 (fun _ => rfl) h) ?_
            obtain ⟨z16, hz16⟩ : ∃ z : Int32, z = v3 + Int32.ofInt 1 := ⟨_, rfl⟩
            rw [← hz16]
            rw [pj_nm_e]
            have fz16_0 : z16.toInt = v3.toInt + (Int32.ofInt 1).toInt := by rw [hz16]; exact pj_addI (by have := pj_i32 v3; have := pj_i32 (Int32.ofInt 1); omega) (by have := pj_i32 v3; have := pj_i32 (Int32.ofInt 1); omega)
            refine pj_X_of (fun r h => pj_R_to (G, 14, [(3, .int z16), (0, .ref 14), (1, .int v1), (2, .int v2)], [], 0, 0) 14 2 (fun _ => rfl) h) ?_
            have q17 : (pj_fi G 14 1).toInt = y4.toInt := by rw [show pj_fi G 14 1 = y4 from hy4.symm]
            exact pj_X_sub [(0, .ref 14), (1, .int v1), (2, .int v2), (3, .int z16)] (show List.Nodup [0, 1, 2, 3] by decide) ⟨rfl, rfl, rfl, rfl, trivial⟩ (ih.2 G hI hK v1 v2 z16 ⟨by omega, by omega⟩ ⟨by omega, by omega⟩ ⟨by omega, by omega⟩ (by omega) (by omega) (by omega) (by omega))
          | false =>
            rw [pj_cF]
            have ub15 := pj_u_neF b15
            refine pj_X_of (fun r h => pj_R_icF rfl b15 h) ?_
            refine pj_X_of (fun r h => pj_R_to (G, 54, [(0, .ref 14), (1, .int v1), (2, .int v2), (3, .int v3)], [.int v1, .int v3], 0, 0) 54 3 (fun _ => rfl) h) ?_
            cases b18 : pj_c1 .ge v3 v1 with
            | true =>
              rw [pj_cT]
              have ub18 := pj_u_geT b18
              refine pj_X_of (fun r h => pj_R_icT 60 rfl rfl b18 h) ?_
              refine pj_X_of (fun r h => pj_R_to (G, 63, [(3, .int (v3 + Int32.ofInt 1)), (0, .ref 14), (1, .int v1), (2, .int v2)], [], 0, 0) 63 2 (fun _ => rfl) h) ?_
              obtain ⟨z19, hz19⟩ : ∃ z : Int32, z = v3 + Int32.ofInt 1 := ⟨_, rfl⟩
              rw [← hz19]
              rw [pj_nm_e]
              have fz19_0 : z19.toInt = v3.toInt + (Int32.ofInt 1).toInt := by rw [hz19]; exact pj_addI (by have := pj_i32 v3; have := pj_i32 (Int32.ofInt 1); omega) (by have := pj_i32 v3; have := pj_i32 (Int32.ofInt 1); omega)
              refine pj_X_of (fun r h => pj_R_to (G, 14, [(3, .int z19), (0, .ref 14), (1, .int v1), (2, .int v2)], [], 0, 0) 14 2 (fun _ => rfl) h) ?_
              have q20 : (pj_fi G 14 1).toInt = y4.toInt := by rw [show pj_fi G 14 1 = y4 from hy4.symm]
              exact pj_X_sub [(0, .ref 14), (1, .int v1), (2, .int v2), (3, .int z19)] (show List.Nodup [0, 1, 2, 3] by decide) ⟨rfl, rfl, rfl, rfl, trivial⟩ (ih.2 G hI hK v1 v2 z19 ⟨by omega, by omega⟩ ⟨by omega, by omega⟩ ⟨by omega, by omega⟩ (by omega) (by omega) (by omega) (by omega))
            | false =>
              rw [pj_cF]
              have ub18 := pj_u_geF b18
              refine pj_X_of (fun r h => pj_R_icF rfl b18 h) ?_
              refine pj_X_of (fun r h => pj_R_to (G, 60, [(2, .int (v2 + Int32.ofInt 1)), (0, .ref 14), (1, .int v1), (3, .int v3)], [], 0, 0) 60 2 (fun _ => rfl) h) ?_
              obtain ⟨z21, hz21⟩ : ∃ z : Int32, z = v2 + Int32.ofInt 1 := ⟨_, rfl⟩
              rw [← hz21]
              rw [pj_nm_e]
              have fz21_0 : z21.toInt = v2.toInt + (Int32.ofInt 1).toInt := by rw [hz21]; exact pj_addI (by have := pj_i32 v2; have := pj_i32 (Int32.ofInt 1); omega) (by have := pj_i32 v2; have := pj_i32 (Int32.ofInt 1); omega)
              refine pj_X_of (fun r h => pj_R_to (G, 63, [(3, .int (v3 + Int32.ofInt 1)), (2, .int z21), (0, .ref 14), (1, .int v1)], [], 0, 0) 63 2 (fun _ => rfl) h) ?_
              obtain ⟨z22, hz22⟩ : ∃ z : Int32, z = v3 + Int32.ofInt 1 := ⟨_, rfl⟩
              rw [← hz22]
              rw [pj_nm_e]
              have fz22_0 : z22.toInt = v3.toInt + (Int32.ofInt 1).toInt := by rw [hz22]; exact pj_addI (by have := pj_i32 v3; have := pj_i32 (Int32.ofInt 1); omega) (by have := pj_i32 v3; have := pj_i32 (Int32.ofInt 1); omega)
              refine pj_X_of (fun r h => pj_R_to (G, 14, [(3, .int z22), (2, .int z21), (0, .ref 14), (1, .int v1)], [], 0, 0) 14 2 (fun _ => rfl) h) ?_
              have q23 : (pj_fi G 14 1).toInt = y4.toInt := by rw [show pj_fi G 14 1 = y4 from hy4.symm]
              exact pj_X_sub [(0, .ref 14), (1, .int v1), (2, .int z21), (3, .int z22)] (show List.Nodup [0, 1, 2, 3] by decide) ⟨rfl, rfl, rfl, rfl, trivial⟩ (ih.2 G hI hK v1 z21 z22 ⟨by omega, by omega⟩ ⟨by omega, by omega⟩ ⟨by omega, by omega⟩ (by omega) (by omega) (by omega) (by omega))
theorem ct_42_14x (G0 : pj_G) (hI : pj_Inv G0) : pj_Y 1 42 [.ref 14] G0 (fun v' G' => v' = none ∧ pj_Inv G' ∧ pj_kpt kc_42_14x G0 G' ∧ (G' = F_42_14x G0)) := by
  have c0_ : (Int32.ofInt 0).toInt = 0 := by decide
  have c1_ : (Int32.ofInt 1).toInt = 1 := by decide
  refine pj_Y_X (M := pj_m42) rfl rfl (Nat.le_of_ble_eq_true rfl) ?_
  have hK : pj_kpt kc_42_14x G0 G0 := pj_kpt_r _ _
  show pj_X _ _ G0 0 [(0, .ref 14)] [] _
  rw [F_42_14x_e]
  refine pj_X_of (fun r h => pj_R_to (G0, 2, [(1, .int (Int32.ofInt 0)), (0, .ref 14)], [], 0, 0) 2 3 (fun _ => rfl) h) ?_
  exact pj_X_sub [(0, .ref 14), (1, .int (Int32.ofInt 0))] (show List.Nodup [0, 1] by decide) ⟨rfl, rfl, trivial⟩ ((lp_ct_42_14x G0 hI   401).1 G0 hI hK (Int32.ofInt 0) ⟨by omega, by omega⟩ (by omega))
theorem fr_42_14x (G0 : pj_G) (hI : pj_Inv G0) : pj_Inv (F_42_14x G0) ∧ pj_kpt kc_42_14x G0 (F_42_14x G0) := by
  obtain ⟨v, G', -, -, i, j, e⟩ := ct_42_14x G0 hI 
  rw [← e]
  exact ⟨i, j⟩
def kc_90x : pj_KT := ([(6, 0), (6, 1), (21, 0), (21, 5), (21, 7)], [6, 12, 13, 19, 20, 21], [12, 13, 19, 20])
noncomputable def F_90x (G0 : pj_G) : pj_G := cond (pj_rb G0 6 0 7) (cond (pj_rb G0 6 1 7) (pj_nm (pj_wv G0 6 0 (.ref 7)) (fun G3 => pj_nm (pj_wv G3 6 1 (.ref 7)) (fun G4 => cond (pj_rb G4 6 0 7) (pj_nm (F_42_7x G4) (fun G7 => pj_nm (pj_wv G7 21 0 (.int (Int32.ofInt 0))) (fun G8 => pj_nm (pj_wv G8 21 5 (.int (Int32.ofInt 0))) (fun G9 => pj_nm (pj_wv G9 21 7 (.int (Int32.ofInt 0))) (fun G10 => G10))))) (pj_nm (F_42_14x G4) (fun G12 => pj_nm (pj_wv G12 21 0 (.int (Int32.ofInt 0))) (fun G13 => pj_nm (pj_wv G13 21 5 (.int (Int32.ofInt 0))) (fun G14 => pj_nm (pj_wv G14 21 7 (.int (Int32.ofInt 0))) (fun G15 => G15)))))))) (pj_nm (pj_wv G0 6 0 (.ref 14)) (fun G16 => pj_nm (pj_wv G16 6 1 (.ref 7)) (fun G17 => cond (pj_rb G17 6 0 7) (pj_nm (F_42_7x G17) (fun G20 => pj_nm (pj_wv G20 21 0 (.int (Int32.ofInt 0))) (fun G21 => pj_nm (pj_wv G21 21 5 (.int (Int32.ofInt 0))) (fun G22 => pj_nm (pj_wv G22 21 7 (.int (Int32.ofInt 0))) (fun G23 => G23))))) (pj_nm (F_42_14x G17) (fun G25 => pj_nm (pj_wv G25 21 0 (.int (Int32.ofInt 0))) (fun G26 => pj_nm (pj_wv G26 21 5 (.int (Int32.ofInt 0))) (fun G27 => pj_nm (pj_wv G27 21 7 (.int (Int32.ofInt 0))) (fun G28 => G28))))))))) (cond (pj_rb G0 6 1 7) (pj_nm (pj_wv G0 6 0 (.ref 7)) (fun G30 => pj_nm (pj_wv G30 6 1 (.ref 14)) (fun G31 => cond (pj_rb G31 6 0 7) (pj_nm (F_42_7x G31) (fun G34 => pj_nm (pj_wv G34 21 0 (.int (Int32.ofInt 0))) (fun G35 => pj_nm (pj_wv G35 21 5 (.int (Int32.ofInt 0))) (fun G36 => pj_nm (pj_wv G36 21 7 (.int (Int32.ofInt 0))) (fun G37 => G37))))) (pj_nm (F_42_14x G31) (fun G39 => pj_nm (pj_wv G39 21 0 (.int (Int32.ofInt 0))) (fun G40 => pj_nm (pj_wv G40 21 5 (.int (Int32.ofInt 0))) (fun G41 => pj_nm (pj_wv G41 21 7 (.int (Int32.ofInt 0))) (fun G42 => G42)))))))) (pj_nm (pj_wv G0 6 0 (.ref 14)) (fun G43 => pj_nm (pj_wv G43 6 1 (.ref 14)) (fun G44 => cond (pj_rb G44 6 0 7) (pj_nm (F_42_7x G44) (fun G47 => pj_nm (pj_wv G47 21 0 (.int (Int32.ofInt 0))) (fun G48 => pj_nm (pj_wv G48 21 5 (.int (Int32.ofInt 0))) (fun G49 => pj_nm (pj_wv G49 21 7 (.int (Int32.ofInt 0))) (fun G50 => G50))))) (pj_nm (F_42_14x G44) (fun G52 => pj_nm (pj_wv G52 21 0 (.int (Int32.ofInt 0))) (fun G53 => pj_nm (pj_wv G53 21 5 (.int (Int32.ofInt 0))) (fun G54 => pj_nm (pj_wv G54 21 7 (.int (Int32.ofInt 0))) (fun G55 => G55)))))))))
theorem F_90x_e (G0 : pj_G) : F_90x G0 = cond (pj_rb G0 6 0 7) (cond (pj_rb G0 6 1 7) (pj_nm (pj_wv G0 6 0 (.ref 7)) (fun G3 => pj_nm (pj_wv G3 6 1 (.ref 7)) (fun G4 => cond (pj_rb G4 6 0 7) (pj_nm (F_42_7x G4) (fun G7 => pj_nm (pj_wv G7 21 0 (.int (Int32.ofInt 0))) (fun G8 => pj_nm (pj_wv G8 21 5 (.int (Int32.ofInt 0))) (fun G9 => pj_nm (pj_wv G9 21 7 (.int (Int32.ofInt 0))) (fun G10 => G10))))) (pj_nm (F_42_14x G4) (fun G12 => pj_nm (pj_wv G12 21 0 (.int (Int32.ofInt 0))) (fun G13 => pj_nm (pj_wv G13 21 5 (.int (Int32.ofInt 0))) (fun G14 => pj_nm (pj_wv G14 21 7 (.int (Int32.ofInt 0))) (fun G15 => G15)))))))) (pj_nm (pj_wv G0 6 0 (.ref 14)) (fun G16 => pj_nm (pj_wv G16 6 1 (.ref 7)) (fun G17 => cond (pj_rb G17 6 0 7) (pj_nm (F_42_7x G17) (fun G20 => pj_nm (pj_wv G20 21 0 (.int (Int32.ofInt 0))) (fun G21 => pj_nm (pj_wv G21 21 5 (.int (Int32.ofInt 0))) (fun G22 => pj_nm (pj_wv G22 21 7 (.int (Int32.ofInt 0))) (fun G23 => G23))))) (pj_nm (F_42_14x G17) (fun G25 => pj_nm (pj_wv G25 21 0 (.int (Int32.ofInt 0))) (fun G26 => pj_nm (pj_wv G26 21 5 (.int (Int32.ofInt 0))) (fun G27 => pj_nm (pj_wv G27 21 7 (.int (Int32.ofInt 0))) (fun G28 => G28))))))))) (cond (pj_rb G0 6 1 7) (pj_nm (pj_wv G0 6 0 (.ref 7)) (fun G30 => pj_nm (pj_wv G30 6 1 (.ref 14)) (fun G31 => cond (pj_rb G31 6 0 7) (pj_nm (F_42_7x G31) (fun G34 => pj_nm (pj_wv G34 21 0 (.int (Int32.ofInt 0))) (fun G35 => pj_nm (pj_wv G35 21 5 (.int (Int32.ofInt 0))) (fun G36 => pj_nm (pj_wv G36 21 7 (.int (Int32.ofInt 0))) (fun G37 => G37))))) (pj_nm (F_42_14x G31) (fun G39 => pj_nm (pj_wv G39 21 0 (.int (Int32.ofInt 0))) (fun G40 => pj_nm (pj_wv G40 21 5 (.int (Int32.ofInt 0))) (fun G41 => pj_nm (pj_wv G41 21 7 (.int (Int32.ofInt 0))) (fun G42 => G42)))))))) (pj_nm (pj_wv G0 6 0 (.ref 14)) (fun G43 => pj_nm (pj_wv G43 6 1 (.ref 14)) (fun G44 => cond (pj_rb G44 6 0 7) (pj_nm (F_42_7x G44) (fun G47 => pj_nm (pj_wv G47 21 0 (.int (Int32.ofInt 0))) (fun G48 => pj_nm (pj_wv G48 21 5 (.int (Int32.ofInt 0))) (fun G49 => pj_nm (pj_wv G49 21 7 (.int (Int32.ofInt 0))) (fun G50 => G50))))) (pj_nm (F_42_14x G44) (fun G52 => pj_nm (pj_wv G52 21 0 (.int (Int32.ofInt 0))) (fun G53 => pj_nm (pj_wv G53 21 5 (.int (Int32.ofInt 0))) (fun G54 => pj_nm (pj_wv G54 21 7 (.int (Int32.ofInt 0))) (fun G55 => G55))))))))) := rfl
theorem ct_90x (G0 : pj_G) (hI : pj_Inv G0) : pj_Y 2 90 [.ref 6] G0 (fun v' G' => v' = none ∧ pj_Inv G' ∧ pj_kpt kc_90x G0 G' ∧ (G' = F_90x G0)) := by
  have c0_ : (Int32.ofInt 0).toInt = 0 := by decide
  refine pj_Y_X (M := pj_m90) rfl rfl (Nat.le_of_ble_eq_true rfl) ?_
  have hK : pj_kpt kc_90x G0 G0 := pj_kpt_r _ _
  show pj_X _ _ G0 0 [(0, .ref 6)] [] _
  rw [F_90x_e]
  refine pj_X_of (fun r h => pj_R_to (G0, 1, [(0, .ref 6)], [.ref 6], 0, 0) 1 2 (fun _ => rfl) h) ?_
  refine pj_X_gm hI rfl rfl (fun q1 => ?_) (fun q1 => ?_)
  · rw [show pj_rb G0 6 0 7 = true from pj_rb_t q1, pj_cT]
    refine pj_X_of (fun r h => pj_R_to (G0, 7, [(1, .ref 7), (0, .ref 6)], [.ref 6, .ref 6], 0, 0) 7 4 (fun _ => rfl) h) ?_
    refine pj_X_gm hI rfl rfl (fun q2 => ?_) (fun q2 => ?_)
    · rw [show pj_rb G0 6 1 7 = true from pj_rb_t q2, pj_cT]
      refine pj_X_of (fun r h => pj_T_pf hI rfl rfl rfl h) ?_
      show pj_X _ _ (pj_wv G0 6 0 (.ref 7)) 13 [(1, .ref 7), (0, .ref 6)] [] _
      obtain ⟨G3, hG3⟩ : ∃ H, H = pj_wv G0 6 0 (.ref 7) := ⟨_, rfl⟩
      have iG3 : pj_Inv G3 := by rw [hG3]; exact pj_Inv_wv hI (ci := 10) rfl rfl rfl
      have kG3 : pj_kpt kc_90x G0 G3 := by rw [hG3]; exact pj_kpt_v hK rfl
      rw [← hG3]
      rw [pj_nm_e]
      refine pj_X_of (fun r h => pj_R_to (G3, 15, [(1, .ref 7), (0, .ref 6)], [.ref 7, .ref 6], 0, 0) 15 3 (fun _ => rfl) h) ?_
      refine pj_X_of (fun r h => pj_T_pf iG3 rfl rfl rfl h) ?_
      show pj_X _ _ (pj_wv G3 6 1 (.ref 7)) 18 [(1, .ref 7), (0, .ref 6)] [] _
      obtain ⟨G4, hG4⟩ : ∃ H, H = pj_wv G3 6 1 (.ref 7) := ⟨_, rfl⟩
      have iG4 : pj_Inv G4 := by rw [hG4]; exact pj_Inv_wv iG3 (ci := 10) rfl rfl rfl
      have kG4 : pj_kpt kc_90x G0 G4 := by rw [hG4]; exact pj_kpt_v kG3 rfl
      rw [← hG4]
      rw [pj_nm_e]
      refine pj_X_of (fun r h => pj_R_to (G4, 19, [(1, .ref 7), (0, .ref 6)], [.ref 6], 0, 0) 19 2 (fun _ => rfl) h) ?_
      refine pj_X_gm iG4 rfl rfl (fun q5 => ?_) (fun q5 => ?_)
      · rw [show pj_rb G4 6 0 7 = true from pj_rb_t q5, pj_cT]
        refine pj_X_ca (vs := [.ref 7]) rfl (fun _ => rfl) ⟨Nat.le_of_ble_eq_true rfl, Nat.le_of_ble_eq_true rfl, pj_T_rcv iG4 rfl⟩ ⟨rfl, rfl⟩ (pj_Y_up (by decide) (ct_42_7x G4 iG4)) ?_
        rintro _ G7 ⟨rfl, iG7, jG7, fy6⟩
        rw [← fy6, pj_nm_e]
        have kG7 : pj_kpt kc_90x G0 G7 := pj_kpt_t kG4 (pj_kpt_s jG7 rfl)
        show pj_X _ _ G7 25 [(1, .ref 7), (0, .ref 6)] [] _
        refine pj_X_of (fun r h => pj_R_to (G7, 26, [(1, .ref 7), (0, .ref 6)], [.ref 6], 0, 0) 26 2 (fun _ => rfl) h) ?_
        refine pj_X_of (fun r h => pj_T_gr iG7 rfl rfl rfl h) ?_
        refine pj_X_of (fun r h => pj_R_to (G7, 30, [(1, .ref 7), (0, .ref 6)], [.int (Int32.ofInt 0), .ref 21], 0, 0) 30 2 (fun _ => rfl) h) ?_
        refine pj_X_of (fun r h => pj_T_pf iG7 rfl rfl rfl h) ?_
        show pj_X _ _ (pj_wv G7 21 0 (.int (Int32.ofInt 0))) 33 [(1, .ref 7), (0, .ref 6)] [] _
        obtain ⟨G8, hG8⟩ : ∃ H, H = pj_wv G7 21 0 (.int (Int32.ofInt 0)) := ⟨_, rfl⟩
        have iG8 : pj_Inv G8 := by rw [hG8]; exact pj_Inv_wi iG7 (ci := 8) rfl (fun q hq => by cases hq; exact ⟨by show (0 : Int) ≤ _; omega, by show _ ≤ (6 : Int); omega⟩)
        have kG8 : pj_kpt kc_90x G0 G8 := by rw [hG8]; exact pj_kpt_v kG7 rfl
        rw [← hG8]
        rw [pj_nm_e]
        refine pj_X_of (fun r h => pj_R_to (G8, 34, [(1, .ref 7), (0, .ref 6)], [.ref 6], 0, 0) 34 2 (fun _ => rfl) h) ?_
        refine pj_X_of (fun r h => pj_T_gr iG8 rfl rfl rfl h) ?_
        refine pj_X_of (fun r h => pj_R_to (G8, 38, [(1, .ref 7), (0, .ref 6)], [.int (Int32.ofInt 0), .ref 21], 0, 0) 38 2 (fun _ => rfl) h) ?_
        refine pj_X_of (fun r h => pj_T_pf iG8 rfl rfl rfl h) ?_
        show pj_X _ _ (pj_wv G8 21 5 (.int (Int32.ofInt 0))) 41 [(1, .ref 7), (0, .ref 6)] [] _
        obtain ⟨G9, hG9⟩ : ∃ H, H = pj_wv G8 21 5 (.int (Int32.ofInt 0)) := ⟨_, rfl⟩
        have iG9 : pj_Inv G9 := by rw [hG9]; exact pj_Inv_wi iG8 (ci := 8) rfl (fun q hq => by cases hq; exact ⟨by show (0 : Int) ≤ _; omega, by show _ ≤ (6 : Int); omega⟩)
        have kG9 : pj_kpt kc_90x G0 G9 := by rw [hG9]; exact pj_kpt_v kG8 rfl
        rw [← hG9]
        rw [pj_nm_e]
        refine pj_X_of (fun r h => pj_R_to (G9, 42, [(1, .ref 7), (0, .ref 6)], [.ref 6], 0, 0) 42 2 (fun _ => rfl) h) ?_
        refine pj_X_of (fun r h => pj_T_gr iG9 rfl rfl rfl h) ?_
        refine pj_X_of (fun r h => pj_R_to (G9, 46, [(1, .ref 7), (0, .ref 6)], [.int (Int32.ofInt 0), .ref 21], 0, 0) 46 2 (fun _ => rfl) h) ?_
        refine pj_X_of (fun r h => pj_T_pf iG9 rfl rfl rfl h) ?_
        show pj_X _ _ (pj_wv G9 21 7 (.int (Int32.ofInt 0))) 49 [(1, .ref 7), (0, .ref 6)] [] _
        obtain ⟨G10, hG10⟩ : ∃ H, H = pj_wv G9 21 7 (.int (Int32.ofInt 0)) := ⟨_, rfl⟩
        have iG10 : pj_Inv G10 := by rw [hG10]; exact pj_Inv_wi iG9 (ci := 8) rfl (fun q hq => by cases hq)
        have kG10 : pj_kpt kc_90x G0 G10 := by rw [hG10]; exact pj_kpt_v kG9 rfl
        rw [← hG10]
        rw [pj_nm_e]
        exact pj_X_rt rfl rfl ⟨rfl, iG10, kG10, rfl⟩
      · rw [show pj_rb G4 6 0 7 = false from pj_rb_f q5 rfl, pj_cF]
        refine pj_X_ca (vs := [.ref 14]) rfl (fun _ => rfl) ⟨Nat.le_of_ble_eq_true rfl, Nat.le_of_ble_eq_true rfl, pj_T_rcv iG4 rfl⟩ ⟨rfl, rfl⟩ (pj_Y_up (by decide) (ct_42_14x G4 iG4)) ?_
        rintro _ G12 ⟨rfl, iG12, jG12, fy11⟩
        rw [← fy11, pj_nm_e]
        have kG12 : pj_kpt kc_90x G0 G12 := pj_kpt_t kG4 (pj_kpt_s jG12 rfl)
        show pj_X _ _ G12 25 [(1, .ref 7), (0, .ref 6)] [] _
        refine pj_X_of (fun r h => pj_R_to (G12, 26, [(1, .ref 7), (0, .ref 6)], [.ref 6], 0, 0) 26 2 (fun _ => rfl) h) ?_
        refine pj_X_of (fun r h => pj_T_gr iG12 rfl rfl rfl h) ?_
        refine pj_X_of (fun r h => pj_R_to (G12, 30, [(1, .ref 7), (0, .ref 6)], [.int (Int32.ofInt 0), .ref 21], 0, 0) 30 2 (fun _ => rfl) h) ?_
        refine pj_X_of (fun r h => pj_T_pf iG12 rfl rfl rfl h) ?_
        show pj_X _ _ (pj_wv G12 21 0 (.int (Int32.ofInt 0))) 33 [(1, .ref 7), (0, .ref 6)] [] _
        obtain ⟨G13, hG13⟩ : ∃ H, H = pj_wv G12 21 0 (.int (Int32.ofInt 0)) := ⟨_, rfl⟩
        have iG13 : pj_Inv G13 := by rw [hG13]; exact pj_Inv_wi iG12 (ci := 8) rfl (fun q hq => by cases hq; exact ⟨by show (0 : Int) ≤ _; omega, by show _ ≤ (6 : Int); omega⟩)
        have kG13 : pj_kpt kc_90x G0 G13 := by rw [hG13]; exact pj_kpt_v kG12 rfl
        rw [← hG13]
        rw [pj_nm_e]
        refine pj_X_of (fun r h => pj_R_to (G13, 34, [(1, .ref 7), (0, .ref 6)], [.ref 6], 0, 0) 34 2 (fun _ => rfl) h) ?_
        refine pj_X_of (fun r h => pj_T_gr iG13 rfl rfl rfl h) ?_
        refine pj_X_of (fun r h => pj_R_to (G13, 38, [(1, .ref 7), (0, .ref 6)], [.int (Int32.ofInt 0), .ref 21], 0, 0) 38 2 (fun _ => rfl) h) ?_
        refine pj_X_of (fun r h => pj_T_pf iG13 rfl rfl rfl h) ?_
        show pj_X _ _ (pj_wv G13 21 5 (.int (Int32.ofInt 0))) 41 [(1, .ref 7), (0, .ref 6)] [] _
        obtain ⟨G14, hG14⟩ : ∃ H, H = pj_wv G13 21 5 (.int (Int32.ofInt 0)) := ⟨_, rfl⟩
        have iG14 : pj_Inv G14 := by rw [hG14]; exact pj_Inv_wi iG13 (ci := 8) rfl (fun q hq => by cases hq; exact ⟨by show (0 : Int) ≤ _; omega, by show _ ≤ (6 : Int); omega⟩)
        have kG14 : pj_kpt kc_90x G0 G14 := by rw [hG14]; exact pj_kpt_v kG13 rfl
        rw [← hG14]
        rw [pj_nm_e]
        refine pj_X_of (fun r h => pj_R_to (G14, 42, [(1, .ref 7), (0, .ref 6)], [.ref 6], 0, 0) 42 2 (fun _ => rfl) h) ?_
        refine pj_X_of (fun r h => pj_T_gr iG14 rfl rfl rfl h) ?_
        refine pj_X_of (fun r h => pj_R_to (G14, 46, [(1, .ref 7), (0, .ref 6)], [.int (Int32.ofInt 0), .ref 21], 0, 0) 46 2 (fun _ => rfl) h) ?_
        refine pj_X_of (fun r h => pj_T_pf iG14 rfl rfl rfl h) ?_
        show pj_X _ _ (pj_wv G14 21 7 (.int (Int32.ofInt 0))) 49 [(1, .ref 7), (0, .ref 6)] [] _
        obtain ⟨G15, hG15⟩ : ∃ H, H = pj_wv G14 21 7 (.int (Int32.ofInt 0)) := ⟨_, rfl⟩
        have iG15 : pj_Inv G15 := by rw [hG15]; exact pj_Inv_wi iG14 (ci := 8) rfl (fun q hq => by cases hq)
        have kG15 : pj_kpt kc_90x G0 G15 := by rw [hG15]; exact pj_kpt_v kG14 rfl
        rw [← hG15]
        rw [pj_nm_e]
        exact pj_X_rt rfl rfl ⟨rfl, iG15, kG15, rfl⟩
    · rw [show pj_rb G0 6 1 7 = false from pj_rb_f q2 rfl, pj_cF]
      refine pj_X_of (fun r h => pj_T_pf hI rfl rfl rfl h) ?_
      show pj_X _ _ (pj_wv G0 6 0 (.ref 14)) 13 [(1, .ref 7), (0, .ref 6)] [] _
      obtain ⟨G16, hG16⟩ : ∃ H, H = pj_wv G0 6 0 (.ref 14) := ⟨_, rfl⟩
      have iG16 : pj_Inv G16 := by rw [hG16]; exact pj_Inv_wv hI (ci := 10) rfl rfl rfl
      have kG16 : pj_kpt kc_90x G0 G16 := by rw [hG16]; exact pj_kpt_v hK rfl
      rw [← hG16]
      rw [pj_nm_e]
      refine pj_X_of (fun r h => pj_R_to (G16, 15, [(1, .ref 7), (0, .ref 6)], [.ref 7, .ref 6], 0, 0) 15 3 (fun _ => rfl) h) ?_
      refine pj_X_of (fun r h => pj_T_pf iG16 rfl rfl rfl h) ?_
      show pj_X _ _ (pj_wv G16 6 1 (.ref 7)) 18 [(1, .ref 7), (0, .ref 6)] [] _
      obtain ⟨G17, hG17⟩ : ∃ H, H = pj_wv G16 6 1 (.ref 7) := ⟨_, rfl⟩
      have iG17 : pj_Inv G17 := by rw [hG17]; exact pj_Inv_wv iG16 (ci := 10) rfl rfl rfl
      have kG17 : pj_kpt kc_90x G0 G17 := by rw [hG17]; exact pj_kpt_v kG16 rfl
      rw [← hG17]
      rw [pj_nm_e]
      refine pj_X_of (fun r h => pj_R_to (G17, 19, [(1, .ref 7), (0, .ref 6)], [.ref 6], 0, 0) 19 2 (fun _ => rfl) h) ?_
      refine pj_X_gm iG17 rfl rfl (fun q18 => ?_) (fun q18 => ?_)
      · rw [show pj_rb G17 6 0 7 = true from pj_rb_t q18, pj_cT]
        refine pj_X_ca (vs := [.ref 7]) rfl (fun _ => rfl) ⟨Nat.le_of_ble_eq_true rfl, Nat.le_of_ble_eq_true rfl, pj_T_rcv iG17 rfl⟩ ⟨rfl, rfl⟩ (pj_Y_up (by decide) (ct_42_7x G17 iG17)) ?_
        rintro _ G20 ⟨rfl, iG20, jG20, fy19⟩
        rw [← fy19, pj_nm_e]
        have kG20 : pj_kpt kc_90x G0 G20 := pj_kpt_t kG17 (pj_kpt_s jG20 rfl)
        show pj_X _ _ G20 25 [(1, .ref 7), (0, .ref 6)] [] _
        refine pj_X_of (fun r h => pj_R_to (G20, 26, [(1, .ref 7), (0, .ref 6)], [.ref 6], 0, 0) 26 2 (fun _ => rfl) h) ?_
        refine pj_X_of (fun r h => pj_T_gr iG20 rfl rfl rfl h) ?_
        refine pj_X_of (fun r h => pj_R_to (G20, 30, [(1, .ref 7), (0, .ref 6)], [.int (Int32.ofInt 0), .ref 21], 0, 0) 30 2 (fun _ => rfl) h) ?_
        refine pj_X_of (fun r h => pj_T_pf iG20 rfl rfl rfl h) ?_
        show pj_X _ _ (pj_wv G20 21 0 (.int (Int32.ofInt 0))) 33 [(1, .ref 7), (0, .ref 6)] [] _
        obtain ⟨G21, hG21⟩ : ∃ H, H = pj_wv G20 21 0 (.int (Int32.ofInt 0)) := ⟨_, rfl⟩
        have iG21 : pj_Inv G21 := by rw [hG21]; exact pj_Inv_wi iG20 (ci := 8) rfl (fun q hq => by cases hq; exact ⟨by show (0 : Int) ≤ _; omega, by show _ ≤ (6 : Int); omega⟩)
        have kG21 : pj_kpt kc_90x G0 G21 := by rw [hG21]; exact pj_kpt_v kG20 rfl
        rw [← hG21]
        rw [pj_nm_e]
        refine pj_X_of (fun r h => pj_R_to (G21, 34, [(1, .ref 7), (0, .ref 6)], [.ref 6], 0, 0) 34 2 (fun _ => rfl) h) ?_
        refine pj_X_of (fun r h => pj_T_gr iG21 rfl rfl rfl h) ?_
        refine pj_X_of (fun r h => pj_R_to (G21, 38, [(1, .ref 7), (0, .ref 6)], [.int (Int32.ofInt 0), .ref 21], 0, 0) 38 2 (fun _ => rfl) h) ?_
        refine pj_X_of (fun r h => pj_T_pf iG21 rfl rfl rfl h) ?_
        show pj_X _ _ (pj_wv G21 21 5 (.int (Int32.ofInt 0))) 41 [(1, .ref 7), (0, .ref 6)] [] _
        obtain ⟨G22, hG22⟩ : ∃ H, H = pj_wv G21 21 5 (.int (Int32.ofInt 0)) := ⟨_, rfl⟩
        have iG22 : pj_Inv G22 := by rw [hG22]; exact pj_Inv_wi iG21 (ci := 8) rfl (fun q hq => by cases hq; exact ⟨by show (0 : Int) ≤ _; omega, by show _ ≤ (6 : Int); omega⟩)
        have kG22 : pj_kpt kc_90x G0 G22 := by rw [hG22]; exact pj_kpt_v kG21 rfl
        rw [← hG22]
        rw [pj_nm_e]
        refine pj_X_of (fun r h => pj_R_to (G22, 42, [(1, .ref 7), (0, .ref 6)], [.ref 6], 0, 0) 42 2 (fun _ => rfl) h) ?_
        refine pj_X_of (fun r h => pj_T_gr iG22 rfl rfl rfl h) ?_
        refine pj_X_of (fun r h => pj_R_to (G22, 46, [(1, .ref 7), (0, .ref 6)], [.int (Int32.ofInt 0), .ref 21], 0, 0) 46 2 (fun _ => rfl) h) ?_
        refine pj_X_of (fun r h => pj_T_pf iG22 rfl rfl rfl h) ?_
        show pj_X _ _ (pj_wv G22 21 7 (.int (Int32.ofInt 0))) 49 [(1, .ref 7), (0, .ref 6)] [] _
        obtain ⟨G23, hG23⟩ : ∃ H, H = pj_wv G22 21 7 (.int (Int32.ofInt 0)) := ⟨_, rfl⟩
        have iG23 : pj_Inv G23 := by rw [hG23]; exact pj_Inv_wi iG22 (ci := 8) rfl (fun q hq => by cases hq)
        have kG23 : pj_kpt kc_90x G0 G23 := by rw [hG23]; exact pj_kpt_v kG22 rfl
        rw [← hG23]
        rw [pj_nm_e]
        exact pj_X_rt rfl rfl ⟨rfl, iG23, kG23, rfl⟩
      · rw [show pj_rb G17 6 0 7 = false from pj_rb_f q18 rfl, pj_cF]
        refine pj_X_ca (vs := [.ref 14]) rfl (fun _ => rfl) ⟨Nat.le_of_ble_eq_true rfl, Nat.le_of_ble_eq_true rfl, pj_T_rcv iG17 rfl⟩ ⟨rfl, rfl⟩ (pj_Y_up (by decide) (ct_42_14x G17 iG17)) ?_
        rintro _ G25 ⟨rfl, iG25, jG25, fy24⟩
        rw [← fy24, pj_nm_e]
        have kG25 : pj_kpt kc_90x G0 G25 := pj_kpt_t kG17 (pj_kpt_s jG25 rfl)
        show pj_X _ _ G25 25 [(1, .ref 7), (0, .ref 6)] [] _
        refine pj_X_of (fun r h => pj_R_to (G25, 26, [(1, .ref 7), (0, .ref 6)], [.ref 6], 0, 0) 26 2 (fun _ => rfl) h) ?_
        refine pj_X_of (fun r h => pj_T_gr iG25 rfl rfl rfl h) ?_
        refine pj_X_of (fun r h => pj_R_to (G25, 30, [(1, .ref 7), (0, .ref 6)], [.int (Int32.ofInt 0), .ref 21], 0, 0) 30 2 (fun _ => rfl) h) ?_
        refine pj_X_of (fun r h => pj_T_pf iG25 rfl rfl rfl h) ?_
        show pj_X _ _ (pj_wv G25 21 0 (.int (Int32.ofInt 0))) 33 [(1, .ref 7), (0, .ref 6)] [] _
        obtain ⟨G26, hG26⟩ : ∃ H, H = pj_wv G25 21 0 (.int (Int32.ofInt 0)) := ⟨_, rfl⟩
        have iG26 : pj_Inv G26 := by rw [hG26]; exact pj_Inv_wi iG25 (ci := 8) rfl (fun q hq => by cases hq; exact ⟨by show (0 : Int) ≤ _; omega, by show _ ≤ (6 : Int); omega⟩)
        have kG26 : pj_kpt kc_90x G0 G26 := by rw [hG26]; exact pj_kpt_v kG25 rfl
        rw [← hG26]
        rw [pj_nm_e]
        refine pj_X_of (fun r h => pj_R_to (G26, 34, [(1, .ref 7), (0, .ref 6)], [.ref 6], 0, 0) 34 2 (fun _ => rfl) h) ?_
        refine pj_X_of (fun r h => pj_T_gr iG26 rfl rfl rfl h) ?_
        refine pj_X_of (fun r h => pj_R_to (G26, 38, [(1, .ref 7), (0, .ref 6)], [.int (Int32.ofInt 0), .ref 21], 0, 0) 38 2 (fun _ => rfl) h) ?_
        refine pj_X_of (fun r h => pj_T_pf iG26 rfl rfl rfl h) ?_
        show pj_X _ _ (pj_wv G26 21 5 (.int (Int32.ofInt 0))) 41 [(1, .ref 7), (0, .ref 6)] [] _
        obtain ⟨G27, hG27⟩ : ∃ H, H = pj_wv G26 21 5 (.int (Int32.ofInt 0)) := ⟨_, rfl⟩
        have iG27 : pj_Inv G27 := by rw [hG27]; exact pj_Inv_wi iG26 (ci := 8) rfl (fun q hq => by cases hq; exact ⟨by show (0 : Int) ≤ _; omega, by show _ ≤ (6 : Int); omega⟩)
        have kG27 : pj_kpt kc_90x G0 G27 := by rw [hG27]; exact pj_kpt_v kG26 rfl
        rw [← hG27]
        rw [pj_nm_e]
        refine pj_X_of (fun r h => pj_R_to (G27, 42, [(1, .ref 7), (0, .ref 6)], [.ref 6], 0, 0) 42 2 (fun _ => rfl) h) ?_
        refine pj_X_of (fun r h => pj_T_gr iG27 rfl rfl rfl h) ?_
        refine pj_X_of (fun r h => pj_R_to (G27, 46, [(1, .ref 7), (0, .ref 6)], [.int (Int32.ofInt 0), .ref 21], 0, 0) 46 2 (fun _ => rfl) h) ?_
        refine pj_X_of (fun r h => pj_T_pf iG27 rfl rfl rfl h) ?_
        show pj_X _ _ (pj_wv G27 21 7 (.int (Int32.ofInt 0))) 49 [(1, .ref 7), (0, .ref 6)] [] _
        obtain ⟨G28, hG28⟩ : ∃ H, H = pj_wv G27 21 7 (.int (Int32.ofInt 0)) := ⟨_, rfl⟩
        have iG28 : pj_Inv G28 := by rw [hG28]; exact pj_Inv_wi iG27 (ci := 8) rfl (fun q hq => by cases hq)
        have kG28 : pj_kpt kc_90x G0 G28 := by rw [hG28]; exact pj_kpt_v kG27 rfl
        rw [← hG28]
        rw [pj_nm_e]
        exact pj_X_rt rfl rfl ⟨rfl, iG28, kG28, rfl⟩
  · rw [show pj_rb G0 6 0 7 = false from pj_rb_f q1 rfl, pj_cF]
    refine pj_X_of (fun r h => pj_R_to (G0, 7, [(1, .ref 14), (0, .ref 6)], [.ref 6, .ref 6], 0, 0) 7 4 (fun _ => rfl) h) ?_
    refine pj_X_gm hI rfl rfl (fun q29 => ?_) (fun q29 => ?_)
    · rw [show pj_rb G0 6 1 7 = true from pj_rb_t q29, pj_cT]
      refine pj_X_of (fun r h => pj_T_pf hI rfl rfl rfl h) ?_
      show pj_X _ _ (pj_wv G0 6 0 (.ref 7)) 13 [(1, .ref 14), (0, .ref 6)] [] _
      obtain ⟨G30, hG30⟩ : ∃ H, H = pj_wv G0 6 0 (.ref 7) := ⟨_, rfl⟩
      have iG30 : pj_Inv G30 := by rw [hG30]; exact pj_Inv_wv hI (ci := 10) rfl rfl rfl
      have kG30 : pj_kpt kc_90x G0 G30 := by rw [hG30]; exact pj_kpt_v hK rfl
      rw [← hG30]
      rw [pj_nm_e]
      refine pj_X_of (fun r h => pj_R_to (G30, 15, [(1, .ref 14), (0, .ref 6)], [.ref 14, .ref 6], 0, 0) 15 3 (fun _ => rfl) h) ?_
      refine pj_X_of (fun r h => pj_T_pf iG30 rfl rfl rfl h) ?_
      show pj_X _ _ (pj_wv G30 6 1 (.ref 14)) 18 [(1, .ref 14), (0, .ref 6)] [] _
      obtain ⟨G31, hG31⟩ : ∃ H, H = pj_wv G30 6 1 (.ref 14) := ⟨_, rfl⟩
      have iG31 : pj_Inv G31 := by rw [hG31]; exact pj_Inv_wv iG30 (ci := 10) rfl rfl rfl
      have kG31 : pj_kpt kc_90x G0 G31 := by rw [hG31]; exact pj_kpt_v kG30 rfl
      rw [← hG31]
      rw [pj_nm_e]
      refine pj_X_of (fun r h => pj_R_to (G31, 19, [(1, .ref 14), (0, .ref 6)], [.ref 6], 0, 0) 19 2 (fun _ => rfl) h) ?_
      refine pj_X_gm iG31 rfl rfl (fun q32 => ?_) (fun q32 => ?_)
      · rw [show pj_rb G31 6 0 7 = true from pj_rb_t q32, pj_cT]
        refine pj_X_ca (vs := [.ref 7]) rfl (fun _ => rfl) ⟨Nat.le_of_ble_eq_true rfl, Nat.le_of_ble_eq_true rfl, pj_T_rcv iG31 rfl⟩ ⟨rfl, rfl⟩ (pj_Y_up (by decide) (ct_42_7x G31 iG31)) ?_
        rintro _ G34 ⟨rfl, iG34, jG34, fy33⟩
        rw [← fy33, pj_nm_e]
        have kG34 : pj_kpt kc_90x G0 G34 := pj_kpt_t kG31 (pj_kpt_s jG34 rfl)
        show pj_X _ _ G34 25 [(1, .ref 14), (0, .ref 6)] [] _
        refine pj_X_of (fun r h => pj_R_to (G34, 26, [(1, .ref 14), (0, .ref 6)], [.ref 6], 0, 0) 26 2 (fun _ => rfl) h) ?_
        refine pj_X_of (fun r h => pj_T_gr iG34 rfl rfl rfl h) ?_
        refine pj_X_of (fun r h => pj_R_to (G34, 30, [(1, .ref 14), (0, .ref 6)], [.int (Int32.ofInt 0), .ref 21], 0, 0) 30 2 (fun _ => rfl) h) ?_
        refine pj_X_of (fun r h => pj_T_pf iG34 rfl rfl rfl h) ?_
        show pj_X _ _ (pj_wv G34 21 0 (.int (Int32.ofInt 0))) 33 [(1, .ref 14), (0, .ref 6)] [] _
        obtain ⟨G35, hG35⟩ : ∃ H, H = pj_wv G34 21 0 (.int (Int32.ofInt 0)) := ⟨_, rfl⟩
        have iG35 : pj_Inv G35 := by rw [hG35]; exact pj_Inv_wi iG34 (ci := 8) rfl (fun q hq => by cases hq; exact ⟨by show (0 : Int) ≤ _; omega, by show _ ≤ (6 : Int); omega⟩)
        have kG35 : pj_kpt kc_90x G0 G35 := by rw [hG35]; exact pj_kpt_v kG34 rfl
        rw [← hG35]
        rw [pj_nm_e]
        refine pj_X_of (fun r h => pj_R_to (G35, 34, [(1, .ref 14), (0, .ref 6)], [.ref 6], 0, 0) 34 2 (fun _ => rfl) h) ?_
        refine pj_X_of (fun r h => pj_T_gr iG35 rfl rfl rfl h) ?_
        refine pj_X_of (fun r h => pj_R_to (G35, 38, [(1, .ref 14), (0, .ref 6)], [.int (Int32.ofInt 0), .ref 21], 0, 0) 38 2 (fun _ => rfl) h) ?_
        refine pj_X_of (fun r h => pj_T_pf iG35 rfl rfl rfl h) ?_
        show pj_X _ _ (pj_wv G35 21 5 (.int (Int32.ofInt 0))) 41 [(1, .ref 14), (0, .ref 6)] [] _
        obtain ⟨G36, hG36⟩ : ∃ H, H = pj_wv G35 21 5 (.int (Int32.ofInt 0)) := ⟨_, rfl⟩
        have iG36 : pj_Inv G36 := by rw [hG36]; exact pj_Inv_wi iG35 (ci := 8) rfl (fun q hq => by cases hq; exact ⟨by show (0 : Int) ≤ _; omega, by show _ ≤ (6 : Int); omega⟩)
        have kG36 : pj_kpt kc_90x G0 G36 := by rw [hG36]; exact pj_kpt_v kG35 rfl
        rw [← hG36]
        rw [pj_nm_e]
        refine pj_X_of (fun r h => pj_R_to (G36, 42, [(1, .ref 14), (0, .ref 6)], [.ref 6], 0, 0) 42 2 (fun _ => rfl) h) ?_
        refine pj_X_of (fun r h => pj_T_gr iG36 rfl rfl rfl h) ?_
        refine pj_X_of (fun r h => pj_R_to (G36, 46, [(1, .ref 14), (0, .ref 6)], [.int (Int32.ofInt 0), .ref 21], 0, 0) 46 2 (fun _ => rfl) h) ?_
        refine pj_X_of (fun r h => pj_T_pf iG36 rfl rfl rfl h) ?_
        show pj_X _ _ (pj_wv G36 21 7 (.int (Int32.ofInt 0))) 49 [(1, .ref 14), (0, .ref 6)] [] _
        obtain ⟨G37, hG37⟩ : ∃ H, H = pj_wv G36 21 7 (.int (Int32.ofInt 0)) := ⟨_, rfl⟩
        have iG37 : pj_Inv G37 := by rw [hG37]; exact pj_Inv_wi iG36 (ci := 8) rfl (fun q hq => by cases hq)
        have kG37 : pj_kpt kc_90x G0 G37 := by rw [hG37]; exact pj_kpt_v kG36 rfl
        rw [← hG37]
        rw [pj_nm_e]
        exact pj_X_rt rfl rfl ⟨rfl, iG37, kG37, rfl⟩
      · rw [show pj_rb G31 6 0 7 = false from pj_rb_f q32 rfl, pj_cF]
        refine pj_X_ca (vs := [.ref 14]) rfl (fun _ => rfl) ⟨Nat.le_of_ble_eq_true rfl, Nat.le_of_ble_eq_true rfl, pj_T_rcv iG31 rfl⟩ ⟨rfl, rfl⟩ (pj_Y_up (by decide) (ct_42_14x G31 iG31)) ?_
        rintro _ G39 ⟨rfl, iG39, jG39, fy38⟩
        rw [← fy38, pj_nm_e]
        have kG39 : pj_kpt kc_90x G0 G39 := pj_kpt_t kG31 (pj_kpt_s jG39 rfl)
        show pj_X _ _ G39 25 [(1, .ref 14), (0, .ref 6)] [] _
        refine pj_X_of (fun r h => pj_R_to (G39, 26, [(1, .ref 14), (0, .ref 6)], [.ref 6], 0, 0) 26 2 (fun _ => rfl) h) ?_
        refine pj_X_of (fun r h => pj_T_gr iG39 rfl rfl rfl h) ?_
        refine pj_X_of (fun r h => pj_R_to (G39, 30, [(1, .ref 14), (0, .ref 6)], [.int (Int32.ofInt 0), .ref 21], 0, 0) 30 2 (fun _ => rfl) h) ?_
        refine pj_X_of (fun r h => pj_T_pf iG39 rfl rfl rfl h) ?_
        show pj_X _ _ (pj_wv G39 21 0 (.int (Int32.ofInt 0))) 33 [(1, .ref 14), (0, .ref 6)] [] _
        obtain ⟨G40, hG40⟩ : ∃ H, H = pj_wv G39 21 0 (.int (Int32.ofInt 0)) := ⟨_, rfl⟩
        have iG40 : pj_Inv G40 := by rw [hG40]; exact pj_Inv_wi iG39 (ci := 8) rfl (fun q hq => by cases hq; exact ⟨by show (0 : Int) ≤ _; omega, by show _ ≤ (6 : Int); omega⟩)
        have kG40 : pj_kpt kc_90x G0 G40 := by rw [hG40]; exact pj_kpt_v kG39 rfl
        rw [← hG40]
        rw [pj_nm_e]
        refine pj_X_of (fun r h => pj_R_to (G40, 34, [(1, .ref 14), (0, .ref 6)], [.ref 6], 0, 0) 34 2 (fun _ => rfl) h) ?_
        refine pj_X_of (fun r h => pj_T_gr iG40 rfl rfl rfl h) ?_
        refine pj_X_of (fun r h => pj_R_to (G40, 38, [(1, .ref 14), (0, .ref 6)], [.int (Int32.ofInt 0), .ref 21], 0, 0) 38 2 (fun _ => rfl) h) ?_
        refine pj_X_of (fun r h => pj_T_pf iG40 rfl rfl rfl h) ?_
        show pj_X _ _ (pj_wv G40 21 5 (.int (Int32.ofInt 0))) 41 [(1, .ref 14), (0, .ref 6)] [] _
        obtain ⟨G41, hG41⟩ : ∃ H, H = pj_wv G40 21 5 (.int (Int32.ofInt 0)) := ⟨_, rfl⟩
        have iG41 : pj_Inv G41 := by rw [hG41]; exact pj_Inv_wi iG40 (ci := 8) rfl (fun q hq => by cases hq; exact ⟨by show (0 : Int) ≤ _; omega, by show _ ≤ (6 : Int); omega⟩)
        have kG41 : pj_kpt kc_90x G0 G41 := by rw [hG41]; exact pj_kpt_v kG40 rfl
        rw [← hG41]
        rw [pj_nm_e]
        refine pj_X_of (fun r h => pj_R_to (G41, 42, [(1, .ref 14), (0, .ref 6)], [.ref 6], 0, 0) 42 2 (fun _ => rfl) h) ?_
        refine pj_X_of (fun r h => pj_T_gr iG41 rfl rfl rfl h) ?_
        refine pj_X_of (fun r h => pj_R_to (G41, 46, [(1, .ref 14), (0, .ref 6)], [.int (Int32.ofInt 0), .ref 21], 0, 0) 46 2 (fun _ => rfl) h) ?_
        refine pj_X_of (fun r h => pj_T_pf iG41 rfl rfl rfl h) ?_
        show pj_X _ _ (pj_wv G41 21 7 (.int (Int32.ofInt 0))) 49 [(1, .ref 14), (0, .ref 6)] [] _
        obtain ⟨G42, hG42⟩ : ∃ H, H = pj_wv G41 21 7 (.int (Int32.ofInt 0)) := ⟨_, rfl⟩
        have iG42 : pj_Inv G42 := by rw [hG42]; exact pj_Inv_wi iG41 (ci := 8) rfl (fun q hq => by cases hq)
        have kG42 : pj_kpt kc_90x G0 G42 := by rw [hG42]; exact pj_kpt_v kG41 rfl
        rw [← hG42]
        rw [pj_nm_e]
        exact pj_X_rt rfl rfl ⟨rfl, iG42, kG42, rfl⟩
    · rw [show pj_rb G0 6 1 7 = false from pj_rb_f q29 rfl, pj_cF]
      refine pj_X_of (fun r h => pj_T_pf hI rfl rfl rfl h) ?_
      show pj_X _ _ (pj_wv G0 6 0 (.ref 14)) 13 [(1, .ref 14), (0, .ref 6)] [] _
      obtain ⟨G43, hG43⟩ : ∃ H, H = pj_wv G0 6 0 (.ref 14) := ⟨_, rfl⟩
      have iG43 : pj_Inv G43 := by rw [hG43]; exact pj_Inv_wv hI (ci := 10) rfl rfl rfl
      have kG43 : pj_kpt kc_90x G0 G43 := by rw [hG43]; exact pj_kpt_v hK rfl
      rw [← hG43]
      rw [pj_nm_e]
      refine pj_X_of (fun r h => pj_R_to (G43, 15, [(1, .ref 14), (0, .ref 6)], [.ref 14, .ref 6], 0, 0) 15 3 (fun _ => rfl) h) ?_
      refine pj_X_of (fun r h => pj_T_pf iG43 rfl rfl rfl h) ?_
      show pj_X _ _ (pj_wv G43 6 1 (.ref 14)) 18 [(1, .ref 14), (0, .ref 6)] [] _
      obtain ⟨G44, hG44⟩ : ∃ H, H = pj_wv G43 6 1 (.ref 14) := ⟨_, rfl⟩
      have iG44 : pj_Inv G44 := by rw [hG44]; exact pj_Inv_wv iG43 (ci := 10) rfl rfl rfl
      have kG44 : pj_kpt kc_90x G0 G44 := by rw [hG44]; exact pj_kpt_v kG43 rfl
      rw [← hG44]
      rw [pj_nm_e]
      refine pj_X_of (fun r h => pj_R_to (G44, 19, [(1, .ref 14), (0, .ref 6)], [.ref 6], 0, 0) 19 2 (fun _ => rfl) h) ?_
      refine pj_X_gm iG44 rfl rfl (fun q45 => ?_) (fun q45 => ?_)
      · rw [show pj_rb G44 6 0 7 = true from pj_rb_t q45, pj_cT]
        refine pj_X_ca (vs := [.ref 7]) rfl (fun _ => rfl) ⟨Nat.le_of_ble_eq_true rfl, Nat.le_of_ble_eq_true rfl, pj_T_rcv iG44 rfl⟩ ⟨rfl, rfl⟩ (pj_Y_up (by decide) (ct_42_7x G44 iG44)) ?_
        rintro _ G47 ⟨rfl, iG47, jG47, fy46⟩
        rw [← fy46, pj_nm_e]
        have kG47 : pj_kpt kc_90x G0 G47 := pj_kpt_t kG44 (pj_kpt_s jG47 rfl)
        show pj_X _ _ G47 25 [(1, .ref 14), (0, .ref 6)] [] _
        refine pj_X_of (fun r h => pj_R_to (G47, 26, [(1, .ref 14), (0, .ref 6)], [.ref 6], 0, 0) 26 2 (fun _ => rfl) h) ?_
        refine pj_X_of (fun r h => pj_T_gr iG47 rfl rfl rfl h) ?_
        refine pj_X_of (fun r h => pj_R_to (G47, 30, [(1, .ref 14), (0, .ref 6)], [.int (Int32.ofInt 0), .ref 21], 0, 0) 30 2 (fun _ => rfl) h) ?_
        refine pj_X_of (fun r h => pj_T_pf iG47 rfl rfl rfl h) ?_
        show pj_X _ _ (pj_wv G47 21 0 (.int (Int32.ofInt 0))) 33 [(1, .ref 14), (0, .ref 6)] [] _
        obtain ⟨G48, hG48⟩ : ∃ H, H = pj_wv G47 21 0 (.int (Int32.ofInt 0)) := ⟨_, rfl⟩
        have iG48 : pj_Inv G48 := by rw [hG48]; exact pj_Inv_wi iG47 (ci := 8) rfl (fun q hq => by cases hq; exact ⟨by show (0 : Int) ≤ _; omega, by show _ ≤ (6 : Int); omega⟩)
        have kG48 : pj_kpt kc_90x G0 G48 := by rw [hG48]; exact pj_kpt_v kG47 rfl
        rw [← hG48]
        rw [pj_nm_e]
        refine pj_X_of (fun r h => pj_R_to (G48, 34, [(1, .ref 14), (0, .ref 6)], [.ref 6], 0, 0) 34 2 (fun _ => rfl) h) ?_
        refine pj_X_of (fun r h => pj_T_gr iG48 rfl rfl rfl h) ?_
        refine pj_X_of (fun r h => pj_R_to (G48, 38, [(1, .ref 14), (0, .ref 6)], [.int (Int32.ofInt 0), .ref 21], 0, 0) 38 2 (fun _ => rfl) h) ?_
        refine pj_X_of (fun r h => pj_T_pf iG48 rfl rfl rfl h) ?_
        show pj_X _ _ (pj_wv G48 21 5 (.int (Int32.ofInt 0))) 41 [(1, .ref 14), (0, .ref 6)] [] _
        obtain ⟨G49, hG49⟩ : ∃ H, H = pj_wv G48 21 5 (.int (Int32.ofInt 0)) := ⟨_, rfl⟩
        have iG49 : pj_Inv G49 := by rw [hG49]; exact pj_Inv_wi iG48 (ci := 8) rfl (fun q hq => by cases hq; exact ⟨by show (0 : Int) ≤ _; omega, by show _ ≤ (6 : Int); omega⟩)
        have kG49 : pj_kpt kc_90x G0 G49 := by rw [hG49]; exact pj_kpt_v kG48 rfl
        rw [← hG49]
        rw [pj_nm_e]
        refine pj_X_of (fun r h => pj_R_to (G49, 42, [(1, .ref 14), (0, .ref 6)], [.ref 6], 0, 0) 42 2 (fun _ => rfl) h) ?_
        refine pj_X_of (fun r h => pj_T_gr iG49 rfl rfl rfl h) ?_
        refine pj_X_of (fun r h => pj_R_to (G49, 46, [(1, .ref 14), (0, .ref 6)], [.int (Int32.ofInt 0), .ref 21], 0, 0) 46 2 (fun _ => rfl) h) ?_
        refine pj_X_of (fun r h => pj_T_pf iG49 rfl rfl rfl h) ?_
        show pj_X _ _ (pj_wv G49 21 7 (.int (Int32.ofInt 0))) 49 [(1, .ref 14), (0, .ref 6)] [] _
        obtain ⟨G50, hG50⟩ : ∃ H, H = pj_wv G49 21 7 (.int (Int32.ofInt 0)) := ⟨_, rfl⟩
        have iG50 : pj_Inv G50 := by rw [hG50]; exact pj_Inv_wi iG49 (ci := 8) rfl (fun q hq => by cases hq)
        have kG50 : pj_kpt kc_90x G0 G50 := by rw [hG50]; exact pj_kpt_v kG49 rfl
        rw [← hG50]
        rw [pj_nm_e]
        exact pj_X_rt rfl rfl ⟨rfl, iG50, kG50, rfl⟩
      · rw [show pj_rb G44 6 0 7 = false from pj_rb_f q45 rfl, pj_cF]
        refine pj_X_ca (vs := [.ref 14]) rfl (fun _ => rfl) ⟨Nat.le_of_ble_eq_true rfl, Nat.le_of_ble_eq_true rfl, pj_T_rcv iG44 rfl⟩ ⟨rfl, rfl⟩ (pj_Y_up (by decide) (ct_42_14x G44 iG44)) ?_
        rintro _ G52 ⟨rfl, iG52, jG52, fy51⟩
        rw [← fy51, pj_nm_e]
        have kG52 : pj_kpt kc_90x G0 G52 := pj_kpt_t kG44 (pj_kpt_s jG52 rfl)
        show pj_X _ _ G52 25 [(1, .ref 14), (0, .ref 6)] [] _
        refine pj_X_of (fun r h => pj_R_to (G52, 26, [(1, .ref 14), (0, .ref 6)], [.ref 6], 0, 0) 26 2 (fun _ => rfl) h) ?_
        refine pj_X_of (fun r h => pj_T_gr iG52 rfl rfl rfl h) ?_
        refine pj_X_of (fun r h => pj_R_to (G52, 30, [(1, .ref 14), (0, .ref 6)], [.int (Int32.ofInt 0), .ref 21], 0, 0) 30 2 (fun _ => rfl) h) ?_
        refine pj_X_of (fun r h => pj_T_pf iG52 rfl rfl rfl h) ?_
        show pj_X _ _ (pj_wv G52 21 0 (.int (Int32.ofInt 0))) 33 [(1, .ref 14), (0, .ref 6)] [] _
        obtain ⟨G53, hG53⟩ : ∃ H, H = pj_wv G52 21 0 (.int (Int32.ofInt 0)) := ⟨_, rfl⟩
        have iG53 : pj_Inv G53 := by rw [hG53]; exact pj_Inv_wi iG52 (ci := 8) rfl (fun q hq => by cases hq; exact ⟨by show (0 : Int) ≤ _; omega, by show _ ≤ (6 : Int); omega⟩)
        have kG53 : pj_kpt kc_90x G0 G53 := by rw [hG53]; exact pj_kpt_v kG52 rfl
        rw [← hG53]
        rw [pj_nm_e]
        refine pj_X_of (fun r h => pj_R_to (G53, 34, [(1, .ref 14), (0, .ref 6)], [.ref 6], 0, 0) 34 2 (fun _ => rfl) h) ?_
        refine pj_X_of (fun r h => pj_T_gr iG53 rfl rfl rfl h) ?_
        refine pj_X_of (fun r h => pj_R_to (G53, 38, [(1, .ref 14), (0, .ref 6)], [.int (Int32.ofInt 0), .ref 21], 0, 0) 38 2 (fun _ => rfl) h) ?_
        refine pj_X_of (fun r h => pj_T_pf iG53 rfl rfl rfl h) ?_
        show pj_X _ _ (pj_wv G53 21 5 (.int (Int32.ofInt 0))) 41 [(1, .ref 14), (0, .ref 6)] [] _
        obtain ⟨G54, hG54⟩ : ∃ H, H = pj_wv G53 21 5 (.int (Int32.ofInt 0)) := ⟨_, rfl⟩
        have iG54 : pj_Inv G54 := by rw [hG54]; exact pj_Inv_wi iG53 (ci := 8) rfl (fun q hq => by cases hq; exact ⟨by show (0 : Int) ≤ _; omega, by show _ ≤ (6 : Int); omega⟩)
        have kG54 : pj_kpt kc_90x G0 G54 := by rw [hG54]; exact pj_kpt_v kG53 rfl
        rw [← hG54]
        rw [pj_nm_e]
        refine pj_X_of (fun r h => pj_R_to (G54, 42, [(1, .ref 14), (0, .ref 6)], [.ref 6], 0, 0) 42 2 (fun _ => rfl) h) ?_
        refine pj_X_of (fun r h => pj_T_gr iG54 rfl rfl rfl h) ?_
        refine pj_X_of (fun r h => pj_R_to (G54, 46, [(1, .ref 14), (0, .ref 6)], [.int (Int32.ofInt 0), .ref 21], 0, 0) 46 2 (fun _ => rfl) h) ?_
        refine pj_X_of (fun r h => pj_T_pf iG54 rfl rfl rfl h) ?_
        show pj_X _ _ (pj_wv G54 21 7 (.int (Int32.ofInt 0))) 49 [(1, .ref 14), (0, .ref 6)] [] _
        obtain ⟨G55, hG55⟩ : ∃ H, H = pj_wv G54 21 7 (.int (Int32.ofInt 0)) := ⟨_, rfl⟩
        have iG55 : pj_Inv G55 := by rw [hG55]; exact pj_Inv_wi iG54 (ci := 8) rfl (fun q hq => by cases hq)
        have kG55 : pj_kpt kc_90x G0 G55 := by rw [hG55]; exact pj_kpt_v kG54 rfl
        rw [← hG55]
        rw [pj_nm_e]
        exact pj_X_rt rfl rfl ⟨rfl, iG55, kG55, rfl⟩
theorem fr_90x (G0 : pj_G) (hI : pj_Inv G0) : pj_Inv (F_90x G0) ∧ pj_kpt kc_90x G0 (F_90x G0) := by
  obtain ⟨v, G', -, -, i, j, e⟩ := ct_90x G0 hI 
  rw [← e]
  exact ⟨i, j⟩
noncomputable def F_162x (G0 : pj_G) (w : Int32) : Int32 := pj_nm ((Int32.ofInt (-1)) - w) (fun z1 => z1)
theorem F_162x_e (G0 : pj_G) (w : Int32) : F_162x G0 w = pj_nm ((Int32.ofInt (-1)) - w) (fun z1 => z1) := rfl
theorem ct_162x (G0 : pj_G) (hI : pj_Inv G0) (w : Int32) : pj_Y 1 162 [.int w] G0 (fun v' G' => ∃ y : Int32, v' = some (.int y) ∧ G0 = G' ∧ ((-2147483648 : Int) ≤ y.toInt ∧ y.toInt ≤ 2147483647) ∧ (y = F_162x G0 w)) := by
  have c0_ : (Int32.ofInt (-1)).toInt = -1 := by decide
  refine pj_Y_X (M := pj_m162) rfl rfl (Nat.le_of_ble_eq_true rfl) ?_
  have hK : pj_kpt ([], [], []) G0 G0 := pj_kpt_r _ _
  show pj_X _ _ G0 0 [(0, .int w)] [] _
  rw [F_162x_e]
  refine pj_X_of (fun r h => pj_R_to (G0, 3, [(0, .int w)], [.int ((Int32.ofInt (-1)) - w)], 0, 0) 3 4 (fun _ => rfl) h) ?_
  obtain ⟨z1, hz1⟩ : ∃ z : Int32, z = (Int32.ofInt (-1)) - w := ⟨_, rfl⟩
  refine pj_X_eqi hz1.symm ?_
  rw [← hz1, pj_nm_e]
  have fz1_0 : z1.toInt = (Int32.ofInt (-1)).toInt - w.toInt := by rw [hz1]; exact pj_subI (by have := pj_i32 (Int32.ofInt (-1)); have := pj_i32 w; omega) (by have := pj_i32 (Int32.ofInt (-1)); have := pj_i32 w; omega)
  exact pj_X_rt rfl rfl ⟨_, rfl, rfl, pj_i32 _, rfl⟩
def kc_119x : pj_KT := ([(2, 1), (2, 2), (2, 3), (2, 4), (6, 0), (6, 1), (7, 0), (7, 1), (14, 0), (14, 1), (21, 0), (21, 5), (21, 7), (53, 2)], [2, 6, 7, 8, 9, 10, 11, 12, 13, 14, 15, 16, 17, 18, 19, 20, 21, 53, 56], [8, 9, 10, 11, 12, 13, 15, 16, 17, 18, 19, 20, 56])
noncomputable def F_119x (G0 : pj_G) : Int32 × pj_G := pj_nm (F_79x G0 ((Int8.ofInt 72).toInt32)) (fun G2 => cond (pj_rb G2 6 1 7) (pj_nm (F_41_7x G2) (fun G5 => pj_bd (F_88tx G5) (fun y6 G7 => cond (pj_c1 .eq y6 (Int32.ofInt (-1))) (pj_nm (F_90x G7) (fun G10 => pj_nm (F_37x G10) (fun G12 => cond (pj_rb G12 6 0 7) (pj_nm (pj_fi G12 7 1) (fun y14 => (y14, G12))) (pj_nm (pj_fi G12 14 1) (fun y15 => (y15, G12)))))) (pj_nm (F_162x G7 y6) (fun y16 => (y16, G7)))))) (pj_nm (F_41_14x G2) (fun G18 => pj_bd (F_88tx G18) (fun y19 G20 => cond (pj_c1 .eq y19 (Int32.ofInt (-1))) (pj_nm (F_90x G20) (fun G23 => pj_nm (F_37x G23) (fun G25 => cond (pj_rb G25 6 0 7) (pj_nm (pj_fi G25 7 1) (fun y27 => (y27, G25))) (pj_nm (pj_fi G25 14 1) (fun y28 => (y28, G25)))))) (pj_nm (F_162x G20 y19) (fun y29 => (y29, G20)))))))
theorem F_119x_e (G0 : pj_G) : F_119x G0 = pj_nm (F_79x G0 ((Int8.ofInt 72).toInt32)) (fun G2 => cond (pj_rb G2 6 1 7) (pj_nm (F_41_7x G2) (fun G5 => pj_bd (F_88tx G5) (fun y6 G7 => cond (pj_c1 .eq y6 (Int32.ofInt (-1))) (pj_nm (F_90x G7) (fun G10 => pj_nm (F_37x G10) (fun G12 => cond (pj_rb G12 6 0 7) (pj_nm (pj_fi G12 7 1) (fun y14 => (y14, G12))) (pj_nm (pj_fi G12 14 1) (fun y15 => (y15, G12)))))) (pj_nm (F_162x G7 y6) (fun y16 => (y16, G7)))))) (pj_nm (F_41_14x G2) (fun G18 => pj_bd (F_88tx G18) (fun y19 G20 => cond (pj_c1 .eq y19 (Int32.ofInt (-1))) (pj_nm (F_90x G20) (fun G23 => pj_nm (F_37x G23) (fun G25 => cond (pj_rb G25 6 0 7) (pj_nm (pj_fi G25 7 1) (fun y27 => (y27, G25))) (pj_nm (pj_fi G25 14 1) (fun y28 => (y28, G25)))))) (pj_nm (F_162x G20 y19) (fun y29 => (y29, G20))))))) := rfl
theorem ct_119x (G0 : pj_G) (hI : pj_Inv G0) : pj_Y 5 119 [.ref 1] G0 (fun v' G' => ∃ y : Int32, v' = some (.int y) ∧ pj_Inv G' ∧ pj_kpt kc_119x G0 G' ∧ ((-2147483648 : Int) ≤ y.toInt ∧ y.toInt ≤ 2147483647) ∧ ((y, G') = F_119x G0)) := by
  have c0_ : ((Int8.ofInt 72).toInt32).toInt = 72 := by decide
  have c1_ : (Int32.ofInt (-1)).toInt = -1 := by decide
  refine pj_Y_X (M := pj_m119) rfl rfl (Nat.le_of_ble_eq_true rfl) ?_
  have hK : pj_kpt kc_119x G0 G0 := pj_kpt_r _ _
  show pj_X _ _ G0 0 [(0, .ref 1)] [] _
  rw [F_119x_e]
  refine pj_X_of (fun r h => pj_R_to (G0, 1, [(0, .ref 1)], [.ref 1], 0, 0) 1 2 (fun _ => rfl) h) ?_
  refine pj_X_of (fun r h => pj_T_gr hI rfl rfl rfl h) ?_
  refine pj_X_of (fun r h => pj_R_to (G0, 6, [(0, .ref 1)], [.int ((Int8.ofInt 72).toInt32), .ref 2], 0, 0) 6 2 (fun _ => rfl) h) ?_
  refine pj_X_ca (vs := [.ref 2, .int ((Int8.ofInt 72).toInt32)]) rfl (fun _ => rfl) ⟨Nat.le_of_ble_eq_true rfl, Nat.le_of_ble_eq_true rfl, pj_T_rcv hI rfl⟩ ⟨rfl, rfl⟩ (pj_Y_up (by decide) (ct_79x G0 hI ((Int8.ofInt 72).toInt32) ⟨by omega, by omega⟩)) ?_
  rintro _ G2 ⟨rfl, iG2, jG2, eG2, fy1⟩
  replace eG2 := eG2 _ rfl
  rw [← fy1, pj_nm_e]
  have kG2 : pj_kpt kc_119x G0 G2 := pj_kpt_t hK (pj_kpt_s jG2 rfl)
  show pj_X _ _ G2 9 [(0, .ref 1)] [] _
  refine pj_X_of (fun r h => pj_R_to (G2, 10, [(0, .ref 1)], [.ref 1], 0, 0) 10 2 (fun _ => rfl) h) ?_
  refine pj_X_of (fun r h => pj_T_gr iG2 rfl rfl rfl h) ?_
  refine pj_X_gm iG2 rfl rfl (fun q3 => ?_) (fun q3 => ?_)
  · rw [show pj_rb G2 6 1 7 = true from pj_rb_t q3, pj_cT]
    refine pj_X_of (fun r h => pj_R_to (G2, 17, [(0, .ref 1)], [.ref 1, .ref 7], 0, 0) 17 2 (fun _ => rfl) h) ?_
    refine pj_X_of (fun r h => pj_T_gr iG2 rfl rfl rfl h) ?_
    refine pj_X_ca (vs := [.ref 7, .ref 2]) rfl (fun _ => rfl) ⟨Nat.le_of_ble_eq_true rfl, Nat.le_of_ble_eq_true rfl, pj_T_rcv iG2 rfl⟩ ⟨rfl, rfl⟩ (pj_Y_up (by decide) (ct_41_7x G2 iG2)) ?_
    rintro _ G5 ⟨rfl, iG5, jG5, fy4⟩
    rw [← fy4, pj_nm_e]
    have kG5 : pj_kpt kc_119x G0 G5 := pj_kpt_t kG2 (pj_kpt_s jG5 rfl)
    show pj_X _ _ G5 23 [(0, .ref 1)] [] _
    refine pj_X_of (fun r h => pj_R_to (G5, 24, [(0, .ref 1)], [.ref 1], 0, 0) 24 2 (fun _ => rfl) h) ?_
    refine pj_X_of (fun r h => pj_T_gr iG5 rfl rfl rfl h) ?_
    refine pj_X_ca (vs := [.ref 2]) rfl (fun _ => rfl) ⟨Nat.le_of_ble_eq_true rfl, Nat.le_of_ble_eq_true rfl, pj_T_rcv iG5 rfl⟩ ⟨rfl, rfl⟩ (pj_Y_up (by decide) (ct_88tx G5 iG5)) ?_
    rintro _ G7 ⟨y6, rfl, iG7, jG7, ry6, ey6, fy6⟩
    replace ey6 := ey6 _ rfl
    rw [← fy6, pj_bd_e]
    have kG7 : pj_kpt kc_119x G0 G7 := pj_kpt_t kG5 (pj_kpt_s jG7 rfl)
    show pj_X _ _ G7 30 [(0, .ref 1)] [.int y6] _
    refine pj_X_of (fun r h => pj_R_to (G7, 33, [(1, .int y6), (0, .ref 1)], [.int (Int32.ofInt (-1)), .int y6], 0, 0) 33 4 (fun _ => rfl) h) ?_
    cases b8 : pj_c1 .eq y6 (Int32.ofInt (-1)) with
    | true =>
      rw [pj_cT]
      have ub8 := pj_u_eqT b8
      refine pj_X_of (fun r h => pj_R_icT 41 rfl rfl b8 h) ?_
      refine pj_X_of (fun r h => pj_R_to (G7, 42, [(1, .int y6), (0, .ref 1)], [.ref 1], 0, 0) 42 2 (fun _ => rfl) h) ?_
      refine pj_X_of (fun r h => pj_T_gr iG7 rfl rfl rfl h) ?_
      refine pj_X_ca (vs := [.ref 6]) rfl (fun _ => rfl) ⟨Nat.le_of_ble_eq_true rfl, Nat.le_of_ble_eq_true rfl, pj_T_rcv iG7 rfl⟩ ⟨rfl, rfl⟩ (pj_Y_up (by decide) (ct_90x G7 iG7)) ?_
      rintro _ G10 ⟨rfl, iG10, jG10, fy9⟩
      rw [← fy9, pj_nm_e]
      have kG10 : pj_kpt kc_119x G0 G10 := pj_kpt_t kG7 (pj_kpt_s jG10 rfl)
      show pj_X _ _ G10 48 [(1, .int y6), (0, .ref 1)] [] _
      refine pj_X_of (fun r h => pj_R_to (G10, 49, [(1, .int y6), (0, .ref 1)], [.ref 1], 0, 0) 49 2 (fun _ => rfl) h) ?_
      refine pj_X_of (fun r h => pj_T_gr iG10 rfl rfl rfl h) ?_
      refine pj_X_ca (vs := [.ref 53]) rfl (fun _ => rfl) ⟨Nat.le_of_ble_eq_true rfl, Nat.le_of_ble_eq_true rfl, pj_T_rcv iG10 rfl⟩ ⟨rfl, rfl⟩ (pj_Y_up (by decide) (ct_37x G10 iG10)) ?_
      rintro _ G12 ⟨rfl, iG12, jG12, fy11⟩
      rw [← fy11, pj_nm_e]
      have kG12 : pj_kpt kc_119x G0 G12 := pj_kpt_t kG10 (pj_kpt_s jG12 rfl)
      show pj_X _ _ G12 55 [(1, .int y6), (0, .ref 1)] [] _
      refine pj_X_of (fun r h => pj_R_to (G12, 56, [(1, .int y6), (0, .ref 1)], [.ref 1], 0, 0) 56 2 (fun _ => rfl) h) ?_
      refine pj_X_of (fun r h => pj_T_gr iG12 rfl rfl rfl h) ?_
      refine pj_X_gm iG12 rfl rfl (fun q13 => ?_) (fun q13 => ?_)
      · rw [show pj_rb G12 6 0 7 = true from pj_rb_t q13, pj_cT]
        refine pj_X_of (fun r h => pj_T_gi iG12 rfl rfl h) ?_
        show pj_X _ _ G12 65 [(1, .int y6), (0, .ref 1)] [.int (pj_fi G12 7 1)] _
        obtain ⟨y14, hy14⟩ : ∃ z : Int32, z = pj_fi G12 7 1 := ⟨_, rfl⟩
        refine pj_X_eqi hy14.symm ?_
        rw [← hy14, pj_nm_e]
        have ey14 : (pj_fi G12 7 1).toInt = y14.toInt := by rw [hy14]
        have ry14 : (0 : Int) ≤ y14.toInt ∧ y14.toInt ≤ 10 := by rw [hy14]; exact iG12.2.1 7 1 (0, 10) rfl
        exact pj_X_rt rfl rfl ⟨_, rfl, iG12, kG12, pj_i32 _, rfl⟩
      · rw [show pj_rb G12 6 0 7 = false from pj_rb_f q13 rfl, pj_cF]
        refine pj_X_of (fun r h => pj_T_gi iG12 rfl rfl h) ?_
        show pj_X _ _ G12 65 [(1, .int y6), (0, .ref 1)] [.int (pj_fi G12 14 1)] _
        obtain ⟨y15, hy15⟩ : ∃ z : Int32, z = pj_fi G12 14 1 := ⟨_, rfl⟩
        refine pj_X_eqi hy15.symm ?_
        rw [← hy15, pj_nm_e]
        have ey15 : (pj_fi G12 14 1).toInt = y15.toInt := by rw [hy15]
        have ry15 : (0 : Int) ≤ y15.toInt ∧ y15.toInt ≤ 10 := by rw [hy15]; exact iG12.2.1 14 1 (0, 10) rfl
        exact pj_X_rt rfl rfl ⟨_, rfl, iG12, kG12, pj_i32 _, rfl⟩
    | false =>
      rw [pj_cF]
      have ub8 := pj_u_eqF b8
      refine pj_X_of (fun r h => pj_R_icF rfl b8 h) ?_
      refine pj_X_of (fun r h => pj_R_to (G7, 37, [(1, .int y6), (0, .ref 1)], [.int y6], 0, 0) 37 2 (fun _ => rfl) h) ?_
      refine pj_X_ca (vs := [.int y6]) rfl (fun _ => rfl) ⟨Nat.le_of_ble_eq_true rfl, Nat.le_of_ble_eq_true rfl, rfl⟩ ⟨rfl, rfl⟩ (pj_Y_up (by decide) (ct_162x G7 iG7 y6)) ?_
      rintro _ _ ⟨y16, rfl, rfl, ry16, fy16⟩
      rw [← fy16, pj_nm_e]
      show pj_X _ _ G7 40 [(1, .int y6), (0, .ref 1)] [.int y16] _
      exact pj_X_rt rfl rfl ⟨_, rfl, iG7, kG7, pj_i32 _, rfl⟩
  · rw [show pj_rb G2 6 1 7 = false from pj_rb_f q3 rfl, pj_cF]
    refine pj_X_of (fun r h => pj_R_to (G2, 17, [(0, .ref 1)], [.ref 1, .ref 14], 0, 0) 17 2 (fun _ => rfl) h) ?_
    refine pj_X_of (fun r h => pj_T_gr iG2 rfl rfl rfl h) ?_
    refine pj_X_ca (vs := [.ref 14, .ref 2]) rfl (fun _ => rfl) ⟨Nat.le_of_ble_eq_true rfl, Nat.le_of_ble_eq_true rfl, pj_T_rcv iG2 rfl⟩ ⟨rfl, rfl⟩ (pj_Y_up (by decide) (ct_41_14x G2 iG2)) ?_
    rintro _ G18 ⟨rfl, iG18, jG18, fy17⟩
    rw [← fy17, pj_nm_e]
    have kG18 : pj_kpt kc_119x G0 G18 := pj_kpt_t kG2 (pj_kpt_s jG18 rfl)
    show pj_X _ _ G18 23 [(0, .ref 1)] [] _
    refine pj_X_of (fun r h => pj_R_to (G18, 24, [(0, .ref 1)], [.ref 1], 0, 0) 24 2 (fun _ => rfl) h) ?_
    refine pj_X_of (fun r h => pj_T_gr iG18 rfl rfl rfl h) ?_
    refine pj_X_ca (vs := [.ref 2]) rfl (fun _ => rfl) ⟨Nat.le_of_ble_eq_true rfl, Nat.le_of_ble_eq_true rfl, pj_T_rcv iG18 rfl⟩ ⟨rfl, rfl⟩ (pj_Y_up (by decide) (ct_88tx G18 iG18)) ?_
    rintro _ G20 ⟨y19, rfl, iG20, jG20, ry19, ey19, fy19⟩
    replace ey19 := ey19 _ rfl
    rw [← fy19, pj_bd_e]
    have kG20 : pj_kpt kc_119x G0 G20 := pj_kpt_t kG18 (pj_kpt_s jG20 rfl)
    show pj_X _ _ G20 30 [(0, .ref 1)] [.int y19] _
    refine pj_X_of (fun r h => pj_R_to (G20, 33, [(1, .int y19), (0, .ref 1)], [.int (Int32.ofInt (-1)), .int y19], 0, 0) 33 4 (fun _ => rfl) h) ?_
    cases b21 : pj_c1 .eq y19 (Int32.ofInt (-1)) with
    | true =>
      rw [pj_cT]
      have ub21 := pj_u_eqT b21
      refine pj_X_of (fun r h => pj_R_icT 41 rfl rfl b21 h) ?_
      refine pj_X_of (fun r h => pj_R_to (G20, 42, [(1, .int y19), (0, .ref 1)], [.ref 1], 0, 0) 42 2 (fun _ => rfl) h) ?_
      refine pj_X_of (fun r h => pj_T_gr iG20 rfl rfl rfl h) ?_
      refine pj_X_ca (vs := [.ref 6]) rfl (fun _ => rfl) ⟨Nat.le_of_ble_eq_true rfl, Nat.le_of_ble_eq_true rfl, pj_T_rcv iG20 rfl⟩ ⟨rfl, rfl⟩ (pj_Y_up (by decide) (ct_90x G20 iG20)) ?_
      rintro _ G23 ⟨rfl, iG23, jG23, fy22⟩
      rw [← fy22, pj_nm_e]
      have kG23 : pj_kpt kc_119x G0 G23 := pj_kpt_t kG20 (pj_kpt_s jG23 rfl)
      show pj_X _ _ G23 48 [(1, .int y19), (0, .ref 1)] [] _
      refine pj_X_of (fun r h => pj_R_to (G23, 49, [(1, .int y19), (0, .ref 1)], [.ref 1], 0, 0) 49 2 (fun _ => rfl) h) ?_
      refine pj_X_of (fun r h => pj_T_gr iG23 rfl rfl rfl h) ?_
      refine pj_X_ca (vs := [.ref 53]) rfl (fun _ => rfl) ⟨Nat.le_of_ble_eq_true rfl, Nat.le_of_ble_eq_true rfl, pj_T_rcv iG23 rfl⟩ ⟨rfl, rfl⟩ (pj_Y_up (by decide) (ct_37x G23 iG23)) ?_
      rintro _ G25 ⟨rfl, iG25, jG25, fy24⟩
      rw [← fy24, pj_nm_e]
      have kG25 : pj_kpt kc_119x G0 G25 := pj_kpt_t kG23 (pj_kpt_s jG25 rfl)
      show pj_X _ _ G25 55 [(1, .int y19), (0, .ref 1)] [] _
      refine pj_X_of (fun r h => pj_R_to (G25, 56, [(1, .int y19), (0, .ref 1)], [.ref 1], 0, 0) 56 2 (fun _ => rfl) h) ?_
      refine pj_X_of (fun r h => pj_T_gr iG25 rfl rfl rfl h) ?_
      refine pj_X_gm iG25 rfl rfl (fun q26 => ?_) (fun q26 => ?_)
      · rw [show pj_rb G25 6 0 7 = true from pj_rb_t q26, pj_cT]
        refine pj_X_of (fun r h => pj_T_gi iG25 rfl rfl h) ?_
        show pj_X _ _ G25 65 [(1, .int y19), (0, .ref 1)] [.int (pj_fi G25 7 1)] _
        obtain ⟨y27, hy27⟩ : ∃ z : Int32, z = pj_fi G25 7 1 := ⟨_, rfl⟩
        refine pj_X_eqi hy27.symm ?_
        rw [← hy27, pj_nm_e]
        have ey27 : (pj_fi G25 7 1).toInt = y27.toInt := by rw [hy27]
        have ry27 : (0 : Int) ≤ y27.toInt ∧ y27.toInt ≤ 10 := by rw [hy27]; exact iG25.2.1 7 1 (0, 10) rfl
        exact pj_X_rt rfl rfl ⟨_, rfl, iG25, kG25, pj_i32 _, rfl⟩
      · rw [show pj_rb G25 6 0 7 = false from pj_rb_f q26 rfl, pj_cF]
        refine pj_X_of (fun r h => pj_T_gi iG25 rfl rfl h) ?_
        show pj_X _ _ G25 65 [(1, .int y19), (0, .ref 1)] [.int (pj_fi G25 14 1)] _
        obtain ⟨y28, hy28⟩ : ∃ z : Int32, z = pj_fi G25 14 1 := ⟨_, rfl⟩
        refine pj_X_eqi hy28.symm ?_
        rw [← hy28, pj_nm_e]
        have ey28 : (pj_fi G25 14 1).toInt = y28.toInt := by rw [hy28]
        have ry28 : (0 : Int) ≤ y28.toInt ∧ y28.toInt ≤ 10 := by rw [hy28]; exact iG25.2.1 14 1 (0, 10) rfl
        exact pj_X_rt rfl rfl ⟨_, rfl, iG25, kG25, pj_i32 _, rfl⟩
    | false =>
      rw [pj_cF]
      have ub21 := pj_u_eqF b21
      refine pj_X_of (fun r h => pj_R_icF rfl b21 h) ?_
      refine pj_X_of (fun r h => pj_R_to (G20, 37, [(1, .int y19), (0, .ref 1)], [.int y19], 0, 0) 37 2 (fun _ => rfl) h) ?_
      refine pj_X_ca (vs := [.int y19]) rfl (fun _ => rfl) ⟨Nat.le_of_ble_eq_true rfl, Nat.le_of_ble_eq_true rfl, rfl⟩ ⟨rfl, rfl⟩ (pj_Y_up (by decide) (ct_162x G20 iG20 y19)) ?_
      rintro _ _ ⟨y29, rfl, rfl, ry29, fy29⟩
      rw [← fy29, pj_nm_e]
      show pj_X _ _ G20 40 [(1, .int y19), (0, .ref 1)] [.int y29] _
      exact pj_X_rt rfl rfl ⟨_, rfl, iG20, kG20, pj_i32 _, rfl⟩
theorem fr_119x (G0 : pj_G) (hI : pj_Inv G0) : pj_Inv (F_119x G0).2 ∧ pj_kpt kc_119x G0 (F_119x G0).2 := by
  obtain ⟨v, G', -, y, -, i, j, r, e⟩ := ct_119x G0 hI 
  rw [← e]
  exact ⟨i, j⟩
def kc_119tx : pj_KT := ([(2, 1), (2, 2), (2, 3), (2, 4), (6, 0), (6, 1), (7, 0), (7, 1), (14, 0), (14, 1), (21, 0), (21, 5), (21, 7), (53, 2)], [2, 6, 7, 8, 9, 10, 11, 12, 13, 14, 15, 16, 17, 18, 19, 20, 21, 53, 56], [8, 9, 10, 11, 12, 13, 15, 16, 17, 18, 19, 20, 56])
noncomputable def F_119tx (G0 : pj_G) : Int32 × pj_G := pj_nm (F_79x G0 ((Int8.ofInt 72).toInt32)) (fun G4 => cond (pj_rb G4 6 1 7) (pj_nm (F_41_7x G4) (fun G10 => pj_bd (F_88tx G10) (fun y14 G15 => cond (pj_c1 .eq y14 (Int32.ofInt (-1))) (pj_nm (F_90x G15) (fun G20 => pj_nm (F_37x G20) (fun G25 => cond (pj_rb G25 6 0 7) (pj_nm (pj_fi G25 7 1) (fun y29 => (y29, G25))) (pj_nm (pj_fi G25 14 1) (fun y31 => (y31, G25)))))) (pj_nm (F_162x G15 y14) (fun y34 => (y34, G15)))))) (pj_nm (F_41_14x G4) (fun G38 => pj_bd (F_88tx G38) (fun y42 G43 => cond (pj_c1 .eq y42 (Int32.ofInt (-1))) (pj_nm (F_90x G43) (fun G48 => pj_nm (F_37x G48) (fun G53 => cond (pj_rb G53 6 0 7) (pj_nm (pj_fi G53 7 1) (fun y57 => (y57, G53))) (pj_nm (pj_fi G53 14 1) (fun y59 => (y59, G53)))))) (pj_nm (F_162x G43 y42) (fun y62 => (y62, G43)))))))
theorem F_119tx_e (G0 : pj_G) : F_119tx G0 = pj_nm (F_79x G0 ((Int8.ofInt 72).toInt32)) (fun G4 => cond (pj_rb G4 6 1 7) (pj_nm (F_41_7x G4) (fun G10 => pj_bd (F_88tx G10) (fun y14 G15 => cond (pj_c1 .eq y14 (Int32.ofInt (-1))) (pj_nm (F_90x G15) (fun G20 => pj_nm (F_37x G20) (fun G25 => cond (pj_rb G25 6 0 7) (pj_nm (pj_fi G25 7 1) (fun y29 => (y29, G25))) (pj_nm (pj_fi G25 14 1) (fun y31 => (y31, G25)))))) (pj_nm (F_162x G15 y14) (fun y34 => (y34, G15)))))) (pj_nm (F_41_14x G4) (fun G38 => pj_bd (F_88tx G38) (fun y42 G43 => cond (pj_c1 .eq y42 (Int32.ofInt (-1))) (pj_nm (F_90x G43) (fun G48 => pj_nm (F_37x G48) (fun G53 => cond (pj_rb G53 6 0 7) (pj_nm (pj_fi G53 7 1) (fun y57 => (y57, G53))) (pj_nm (pj_fi G53 14 1) (fun y59 => (y59, G53)))))) (pj_nm (F_162x G43 y42) (fun y62 => (y62, G43))))))) := rfl
theorem ct_119tx (G0 : pj_G) (hI : pj_Inv G0) : pj_Y 5 119 [.ref 1] G0 (fun v' G' => ∃ y : Int32, v' = some (.int y) ∧ pj_Inv G' ∧ pj_kpt kc_119tx G0 G' ∧ ((-2147483648 : Int) ≤ y.toInt ∧ y.toInt ≤ 2147483647) ∧ ((pj_fi G' 2 1).toInt = 0) ∧ ((y, G') = F_119tx G0)) := by
  have c0_ : ((Int8.ofInt 72).toInt32).toInt = 72 := by decide
  have c1_ : (Int32.ofInt (-1)).toInt = -1 := by decide
  refine pj_Y_X (M := pj_m119) rfl rfl (Nat.le_of_ble_eq_true rfl) ?_
  have hK : pj_kpt kc_119tx G0 G0 := pj_kpt_r _ _
  show pj_X _ _ G0 0 [(0, .ref 1)] [] _
  rw [F_119tx_e]
  obtain ⟨y1, hy1⟩ : ∃ z : Int32, z = pj_fi G0 2 1 := ⟨_, rfl⟩
  have ey1 : (pj_fi G0 2 1).toInt = y1.toInt := by rw [hy1]
  have ry1 : (0 : Int) ≤ y1.toInt ∧ y1.toInt ≤ 80 := by rw [hy1]; exact hI.2.1 2 1 (0, 80) rfl
  refine pj_X_of (fun r h => pj_R_to (G0, 1, [(0, .ref 1)], [.ref 1], 0, 0) 1 2 (fun _ => rfl) h) ?_
  refine pj_X_of (fun r h => pj_T_gr hI rfl rfl rfl h) ?_
  refine pj_X_of (fun r h => pj_R_to (G0, 6, [(0, .ref 1)], [.int ((Int8.ofInt 72).toInt32), .ref 2], 0, 0) 6 2 (fun _ => rfl) h) ?_
  have q2 : (pj_fi G0 2 1).toInt = y1.toInt := by rw [show pj_fi G0 2 1 = y1 from hy1.symm]
  refine pj_X_ca (vs := [.ref 2, .int ((Int8.ofInt 72).toInt32)]) rfl (fun _ => rfl) ⟨Nat.le_of_ble_eq_true rfl, Nat.le_of_ble_eq_true rfl, pj_T_rcv hI rfl⟩ ⟨rfl, rfl⟩ (pj_Y_up (by decide) (ct_79x G0 hI ((Int8.ofInt 72).toInt32) ⟨by omega, by omega⟩)) ?_
  rintro _ G4 ⟨rfl, iG4, jG4, eG4, fy3⟩
  replace eG4 := eG4 _ rfl
  rw [← fy3, pj_nm_e]
  have kG4 : pj_kpt kc_119tx G0 G4 := pj_kpt_t hK (pj_kpt_s jG4 rfl)
  have q5 : (pj_fi G4 2 1).toInt = (pj_fi G0 2 1).toInt := by rw [jG4.1 (2, 1) (by decide)]
  obtain ⟨y6, hy6⟩ : ∃ z : Int32, z = pj_fi G4 2 1 := ⟨_, rfl⟩
  have ey6 : (pj_fi G4 2 1).toInt = y6.toInt := by rw [hy6]
  have ry6 : (0 : Int) ≤ y6.toInt ∧ y6.toInt ≤ 80 := by rw [hy6]; exact iG4.2.1 2 1 (0, 80) rfl
  show pj_X _ _ G4 9 [(0, .ref 1)] [] _
  refine pj_X_of (fun r h => pj_R_to (G4, 10, [(0, .ref 1)], [.ref 1], 0, 0) 10 2 (fun _ => rfl) h) ?_
  refine pj_X_of (fun r h => pj_T_gr iG4 rfl rfl rfl h) ?_
  refine pj_X_gm iG4 rfl rfl (fun q7 => ?_) (fun q7 => ?_)
  · rw [show pj_rb G4 6 1 7 = true from pj_rb_t q7, pj_cT]
    refine pj_X_of (fun r h => pj_R_to (G4, 17, [(0, .ref 1)], [.ref 1, .ref 7], 0, 0) 17 2 (fun _ => rfl) h) ?_
    refine pj_X_of (fun r h => pj_T_gr iG4 rfl rfl rfl h) ?_
    have q8 : (pj_fi G4 2 1).toInt = y6.toInt := by rw [show pj_fi G4 2 1 = y6 from hy6.symm]
    refine pj_X_ca (vs := [.ref 7, .ref 2]) rfl (fun _ => rfl) ⟨Nat.le_of_ble_eq_true rfl, Nat.le_of_ble_eq_true rfl, pj_T_rcv iG4 rfl⟩ ⟨rfl, rfl⟩ (pj_Y_up (by decide) (ct_41_7x G4 iG4)) ?_
    rintro _ G10 ⟨rfl, iG10, jG10, fy9⟩
    rw [← fy9, pj_nm_e]
    have kG10 : pj_kpt kc_119tx G0 G10 := pj_kpt_t kG4 (pj_kpt_s jG10 rfl)
    have q11 : (pj_fi G10 2 1).toInt = (pj_fi G4 2 1).toInt := by rw [jG10.1 (2, 1) (by decide)]
    obtain ⟨y12, hy12⟩ : ∃ z : Int32, z = pj_fi G10 2 1 := ⟨_, rfl⟩
    have ey12 : (pj_fi G10 2 1).toInt = y12.toInt := by rw [hy12]
    have ry12 : (0 : Int) ≤ y12.toInt ∧ y12.toInt ≤ 80 := by rw [hy12]; exact iG10.2.1 2 1 (0, 80) rfl
    show pj_X _ _ G10 23 [(0, .ref 1)] [] _
    refine pj_X_of (fun r h => pj_R_to (G10, 24, [(0, .ref 1)], [.ref 1], 0, 0) 24 2 (fun _ => rfl) h) ?_
    refine pj_X_of (fun r h => pj_T_gr iG10 rfl rfl rfl h) ?_
    have q13 : (pj_fi G10 2 1).toInt = y12.toInt := by rw [show pj_fi G10 2 1 = y12 from hy12.symm]
    refine pj_X_ca (vs := [.ref 2]) rfl (fun _ => rfl) ⟨Nat.le_of_ble_eq_true rfl, Nat.le_of_ble_eq_true rfl, pj_T_rcv iG10 rfl⟩ ⟨rfl, rfl⟩ (pj_Y_up (by decide) (ct_88tx G10 iG10)) ?_
    rintro _ G15 ⟨y14, rfl, iG15, jG15, ry14, ey14, fy14⟩
    replace ey14 := ey14 _ rfl
    rw [← fy14, pj_bd_e]
    have kG15 : pj_kpt kc_119tx G0 G15 := pj_kpt_t kG10 (pj_kpt_s jG15 rfl)
    obtain ⟨y16, hy16⟩ : ∃ z : Int32, z = pj_fi G15 2 1 := ⟨_, rfl⟩
    have ey16 : (pj_fi G15 2 1).toInt = y16.toInt := by rw [hy16]
    have ry16 : (0 : Int) ≤ y16.toInt ∧ y16.toInt ≤ 80 := by rw [hy16]; exact iG15.2.1 2 1 (0, 80) rfl
    show pj_X _ _ G15 30 [(0, .ref 1)] [.int y14] _
    refine pj_X_of (fun r h => pj_R_to (G15, 33, [(1, .int y14), (0, .ref 1)], [.int (Int32.ofInt (-1)), .int y14], 0, 0) 33 4 (fun _ => rfl) h) ?_
    cases b17 : pj_c1 .eq y14 (Int32.ofInt (-1)) with
    | true =>
      rw [pj_cT]
      have ub17 := pj_u_eqT b17
      refine pj_X_of (fun r h => pj_R_icT 41 rfl rfl b17 h) ?_
      refine pj_X_of (fun r h => pj_R_to (G15, 42, [(1, .int y14), (0, .ref 1)], [.ref 1], 0, 0) 42 2 (fun _ => rfl) h) ?_
      refine pj_X_of (fun r h => pj_T_gr iG15 rfl rfl rfl h) ?_
      have q18 : (pj_fi G15 2 1).toInt = y16.toInt := by rw [show pj_fi G15 2 1 = y16 from hy16.symm]
      refine pj_X_ca (vs := [.ref 6]) rfl (fun _ => rfl) ⟨Nat.le_of_ble_eq_true rfl, Nat.le_of_ble_eq_true rfl, pj_T_rcv iG15 rfl⟩ ⟨rfl, rfl⟩ (pj_Y_up (by decide) (ct_90x G15 iG15)) ?_
      rintro _ G20 ⟨rfl, iG20, jG20, fy19⟩
      rw [← fy19, pj_nm_e]
      have kG20 : pj_kpt kc_119tx G0 G20 := pj_kpt_t kG15 (pj_kpt_s jG20 rfl)
      have q21 : (pj_fi G20 2 1).toInt = (pj_fi G15 2 1).toInt := by rw [jG20.1 (2, 1) (by decide)]
      obtain ⟨y22, hy22⟩ : ∃ z : Int32, z = pj_fi G20 2 1 := ⟨_, rfl⟩
      have ey22 : (pj_fi G20 2 1).toInt = y22.toInt := by rw [hy22]
      have ry22 : (0 : Int) ≤ y22.toInt ∧ y22.toInt ≤ 80 := by rw [hy22]; exact iG20.2.1 2 1 (0, 80) rfl
      show pj_X _ _ G20 48 [(1, .int y14), (0, .ref 1)] [] _
      refine pj_X_of (fun r h => pj_R_to (G20, 49, [(1, .int y14), (0, .ref 1)], [.ref 1], 0, 0) 49 2 (fun _ => rfl) h) ?_
      refine pj_X_of (fun r h => pj_T_gr iG20 rfl rfl rfl h) ?_
      have q23 : (pj_fi G20 2 1).toInt = y22.toInt := by rw [show pj_fi G20 2 1 = y22 from hy22.symm]
      refine pj_X_ca (vs := [.ref 53]) rfl (fun _ => rfl) ⟨Nat.le_of_ble_eq_true rfl, Nat.le_of_ble_eq_true rfl, pj_T_rcv iG20 rfl⟩ ⟨rfl, rfl⟩ (pj_Y_up (by decide) (ct_37x G20 iG20)) ?_
      rintro _ G25 ⟨rfl, iG25, jG25, fy24⟩
      rw [← fy24, pj_nm_e]
      have kG25 : pj_kpt kc_119tx G0 G25 := pj_kpt_t kG20 (pj_kpt_s jG25 rfl)
      have q26 : (pj_fi G25 2 1).toInt = (pj_fi G20 2 1).toInt := by rw [jG25.1 (2, 1) (by decide)]
      obtain ⟨y27, hy27⟩ : ∃ z : Int32, z = pj_fi G25 2 1 := ⟨_, rfl⟩
      have ey27 : (pj_fi G25 2 1).toInt = y27.toInt := by rw [hy27]
      have ry27 : (0 : Int) ≤ y27.toInt ∧ y27.toInt ≤ 80 := by rw [hy27]; exact iG25.2.1 2 1 (0, 80) rfl
      show pj_X _ _ G25 55 [(1, .int y14), (0, .ref 1)] [] _
      refine pj_X_of (fun r h => pj_R_to (G25, 56, [(1, .int y14), (0, .ref 1)], [.ref 1], 0, 0) 56 2 (fun _ => rfl) h) ?_
      refine pj_X_of (fun r h => pj_T_gr iG25 rfl rfl rfl h) ?_
      refine pj_X_gm iG25 rfl rfl (fun q28 => ?_) (fun q28 => ?_)
      · rw [show pj_rb G25 6 0 7 = true from pj_rb_t q28, pj_cT]
        refine pj_X_of (fun r h => pj_T_gi iG25 rfl rfl h) ?_
        show pj_X _ _ G25 65 [(1, .int y14), (0, .ref 1)] [.int (pj_fi G25 7 1)] _
        obtain ⟨y29, hy29⟩ : ∃ z : Int32, z = pj_fi G25 7 1 := ⟨_, rfl⟩
        refine pj_X_eqi hy29.symm ?_
        rw [← hy29, pj_nm_e]
        have ey29 : (pj_fi G25 7 1).toInt = y29.toInt := by rw [hy29]
        have ry29 : (0 : Int) ≤ y29.toInt ∧ y29.toInt ≤ 10 := by rw [hy29]; exact iG25.2.1 7 1 (0, 10) rfl
        have q30 : (pj_fi G25 2 1).toInt = y27.toInt := by rw [show pj_fi G25 2 1 = y27 from hy27.symm]
        exact pj_X_rt rfl rfl ⟨_, rfl, iG25, kG25, pj_i32 _, by omega, rfl⟩
      · rw [show pj_rb G25 6 0 7 = false from pj_rb_f q28 rfl, pj_cF]
        refine pj_X_of (fun r h => pj_T_gi iG25 rfl rfl h) ?_
        show pj_X _ _ G25 65 [(1, .int y14), (0, .ref 1)] [.int (pj_fi G25 14 1)] _
        obtain ⟨y31, hy31⟩ : ∃ z : Int32, z = pj_fi G25 14 1 := ⟨_, rfl⟩
        refine pj_X_eqi hy31.symm ?_
        rw [← hy31, pj_nm_e]
        have ey31 : (pj_fi G25 14 1).toInt = y31.toInt := by rw [hy31]
        have ry31 : (0 : Int) ≤ y31.toInt ∧ y31.toInt ≤ 10 := by rw [hy31]; exact iG25.2.1 14 1 (0, 10) rfl
        have q32 : (pj_fi G25 2 1).toInt = y27.toInt := by rw [show pj_fi G25 2 1 = y27 from hy27.symm]
        exact pj_X_rt rfl rfl ⟨_, rfl, iG25, kG25, pj_i32 _, by omega, rfl⟩
    | false =>
      rw [pj_cF]
      have ub17 := pj_u_eqF b17
      refine pj_X_of (fun r h => pj_R_icF rfl b17 h) ?_
      refine pj_X_of (fun r h => pj_R_to (G15, 37, [(1, .int y14), (0, .ref 1)], [.int y14], 0, 0) 37 2 (fun _ => rfl) h) ?_
      have q33 : (pj_fi G15 2 1).toInt = y16.toInt := by rw [show pj_fi G15 2 1 = y16 from hy16.symm]
      refine pj_X_ca (vs := [.int y14]) rfl (fun _ => rfl) ⟨Nat.le_of_ble_eq_true rfl, Nat.le_of_ble_eq_true rfl, rfl⟩ ⟨rfl, rfl⟩ (pj_Y_up (by decide) (ct_162x G15 iG15 y14)) ?_
      rintro _ _ ⟨y34, rfl, rfl, ry34, fy34⟩
      rw [← fy34, pj_nm_e]
      show pj_X _ _ G15 40 [(1, .int y14), (0, .ref 1)] [.int y34] _
      have q35 : (pj_fi G15 2 1).toInt = y16.toInt := by rw [show pj_fi G15 2 1 = y16 from hy16.symm]
      exact pj_X_rt rfl rfl ⟨_, rfl, iG15, kG15, pj_i32 _, by omega, rfl⟩
  · rw [show pj_rb G4 6 1 7 = false from pj_rb_f q7 rfl, pj_cF]
    refine pj_X_of (fun r h => pj_R_to (G4, 17, [(0, .ref 1)], [.ref 1, .ref 14], 0, 0) 17 2 (fun _ => rfl) h) ?_
    refine pj_X_of (fun r h => pj_T_gr iG4 rfl rfl rfl h) ?_
    have q36 : (pj_fi G4 2 1).toInt = y6.toInt := by rw [show pj_fi G4 2 1 = y6 from hy6.symm]
    refine pj_X_ca (vs := [.ref 14, .ref 2]) rfl (fun _ => rfl) ⟨Nat.le_of_ble_eq_true rfl, Nat.le_of_ble_eq_true rfl, pj_T_rcv iG4 rfl⟩ ⟨rfl, rfl⟩ (pj_Y_up (by decide) (ct_41_14x G4 iG4)) ?_
    rintro _ G38 ⟨rfl, iG38, jG38, fy37⟩
    rw [← fy37, pj_nm_e]
    have kG38 : pj_kpt kc_119tx G0 G38 := pj_kpt_t kG4 (pj_kpt_s jG38 rfl)
    have q39 : (pj_fi G38 2 1).toInt = (pj_fi G4 2 1).toInt := by rw [jG38.1 (2, 1) (by decide)]
    obtain ⟨y40, hy40⟩ : ∃ z : Int32, z = pj_fi G38 2 1 := ⟨_, rfl⟩
    have ey40 : (pj_fi G38 2 1).toInt = y40.toInt := by rw [hy40]
    have ry40 : (0 : Int) ≤ y40.toInt ∧ y40.toInt ≤ 80 := by rw [hy40]; exact iG38.2.1 2 1 (0, 80) rfl
    show pj_X _ _ G38 23 [(0, .ref 1)] [] _
    refine pj_X_of (fun r h => pj_R_to (G38, 24, [(0, .ref 1)], [.ref 1], 0, 0) 24 2 (fun _ => rfl) h) ?_
    refine pj_X_of (fun r h => pj_T_gr iG38 rfl rfl rfl h) ?_
    have q41 : (pj_fi G38 2 1).toInt = y40.toInt := by rw [show pj_fi G38 2 1 = y40 from hy40.symm]
    refine pj_X_ca (vs := [.ref 2]) rfl (fun _ => rfl) ⟨Nat.le_of_ble_eq_true rfl, Nat.le_of_ble_eq_true rfl, pj_T_rcv iG38 rfl⟩ ⟨rfl, rfl⟩ (pj_Y_up (by decide) (ct_88tx G38 iG38)) ?_
    rintro _ G43 ⟨y42, rfl, iG43, jG43, ry42, ey42, fy42⟩
    replace ey42 := ey42 _ rfl
    rw [← fy42, pj_bd_e]
    have kG43 : pj_kpt kc_119tx G0 G43 := pj_kpt_t kG38 (pj_kpt_s jG43 rfl)
    obtain ⟨y44, hy44⟩ : ∃ z : Int32, z = pj_fi G43 2 1 := ⟨_, rfl⟩
    have ey44 : (pj_fi G43 2 1).toInt = y44.toInt := by rw [hy44]
    have ry44 : (0 : Int) ≤ y44.toInt ∧ y44.toInt ≤ 80 := by rw [hy44]; exact iG43.2.1 2 1 (0, 80) rfl
    show pj_X _ _ G43 30 [(0, .ref 1)] [.int y42] _
    refine pj_X_of (fun r h => pj_R_to (G43, 33, [(1, .int y42), (0, .ref 1)], [.int (Int32.ofInt (-1)), .int y42], 0, 0) 33 4 (fun _ => rfl) h) ?_
    cases b45 : pj_c1 .eq y42 (Int32.ofInt (-1)) with
    | true =>
      rw [pj_cT]
      have ub45 := pj_u_eqT b45
      refine pj_X_of (fun r h => pj_R_icT 41 rfl rfl b45 h) ?_
      refine pj_X_of (fun r h => pj_R_to (G43, 42, [(1, .int y42), (0, .ref 1)], [.ref 1], 0, 0) 42 2 (fun _ => rfl) h) ?_
      refine pj_X_of (fun r h => pj_T_gr iG43 rfl rfl rfl h) ?_
      have q46 : (pj_fi G43 2 1).toInt = y44.toInt := by rw [show pj_fi G43 2 1 = y44 from hy44.symm]
      refine pj_X_ca (vs := [.ref 6]) rfl (fun _ => rfl) ⟨Nat.le_of_ble_eq_true rfl, Nat.le_of_ble_eq_true rfl, pj_T_rcv iG43 rfl⟩ ⟨rfl, rfl⟩ (pj_Y_up (by decide) (ct_90x G43 iG43)) ?_
      rintro _ G48 ⟨rfl, iG48, jG48, fy47⟩
      rw [← fy47, pj_nm_e]
      have kG48 : pj_kpt kc_119tx G0 G48 := pj_kpt_t kG43 (pj_kpt_s jG48 rfl)
      have q49 : (pj_fi G48 2 1).toInt = (pj_fi G43 2 1).toInt := by rw [jG48.1 (2, 1) (by decide)]
      obtain ⟨y50, hy50⟩ : ∃ z : Int32, z = pj_fi G48 2 1 := ⟨_, rfl⟩
      have ey50 : (pj_fi G48 2 1).toInt = y50.toInt := by rw [hy50]
      have ry50 : (0 : Int) ≤ y50.toInt ∧ y50.toInt ≤ 80 := by rw [hy50]; exact iG48.2.1 2 1 (0, 80) rfl
      show pj_X _ _ G48 48 [(1, .int y42), (0, .ref 1)] [] _
      refine pj_X_of (fun r h => pj_R_to (G48, 49, [(1, .int y42), (0, .ref 1)], [.ref 1], 0, 0) 49 2 (fun _ => rfl) h) ?_
      refine pj_X_of (fun r h => pj_T_gr iG48 rfl rfl rfl h) ?_
      have q51 : (pj_fi G48 2 1).toInt = y50.toInt := by rw [show pj_fi G48 2 1 = y50 from hy50.symm]
      refine pj_X_ca (vs := [.ref 53]) rfl (fun _ => rfl) ⟨Nat.le_of_ble_eq_true rfl, Nat.le_of_ble_eq_true rfl, pj_T_rcv iG48 rfl⟩ ⟨rfl, rfl⟩ (pj_Y_up (by decide) (ct_37x G48 iG48)) ?_
      rintro _ G53 ⟨rfl, iG53, jG53, fy52⟩
      rw [← fy52, pj_nm_e]
      have kG53 : pj_kpt kc_119tx G0 G53 := pj_kpt_t kG48 (pj_kpt_s jG53 rfl)
      have q54 : (pj_fi G53 2 1).toInt = (pj_fi G48 2 1).toInt := by rw [jG53.1 (2, 1) (by decide)]
      obtain ⟨y55, hy55⟩ : ∃ z : Int32, z = pj_fi G53 2 1 := ⟨_, rfl⟩
      have ey55 : (pj_fi G53 2 1).toInt = y55.toInt := by rw [hy55]
      have ry55 : (0 : Int) ≤ y55.toInt ∧ y55.toInt ≤ 80 := by rw [hy55]; exact iG53.2.1 2 1 (0, 80) rfl
      show pj_X _ _ G53 55 [(1, .int y42), (0, .ref 1)] [] _
      refine pj_X_of (fun r h => pj_R_to (G53, 56, [(1, .int y42), (0, .ref 1)], [.ref 1], 0, 0) 56 2 (fun _ => rfl) h) ?_
      refine pj_X_of (fun r h => pj_T_gr iG53 rfl rfl rfl h) ?_
      refine pj_X_gm iG53 rfl rfl (fun q56 => ?_) (fun q56 => ?_)
      · rw [show pj_rb G53 6 0 7 = true from pj_rb_t q56, pj_cT]
        refine pj_X_of (fun r h => pj_T_gi iG53 rfl rfl h) ?_
        show pj_X _ _ G53 65 [(1, .int y42), (0, .ref 1)] [.int (pj_fi G53 7 1)] _
        obtain ⟨y57, hy57⟩ : ∃ z : Int32, z = pj_fi G53 7 1 := ⟨_, rfl⟩
        refine pj_X_eqi hy57.symm ?_
        rw [← hy57, pj_nm_e]
        have ey57 : (pj_fi G53 7 1).toInt = y57.toInt := by rw [hy57]
        have ry57 : (0 : Int) ≤ y57.toInt ∧ y57.toInt ≤ 10 := by rw [hy57]; exact iG53.2.1 7 1 (0, 10) rfl
        have q58 : (pj_fi G53 2 1).toInt = y55.toInt := by rw [show pj_fi G53 2 1 = y55 from hy55.symm]
        exact pj_X_rt rfl rfl ⟨_, rfl, iG53, kG53, pj_i32 _, by omega, rfl⟩
      · rw [show pj_rb G53 6 0 7 = false from pj_rb_f q56 rfl, pj_cF]
        refine pj_X_of (fun r h => pj_T_gi iG53 rfl rfl h) ?_
        show pj_X _ _ G53 65 [(1, .int y42), (0, .ref 1)] [.int (pj_fi G53 14 1)] _
        obtain ⟨y59, hy59⟩ : ∃ z : Int32, z = pj_fi G53 14 1 := ⟨_, rfl⟩
        refine pj_X_eqi hy59.symm ?_
        rw [← hy59, pj_nm_e]
        have ey59 : (pj_fi G53 14 1).toInt = y59.toInt := by rw [hy59]
        have ry59 : (0 : Int) ≤ y59.toInt ∧ y59.toInt ≤ 10 := by rw [hy59]; exact iG53.2.1 14 1 (0, 10) rfl
        have q60 : (pj_fi G53 2 1).toInt = y55.toInt := by rw [show pj_fi G53 2 1 = y55 from hy55.symm]
        exact pj_X_rt rfl rfl ⟨_, rfl, iG53, kG53, pj_i32 _, by omega, rfl⟩
    | false =>
      rw [pj_cF]
      have ub45 := pj_u_eqF b45
      refine pj_X_of (fun r h => pj_R_icF rfl b45 h) ?_
      refine pj_X_of (fun r h => pj_R_to (G43, 37, [(1, .int y42), (0, .ref 1)], [.int y42], 0, 0) 37 2 (fun _ => rfl) h) ?_
      have q61 : (pj_fi G43 2 1).toInt = y44.toInt := by rw [show pj_fi G43 2 1 = y44 from hy44.symm]
      refine pj_X_ca (vs := [.int y42]) rfl (fun _ => rfl) ⟨Nat.le_of_ble_eq_true rfl, Nat.le_of_ble_eq_true rfl, rfl⟩ ⟨rfl, rfl⟩ (pj_Y_up (by decide) (ct_162x G43 iG43 y42)) ?_
      rintro _ _ ⟨y62, rfl, rfl, ry62, fy62⟩
      rw [← fy62, pj_nm_e]
      show pj_X _ _ G43 40 [(1, .int y42), (0, .ref 1)] [.int y62] _
      have q63 : (pj_fi G43 2 1).toInt = y44.toInt := by rw [show pj_fi G43 2 1 = y44 from hy44.symm]
      exact pj_X_rt rfl rfl ⟨_, rfl, iG43, kG43, pj_i32 _, by omega, rfl⟩
theorem fr_119tx (G0 : pj_G) (hI : pj_Inv G0) : pj_Inv (F_119tx G0).2 ∧ pj_kpt kc_119tx G0 (F_119tx G0).2 ∧ ((pj_fi (F_119tx G0).2 2 1).toInt = 0) := by
  obtain ⟨v, G', -, y, -, i, j, r, x, e⟩ := ct_119tx G0 hI 
  rw [← e]
  exact ⟨i, j, x⟩
