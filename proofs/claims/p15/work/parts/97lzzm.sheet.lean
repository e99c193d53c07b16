noncomputable def F_98x (G0 : pj_G) (k : Int32) (w : Int32) : Int32 := cond (pj_c1 .ne k 0) (cond (pj_c1 .ne k (Int32.ofInt 1)) (pj_nm ((if w < ((Int8.ofInt 9).toInt32) then w else ((Int8.ofInt 9).toInt32))) (fun z3 => pj_nm ((if (Int32.ofInt 0) < z3 then z3 else (Int32.ofInt 0))) (fun z4 => z4))) (pj_nm (w.toInt16.toInt32) (fun z5 => pj_nm ((if z5 < ((Int8.ofInt 9).toInt32) then z5 else ((Int8.ofInt 9).toInt32))) (fun z6 => pj_nm ((if (Int32.ofInt 0) < z6 then z6 else (Int32.ofInt 0))) (fun z7 => z7))))) (pj_nm (w.toInt8.toInt32) (fun z8 => pj_nm ((if z8 < ((Int8.ofInt 9).toInt32) then z8 else ((Int8.ofInt 9).toInt32))) (fun z9 => pj_nm ((if (Int32.ofInt 0) < z9 then z9 else (Int32.ofInt 0))) (fun z10 => z10))))
theorem F_98x_e (G0 : pj_G) (k : Int32) (w : Int32) : F_98x G0 k w = cond (pj_c1 .ne k 0) (cond (pj_c1 .ne k (Int32.ofInt 1)) (pj_nm ((if w < ((Int8.ofInt 9).toInt32) then w else ((Int8.ofInt 9).toInt32))) (fun z3 => pj_nm ((if (Int32.ofInt 0) < z3 then z3 else (Int32.ofInt 0))) (fun z4 => z4))) (pj_nm (w.toInt16.toInt32) (fun z5 => pj_nm ((if z5 < ((Int8.ofInt 9).toInt32) then z5 else ((Int8.ofInt 9).toInt32))) (fun z6 => pj_nm ((if (Int32.ofInt 0) < z6 then z6 else (Int32.ofInt 0))) (fun z7 => z7))))) (pj_nm (w.toInt8.toInt32) (fun z8 => pj_nm ((if z8 < ((Int8.ofInt 9).toInt32) then z8 else ((Int8.ofInt 9).toInt32))) (fun z9 => pj_nm ((if (Int32.ofInt 0) < z9 then z9 else (Int32.ofInt 0))) (fun z10 => z10)))) := rfl
theorem ct_98x (G0 : pj_G) (hI : pj_Inv G0) (k : Int32) (w : Int32) : pj_Y 1 98 [.int k, .int w] G0 (fun v' G' => ∃ y : Int32, v' = some (.int y) ∧ G0 = G' ∧ ((0 : Int) ≤ y.toInt ∧ y.toInt ≤ 9) ∧ (y = F_98x G0 k w)) := by
  have c0_ : ((Int8.ofInt 9).toInt32).toInt = 9 := by decide
  have c1_ : (Int32.ofInt 0).toInt = 0 := by decide
  have c2_ : (Int32.ofInt 1).toInt = 1 := by decide
  refine pj_Y_X (M := pj_m98) rfl rfl (Nat.le_of_ble_eq_true rfl) ?_
  have hK : pj_kpt ([], [], []) G0 G0 := pj_kpt_r _ _
  show pj_X _ _ G0 0 [(0, .int k), (1, .int w)] [] _
  rw [F_98x_e]
  refine pj_X_of (fun r h => pj_R_to (G0, 3, [(2, .int w), (0, .int k), (1, .int w)], [.int k], 0, 0) 3 4 (fun _ => rfl) h) ?_
  cases b1 : pj_c1 .ne k 0 with
  | true =>
    rw [pj_cT]
    have ub1 := pj_u0_neT b1
    refine pj_X_of (fun r h => pj_R_ifT 12 rfl rfl b1 h) ?_
    refine pj_X_of (fun r h => pj_R_to (G0, 14, [(2, .int w), (0, .int k), (1, .int w)], [.int (Int32.ofInt 1), .int k], 0, 0) 14 3 (fun _ => rfl) h) ?_
    cases b2 : pj_c1 .ne k (Int32.ofInt 1) with
    | true =>
      rw [pj_cT]
      have ub2 := pj_u_neT b2
      refine pj_X_of (fun r h => pj_R_icT 20 rfl rfl b2 h) ?_
      refine pj_X_of (fun r h => pj_R_to (G0, 24, [(2, .int w), (0, .int k), (1, .int w)], [.int w, .int ((Int8.ofInt 9).toInt32), .int (Int32.ofInt 0)], 0, 0) 24 4 (fun _ => rfl) h) ?_
      refine pj_X_of (fun r h => pj_R_mn (v := (if w < ((Int8.ofInt 9).toInt32) then w else ((Int8.ofInt 9).toInt32))) rfl rfl rfl (Nat.le_of_ble_eq_true rfl) h) ?_
      show pj_X _ _ G0 27 [(2, .int w), (0, .int k), (1, .int w)] [.int (if w < ((Int8.ofInt 9).toInt32) then w else ((Int8.ofInt 9).toInt32)), .int (Int32.ofInt 0)] _
      obtain ⟨z3, hz3⟩ : ∃ z : Int32, z = (if w < ((Int8.ofInt 9).toInt32) then w else ((Int8.ofInt 9).toInt32)) := ⟨_, rfl⟩
      refine pj_X_eqi hz3.symm ?_
      rw [← hz3, pj_nm_e]
      have fz3_0 : z3.toInt ≤ ((Int8.ofInt 9).toInt32).toInt ∧ z3.toInt ≤ w.toInt ∧ (z3.toInt = ((Int8.ofInt 9).toInt32).toInt ∨ z3.toInt = w.toInt) := by rw [hz3]; exact pj_minI
      refine pj_X_of (fun r h => pj_R_mx (v := (if (Int32.ofInt 0) < z3 then z3 else (Int32.ofInt 0))) rfl rfl rfl (Nat.le_of_ble_eq_true rfl) h) ?_
      show pj_X _ _ G0 30 [(2, .int w), (0, .int k), (1, .int w)] [.int (if (Int32.ofInt 0) < z3 then z3 else (Int32.ofInt 0))] _
      obtain ⟨z4, hz4⟩ : ∃ z : Int32, z = (if (Int32.ofInt 0) < z3 then z3 else (Int32.ofInt 0)) := ⟨_, rfl⟩
      refine pj_X_eqi hz4.symm ?_
      rw [← hz4, pj_nm_e]
      have fz4_0 : (Int32.ofInt 0).toInt ≤ z4.toInt ∧ z3.toInt ≤ z4.toInt ∧ (z4.toInt = (Int32.ofInt 0).toInt ∨ z4.toInt = z3.toInt) := by rw [hz4]; exact pj_maxI
      exact pj_X_rt rfl rfl ⟨_, rfl, rfl, ⟨by omega, by omega⟩, rfl⟩
    | false =>
      rw [pj_cF]
      have ub2 := pj_u_neF b2
      refine pj_X_of (fun r h => pj_R_icF rfl b2 h) ?_
      refine pj_X_of (fun r h => pj_R_to (G0, 19, [(2, .int w), (0, .int k), (1, .int w)], [.int w.toInt16.toInt32], 0, 0) 19 3 (fun _ => rfl) h) ?_
      obtain ⟨z5, hz5⟩ : ∃ z : Int32, z = w.toInt16.toInt32 := ⟨_, rfl⟩
      refine pj_X_eqi hz5.symm ?_
      rw [← hz5, pj_nm_e]
      refine pj_X_of (fun r h => pj_R_to (G0, 24, [(2, .int z5), (0, .int k), (1, .int w)], [.int z5, .int ((Int8.ofInt 9).toInt32), .int (Int32.ofInt 0)], 0, 0) 24 5 (fun _ => rfl) h) ?_
      refine pj_X_of (fun r h => pj_R_mn (v := (if z5 < ((Int8.ofInt 9).toInt32) then z5 else ((Int8.ofInt 9).toInt32))) rfl rfl rfl (Nat.le_of_ble_eq_true rfl) h) ?_
      show pj_X _ _ G0 27 [(2, .int z5), (0, .int k), (1, .int w)] [.int (if z5 < ((Int8.ofInt 9).toInt32) then z5 else ((Int8.ofInt 9).toInt32)), .int (Int32.ofInt 0)] _
      obtain ⟨z6, hz6⟩ : ∃ z : Int32, z = (if z5 < ((Int8.ofInt 9).toInt32) then z5 else ((Int8.ofInt 9).toInt32)) := ⟨_, rfl⟩
      refine pj_X_eqi hz6.symm ?_
      rw [← hz6, pj_nm_e]
      have fz6_0 : z6.toInt ≤ ((Int8.ofInt 9).toInt32).toInt ∧ z6.toInt ≤ z5.toInt ∧ (z6.toInt = ((Int8.ofInt 9).toInt32).toInt ∨ z6.toInt = z5.toInt) := by rw [hz6]; exact pj_minI
      refine pj_X_of (fun r h => pj_R_mx (v := (if (Int32.ofInt 0) < z6 then z6 else (Int32.ofInt 0))) rfl rfl rfl (Nat.le_of_ble_eq_true rfl) h) ?_
      show pj_X _ _ G0 30 [(2, .int z5), (0, .int k), (1, .int w)] [.int (if (Int32.ofInt 0) < z6 then z6 else (Int32.ofInt 0))] _
      obtain ⟨z7, hz7⟩ : ∃ z : Int32, z = (if (Int32.ofInt 0) < z6 then z6 else (Int32.ofInt 0)) := ⟨_, rfl⟩
      refine pj_X_eqi hz7.symm ?_
      rw [← hz7, pj_nm_e]
      have fz7_0 : (Int32.ofInt 0).toInt ≤ z7.toInt ∧ z6.toInt ≤ z7.toInt ∧ (z7.toInt = (Int32.ofInt 0).toInt ∨ z7.toInt = z6.toInt) := by rw [hz7]; exact pj_maxI
      exact pj_X_rt rfl rfl ⟨_, rfl, rfl, ⟨by omega, by omega⟩, rfl⟩
  | false =>
    rw [pj_cF]
    have ub1 := pj_u0_neF b1
    refine pj_X_of (fun r h => pj_R_ifF rfl b1 h) ?_
    refine pj_X_of (fun r h => pj_R_to (G0, 8, [(2, .int w), (0, .int k), (1, .int w)], [.int w.toInt8.toInt32], 0, 0) 8 3 (fun _ => rfl) h) ?_
    obtain ⟨z8, hz8⟩ : ∃ z : Int32, z = w.toInt8.toInt32 := ⟨_, rfl⟩
    refine pj_X_eqi hz8.symm ?_
    rw [← hz8, pj_nm_e]
    refine pj_X_of (fun r h => pj_R_to (G0, 24, [(2, .int z8), (0, .int k), (1, .int w)], [.int z8, .int ((Int8.ofInt 9).toInt32), .int (Int32.ofInt 0)], 0, 0) 24 6 (fun _ => rfl) h) ?_
    refine pj_X_of (fun r h => pj_R_mn (v := (if z8 < ((Int8.ofInt 9).toInt32) then z8 else ((Int8.ofInt 9).toInt32))) rfl rfl rfl (Nat.le_of_ble_eq_true rfl) h) ?_
    show pj_X _ _ G0 27 [(2, .int z8), (0, .int k), (1, .int w)] [.int (if z8 < ((Int8.ofInt 9).toInt32) then z8 else ((Int8.ofInt 9).toInt32)), .int (Int32.ofInt 0)] _
    obtain ⟨z9, hz9⟩ : ∃ z : Int32, z = (if z8 < ((Int8.ofInt 9).toInt32) then z8 else ((Int8.ofInt 9).toInt32)) := ⟨_, rfl⟩
    refine pj_X_eqi hz9.symm ?_
    rw [← hz9, pj_nm_e]
    have fz9_0 : z9.toInt ≤ ((Int8.ofInt 9).toInt32).toInt ∧ z9.toInt ≤ z8.toInt ∧ (z9.toInt = ((Int8.ofInt 9).toInt32).toInt ∨ z9.toInt = z8.toInt) := by rw [hz9]; exact pj_minI
    refine pj_X_of (fun r h => pj_R_mx (v := (if (Int32.ofInt 0) < z9 then z9 else (Int32.ofInt 0))) rfl rfl rfl (Nat.le_of_ble_eq_true rfl) h) ?_
    show pj_X _ _ G0 30 [(2, .int z8), (0, .int k), (1, .int w)] [.int (if (Int32.ofInt 0) < z9 then z9 else (Int32.ofInt 0))] _
    obtain ⟨z10, hz10⟩ : ∃ z : Int32, z = (if (Int32.ofInt 0) < z9 then z9 else (Int32.ofInt 0)) := ⟨_, rfl⟩
    refine pj_X_eqi hz10.symm ?_
    rw [← hz10, pj_nm_e]
    have fz10_0 : (Int32.ofInt 0).toInt ≤ z10.toInt ∧ z9.toInt ≤ z10.toInt ∧ (z10.toInt = (Int32.ofInt 0).toInt ∨ z10.toInt = z9.toInt) := by rw [hz10]; exact pj_maxI
    exact pj_X_rt rfl rfl ⟨_, rfl, rfl, ⟨by omega, by omega⟩, rfl⟩
theorem fr_98x (G0 : pj_G) (hI : pj_Inv G0) (k : Int32) (w : Int32) : ((0 : Int) ≤ (F_98x G0 k w).toInt ∧ (F_98x G0 k w).toInt ≤ 9) := by
  obtain ⟨v, G', -, y, -, rfl, r, e⟩ := ct_98x G0 hI k w
  rw [← e]
  exact r
def kc_97x : pj_KT := ([], [24], [24])
noncomputable def L_97x (G0 : pj_G) (k : Int32) (n : Int32) (f : Int32) (sp : Int32) (fu : Nat) : Int32 → Int32 → pj_G → Int32 × pj_G := Nat.rec (motive := fun _ => Int32 → Int32 → pj_G → Int32 × pj_G) (fun _ _ G => (0, G)) (fun _ ih v5 v6 G => pj_nm (pj_fi G 21 0) (fun y1 => cond (pj_c1 .ge v6 y1) ((v5, G)) (cond (pj_c1 .ge v6 n) (pj_nm (pj_wa G 24 v6.toInt.toNat (Int32.ofInt 0)) (fun G4 => pj_nm (pj_ai G4 24 v6.toInt.toNat) (fun z5 => pj_nm (v5 + z5) (fun z6 => pj_nm (v6 + Int32.ofInt 1) (fun z7 => ih z6 z7 G4))))) (pj_nm (v6 * sp) (fun z8 => pj_nm (f + z8) (fun z9 => pj_nm (F_98x G k z9) (fun y10 => pj_nm (pj_wa G 24 v6.toInt.toNat y10) (fun G11 => pj_nm (pj_ai G11 24 v6.toInt.toNat) (fun z12 => pj_nm (v5 + z12) (fun z13 => pj_nm (v6 + Int32.ofInt 1) (fun z14 => ih z13 z14 G11))))))))))) fu
theorem L_97x_s0 (G0 : pj_G) (k : Int32) (n : Int32) (f : Int32) (sp : Int32) (fu : Nat) (v5 : Int32) (v6 : Int32) (G : pj_G) : L_97x G0 k n f sp (fu + 1) v5 v6 G = pj_nm (pj_fi G 21 0) (fun y1 => cond (pj_c1 .ge v6 y1) ((v5, G)) (cond (pj_c1 .ge v6 n) (pj_nm (pj_wa G 24 v6.toInt.toNat (Int32.ofInt 0)) (fun G4 => pj_nm (pj_ai G4 24 v6.toInt.toNat) (fun z5 => pj_nm (v5 + z5) (fun z6 => pj_nm (v6 + Int32.ofInt 1) (fun z7 => L_97x G0 k n f sp fu z6 z7 G4))))) (pj_nm (v6 * sp) (fun z8 => pj_nm (f + z8) (fun z9 => pj_nm (F_98x G k z9) (fun y10 => pj_nm (pj_wa G 24 v6.toInt.toNat y10) (fun G11 => pj_nm (pj_ai G11 24 v6.toInt.toNat) (fun z12 => pj_nm (v5 + z12) (fun z13 => pj_nm (v6 + Int32.ofInt 1) (fun z14 => L_97x G0 k n f sp fu z13 z14 G11)))))))))) := rfl
noncomputable def F_97x (G0 : pj_G) (k : Int32) (n : Int32) (f : Int32) (sp : Int32) : Int32 × pj_G := L_97x G0 k n f sp 7 (Int32.ofInt 0) (Int32.ofInt 0) G0
theorem F_97x_e (G0 : pj_G) (k : Int32) (n : Int32) (f : Int32) (sp : Int32) : F_97x G0 k n f sp = L_97x G0 k n f sp 7 (Int32.ofInt 0) (Int32.ofInt 0) G0 := rfl
theorem lp_ct_97x (G0 : pj_G) (hI0 : pj_Inv G0) (k : Int32) (n : Int32) (f : Int32) (sp : Int32) : ∀ mn : Nat, (∀ (G : pj_G) (hI : pj_Inv G) (hK : pj_kpt kc_97x G0 G) (v5 : Int32) (v6 : Int32), ((-2147483648 : Int) ≤ v5.toInt ∧ v5.toInt ≤ 2147483647) → ((0 : Int) ≤ v6.toInt ∧ v6.toInt ≤ 6) → 6 - v6.toInt < (mn : Int) → pj_X 1 pj_m97 G 6 [(0, .ref 6), (1, .int k), (2, .int n), (3, .int f), (4, .int sp), (5, .int v5), (6, .int v6)] [] (fun v' G' => ∃ y : Int32, v' = some (.int y) ∧ pj_Inv G' ∧ pj_kpt kc_97x G0 G' ∧ ((-2147483648 : Int) ≤ y.toInt ∧ y.toInt ≤ 2147483647) ∧ ((y, G') = L_97x G0 k n f sp mn v5 v6 G))) := by
  have c0_ : (Int32.ofInt 0).toInt = 0 := by decide
  have c1_ : (Int32.ofInt 1).toInt = 1 := by decide
  intro mn
  induction mn with
  | zero =>
    intro G hI hK v5 v6 rv5 rv6 hm
    exfalso
    omega
  | succ mn ih =>
    intro G hI hK v5 v6 rv5 rv6 hm
    rw [L_97x_s0]
    refine pj_X_of (fun r h => pj_R_to (G, 9, [(0, .ref 6), (1, .int k), (2, .int n), (3, .int f), (4, .int sp), (5, .int v5), (6, .int v6)], [.ref 6, .int v6], 0, 0) 9 3 (fun _ => rfl) h) ?_
    refine pj_X_of (fun r h => pj_T_gr hI rfl rfl rfl h) ?_
    refine pj_X_of (fun r h => pj_T_gi hI rfl rfl h) ?_
    show pj_X _ _ G 15 [(0, .ref 6), (1, .int k), (2, .int n), (3, .int f), (4, .int sp), (5, .int v5), (6, .int v6)] [.int (pj_fi G 21 0), .int v6] _
    obtain ⟨y1, hy1⟩ : ∃ z : Int32, z = pj_fi G 21 0 := ⟨_, rfl⟩
    refine pj_X_eqi hy1.symm ?_
    rw [← hy1, pj_nm_e]
    have ey1 : (pj_fi G 21 0).toInt = y1.toInt := by rw [hy1]
    have ry1 : (0 : Int) ≤ y1.toInt ∧ y1.toInt ≤ 6 := by rw [hy1]; exact hI.2.1 21 0 (0, 6) rfl
    cases b2 : pj_c1 .ge v6 y1 with
    | true =>
      rw [pj_cT]
      have ub2 := pj_u_geT b2
      refine pj_X_of (fun r h => pj_R_icT 70 rfl rfl b2 h) ?_
      refine pj_X_of (fun r h => pj_R_to (G, 72, [(0, .ref 6), (1, .int k), (2, .int n), (3, .int f), (4, .int sp), (5, .int v5), (6, .int v6)], [.int v5], 0, 0) 72 2 (fun _ => rfl) h) ?_
      exact pj_X_rt rfl rfl ⟨_, rfl, hI, hK, pj_i32 _, rfl⟩
    | false =>
      rw [pj_cF]
      have ub2 := pj_u_geF b2
      refine pj_X_of (fun r h => pj_R_icF rfl b2 h) ?_
      refine pj_X_of (fun r h => pj_R_to (G, 19, [(0, .ref 6), (1, .int k), (2, .int n), (3, .int f), (4, .int sp), (5, .int v5), (6, .int v6)], [.ref 6], 0, 0) 19 2 (fun _ => rfl) h) ?_
      refine pj_X_of (fun r h => pj_T_gr hI rfl rfl rfl h) ?_
      refine pj_X_of (fun r h => pj_T_gr hI rfl rfl rfl h) ?_
      refine pj_X_of (fun r h => pj_R_to (G, 30, [(0, .ref 6), (1, .int k), (2, .int n), (3, .int f), (4, .int sp), (5, .int v5), (6, .int v6)], [.int n, .int v6, .int v6, .ref 24], 0, 0) 30 4 (fun _ => rfl) h) ?_
      cases b3 : pj_c1 .ge v6 n with
      | true =>
        rw [pj_cT]
        have ub3 := pj_u_geT b3
        refine pj_X_of (fun r h => pj_R_icT 47 rfl rfl b3 h) ?_
        refine pj_X_of (fun r h => pj_R_to (G, 48, [(0, .ref 6), (1, .int k), (2, .int n), (3, .int f), (4, .int sp), (5, .int v5), (6, .int v6)], [.int (Int32.ofInt 0), .int v6, .ref 24], 0, 0) 48 2 (fun _ => rfl) h) ?_
        refine pj_X_of (fun r h => pj_T_is hI rfl rfl (by omega) (by omega) h) ?_
        show pj_X _ _ (pj_wa G 24 v6.toInt.toNat (Int32.ofInt 0)) 49 [(0, .ref 6), (1, .int k), (2, .int n), (3, .int f), (4, .int sp), (5, .int v5), (6, .int v6)] [] _
        obtain ⟨G4, hG4⟩ : ∃ H, H = pj_wa G 24 v6.toInt.toNat (Int32.ofInt 0) := ⟨_, rfl⟩
        have iG4 : pj_Inv G4 := by rw [hG4]; exact pj_Inv_wa hI rfl (fun q hq => by cases hq) (fun n hn => by cases hn)
        have kG4 : pj_kpt kc_97x G0 G4 := by rw [hG4]; exact pj_kpt_a hK rfl
        rw [← hG4]
        rw [pj_nm_e]
        refine pj_X_of (fun r h => pj_R_to (G4, 52, [(0, .ref 6), (1, .int k), (2, .int n), (3, .int f), (4, .int sp), (5, .int v5), (6, .int v6)], [.ref 6, .int v5], 0, 0) 52 3 (fun _ => rfl) h) ?_
        refine pj_X_of (fun r h => pj_T_gr iG4 rfl rfl rfl h) ?_
        refine pj_X_of (fun r h => pj_T_gr iG4 rfl rfl rfl h) ?_
        refine pj_X_of (fun r h => pj_R_to (G4, 60, [(0, .ref 6), (1, .int k), (2, .int n), (3, .int f), (4, .int sp), (5, .int v5), (6, .int v6)], [.int v6, .ref 24, .int v5], 0, 0) 60 2 (fun _ => rfl) h) ?_
        refine pj_X_of (fun r h => pj_T_il iG4 rfl rfl (by omega) (by omega) h) ?_
        show pj_X _ _ G4 61 [(0, .ref 6), (1, .int k), (2, .int n), (3, .int f), (4, .int sp), (5, .int v5), (6, .int v6)] [.int (pj_ai G4 24 v6.toInt.toNat), .int v5] _
        obtain ⟨z5, hz5⟩ : ∃ z : Int32, z = pj_ai G4 24 v6.toInt.toNat := ⟨_, rfl⟩
        refine pj_X_eqi hz5.symm ?_
        rw [← hz5, pj_nm_e]
        have ez5 : (pj_ai G4 24 v6.toInt.toNat).toInt = z5.toInt := by rw [hz5]
        refine pj_X_of (fun r h => pj_R_to (G4, 62, [(0, .ref 6), (1, .int k), (2, .int n), (3, .int f), (4, .int sp), (5, .int v5), (6, .int v6)], [.int (v5 + z5)], 0, 0) 62 2 (fun _ => rfl) h) ?_
        obtain ⟨z6, hz6⟩ : ∃ z : Int32, z = v5 + z5 := ⟨_, rfl⟩
        refine pj_X_eqi hz6.symm ?_
        rw [← hz6, pj_nm_e]
        refine pj_X_of (fun r h => pj_R_to (G4, 67, [(6, .int (v6 + Int32.ofInt 1)), (5, .int z6), (0, .ref 6), (1, .int k), (2, .int n), (3, .int f), (4, .int sp)], [], 0, 0) 67 3 (fun _ => rfl) h) ?_
        obtain ⟨z7, hz7⟩ : ∃ z : Int32, z = v6 + Int32.ofInt 1 := ⟨_, rfl⟩
        rw [← hz7]
        rw [pj_nm_e]
        have fz7_0 : z7.toInt = v6.toInt + (Int32.ofInt 1).toInt := by rw [hz7]; exact pj_addI (by have := pj_i32 v6; have := pj_i32 (Int32.ofInt 1); omega) (by have := pj_i32 v6; have := pj_i32 (Int32.ofInt 1); omega)
        refine pj_X_of (fun r h => pj_R_to (G4, 6, [(6, .int z7), (5, .int z6), (0, .ref 6), (1, .int k), (2, .int n), (3, .int f), (4, .int sp)], [], 0, 0) 6 2 (fun _ => rfl) h) ?_
        exact pj_X_sub [(0, .ref 6), (1, .int k), (2, .int n), (3, .int f), (4, .int sp), (5, .int z6), (6, .int z7)] (show List.Nodup [0, 1, 2, 3, 4, 5, 6] by decide) ⟨rfl, rfl, rfl, rfl, rfl, rfl, rfl, trivial⟩ (ih G4 iG4 kG4 z6 z7 (pj_i32 _) ⟨by omega, by omega⟩ (by omega))
      | false =>
        rw [pj_cF]
        have ub3 := pj_u_geF b3
        refine pj_X_of (fun r h => pj_R_icF rfl b3 h) ?_
        refine pj_X_of (fun r h => pj_R_to (G, 40, [(0, .ref 6), (1, .int k), (2, .int n), (3, .int f), (4, .int sp), (5, .int v5), (6, .int v6)], [.int (v6 * sp), .int f, .int k, .int v6, .ref 24], 0, 0) 40 6 (fun _ => rfl) h) ?_
        obtain ⟨z8, hz8⟩ : ∃ z : Int32, z = v6 * sp := ⟨_, rfl⟩
        refine pj_X_eqi hz8.symm ?_
        rw [← hz8, pj_nm_e]
        refine pj_X_of (fun r h => pj_R_to (G, 41, [(0, .ref 6), (1, .int k), (2, .int n), (3, .int f), (4, .int sp), (5, .int v5), (6, .int v6)], [.int (f + z8), .int k, .int v6, .ref 24], 0, 0) 41 2 (fun _ => rfl) h) ?_
        obtain ⟨z9, hz9⟩ : ∃ z : Int32, z = f + z8 := ⟨_, rfl⟩
        refine pj_X_eqi hz9.symm ?_
        rw [← hz9, pj_nm_e]
        refine pj_X_ca (vs := [.int k, .int z9]) rfl (fun _ => rfl) ⟨Nat.le_of_ble_eq_true rfl, Nat.le_of_ble_eq_true rfl, rfl⟩ ⟨rfl, rfl⟩ (pj_Y_up (by decide) (ct_98x G hI k z9)) ?_
        rintro _ _ ⟨y10, rfl, rfl, ry10, fy10⟩
        rw [← fy10, pj_nm_e]
        show pj_X _ _ G 44 [(0, .ref 6), (1, .int k), (2, .int n), (3, .int f), (4, .int sp), (5, .int v5), (6, .int v6)] [.int y10, .int v6, .ref 24] _
        refine pj_X_of (fun r h => pj_R_to (G, 48, [(0, .ref 6), (1, .int k), (2, .int n), (3, .int f), (4, .int sp), (5, .int v5), (6, .int v6)], [.int y10, .int v6, .ref 24], 0, 0) 48 2 (fun _ => rfl) h) ?_
        refine pj_X_of (fun r h => pj_T_is hI rfl rfl (by omega) (by omega) h) ?_
        show pj_X _ _ (pj_wa G 24 v6.toInt.toNat y10) 49 [(0, .ref 6), (1, .int k), (2, .int n), (3, .int f), (4, .int sp), (5, .int v5), (6, .int v6)] [] _
        obtain ⟨G11, hG11⟩ : ∃ H, H = pj_wa G 24 v6.toInt.toNat y10 := ⟨_, rfl⟩
        have iG11 : pj_Inv G11 := by rw [hG11]; exact pj_Inv_wa hI rfl (fun q hq => by cases hq) (fun n hn => by cases hn)
        have kG11 : pj_kpt kc_97x G0 G11 := by rw [hG11]; exact pj_kpt_a hK rfl
        rw [← hG11]
        rw [pj_nm_e]
        refine pj_X_of (fun r h => pj_R_to (G11, 52, [(0, .ref 6), (1, .int k), (2, .int n), (3, .int f), (4, .int sp), (5, .int v5), (6, .int v6)], [.ref 6, .int v5], 0, 0) 52 3 (fun _ => rfl) h) ?_
        refine pj_X_of (fun r h => pj_T_gr iG11 rfl rfl rfl h) ?_
        refine pj_X_of (fun r h => pj_T_gr iG11 rfl rfl rfl h) ?_
        refine pj_X_of (fun r h => pj_R_to (G11, 60, [(0, .ref 6), (1, .int k), (2, .int n), (3, .int f), (4, .int sp), (5, .int v5), (6, .int v6)], [.int v6, .ref 24, .int v5], 0, 0) 60 2 (fun _ => rfl) h) ?_
        refine pj_X_of (fun r h => pj_T_il iG11 rfl rfl (by omega) (by omega) h) ?_
        show pj_X _ _ G11 61 [(0, .ref 6), (1, .int k), (2, .int n), (3, .int f), (4, .int sp), (5, .int v5), (6, .int v6)] [.int (pj_ai G11 24 v6.toInt.toNat), .int v5] _
        obtain ⟨z12, hz12⟩ : ∃ z : Int32, z = pj_ai G11 24 v6.toInt.toNat := ⟨_, rfl⟩
        refine pj_X_eqi hz12.symm ?_
        rw [← hz12, pj_nm_e]
        have ez12 : (pj_ai G11 24 v6.toInt.toNat).toInt = z12.toInt := by rw [hz12]
        refine pj_X_of (fun r h => pj_R_to (G11, 62, [(0, .ref 6), (1, .int k), (2, .int n), (3, .int f), (4, .int sp), (5, .int v5), (6, .int v6)], [.int (v5 + z12)], 0, 0) 62 2 (fun _ => rfl) h) ?_
        obtain ⟨z13, hz13⟩ : ∃ z : Int32, z = v5 + z12 := ⟨_, rfl⟩
        refine pj_X_eqi hz13.symm ?_
        rw [← hz13, pj_nm_e]
        refine pj_X_of (fun r h => pj_R_to (G11, 67, [(6, .int (v6 + Int32.ofInt 1)), (5, .int z13), (0, .ref 6), (1, .int k), (2, .int n), (3, .int f), (4, .int sp)], [], 0, 0) 67 3 (fun _ => rfl) h) ?_
        obtain ⟨z14, hz14⟩ : ∃ z : Int32, z = v6 + Int32.ofInt 1 := ⟨_, rfl⟩
        rw [← hz14]
        rw [pj_nm_e]
        have fz14_0 : z14.toInt = v6.toInt + (Int32.ofInt 1).toInt := by rw [hz14]; exact pj_addI (by have := pj_i32 v6; have := pj_i32 (Int32.ofInt 1); omega) (by have := pj_i32 v6; have := pj_i32 (Int32.ofInt 1); omega)
        refine pj_X_of (fun r h => pj_R_to (G11, 6, [(6, .int z14), (5, .int z13), (0, .ref 6), (1, .int k), (2, .int n), (3, .int f), (4, .int sp)], [], 0, 0) 6 2 (fun _ => rfl) h) ?_
        exact pj_X_sub [(0, .ref 6), (1, .int k), (2, .int n), (3, .int f), (4, .int sp), (5, .int z13), (6, .int z14)] (show List.Nodup [0, 1, 2, 3, 4, 5, 6] by decide) ⟨rfl, rfl, rfl, rfl, rfl, rfl, rfl, trivial⟩ (ih G11 iG11 kG11 z13 z14 (pj_i32 _) ⟨by omega, by omega⟩ (by omega))
theorem ct_97x (G0 : pj_G) (hI : pj_Inv G0) (k : Int32) (n : Int32) (f : Int32) (sp : Int32) : pj_Y 2 97 [.ref 6, .int k, .int n, .int f, .int sp] G0 (fun v' G' => ∃ y : Int32, v' = some (.int y) ∧ pj_Inv G' ∧ pj_kpt kc_97x G0 G' ∧ ((-2147483648 : Int) ≤ y.toInt ∧ y.toInt ≤ 2147483647) ∧ ((y, G') = F_97x G0 k n f sp)) := by
  have c0_ : (Int32.ofInt 0).toInt = 0 := by decide
  have c1_ : (Int32.ofInt 1).toInt = 1 := by decide
  refine pj_Y_X (M := pj_m97) rfl rfl (Nat.le_of_ble_eq_true rfl) ?_
  have hK : pj_kpt kc_97x G0 G0 := pj_kpt_r _ _
  show pj_X _ _ G0 0 [(0, .ref 6), (1, .int k), (2, .int n), (3, .int f), (4, .int sp)] [] _
  rw [F_97x_e]
  refine pj_X_of (fun r h => pj_R_to (G0, 6, [(6, .int (Int32.ofInt 0)), (5, .int (Int32.ofInt 0)), (0, .ref 6), (1, .int k), (2, .int n), (3, .int f), (4, .int sp)], [], 0, 0) 6 5 (fun _ => rfl) h) ?_
  exact pj_X_sub [(0, .ref 6), (1, .int k), (2, .int n), (3, .int f), (4, .int sp), (5, .int (Int32.ofInt 0)), (6, .int (Int32.ofInt 0))] (show List.Nodup [0, 1, 2, 3, 4, 5, 6] by decide) ⟨rfl, rfl, rfl, rfl, rfl, rfl, rfl, trivial⟩ ((lp_ct_97x G0 hI k n f sp  7) G0 hI hK (Int32.ofInt 0) (Int32.ofInt 0) (pj_i32 _) ⟨by omega, by omega⟩ (by omega))
theorem fr_97x (G0 : pj_G) (hI : pj_Inv G0) (k : Int32) (n : Int32) (f : Int32) (sp : Int32) : pj_Inv (F_97x G0 k n f sp).2 ∧ pj_kpt kc_97x G0 (F_97x G0 k n f sp).2 := by
  obtain ⟨v, G', -, y, -, i, j, r, e⟩ := ct_97x G0 hI k n f sp
  rw [← e]
  exact ⟨i, j⟩
def kc_126x : pj_KT := ([], [24], [24])
noncomputable def F_126x (G0 : pj_G) (k : Int32) (n : Int32) (f : Int32) (sp : Int32) : Int32 × pj_G := cond (pj_c1 .lt k 0) ((Int32.ofInt (-1), G0)) (cond (pj_c1 .gt k (Int32.ofInt 3)) ((Int32.ofInt (-1), G0)) (cond (pj_c1 .le n ((Int8.ofInt 6).toInt32)) (cond (pj_c1 .ne k (Int32.ofInt 3)) (cond (pj_c1 .ge n 0) (pj_bd (F_97x G0 k n f sp) (fun y6 G7 => (y6, G7))) (((Int8.ofInt (-2)).toInt32, G0))) (pj_bd (F_97x G0 k (Int32.ofInt 0) (Int32.ofInt 0) (Int32.ofInt 0)) (fun y8 G9 => ((Int8.ofInt (-3)).toInt32, G9)))) ((Int32.ofInt (-1), G0))))
theorem F_126x_e (G0 : pj_G) (k : Int32) (n : Int32) (f : Int32) (sp : Int32) : F_126x G0 k n f sp = cond (pj_c1 .lt k 0) ((Int32.ofInt (-1), G0)) (cond (pj_c1 .gt k (Int32.ofInt 3)) ((Int32.ofInt (-1), G0)) (cond (pj_c1 .le n ((Int8.ofInt 6).toInt32)) (cond (pj_c1 .ne k (Int32.ofInt 3)) (cond (pj_c1 .ge n 0) (pj_bd (F_97x G0 k n f sp) (fun y6 G7 => (y6, G7))) (((Int8.ofInt (-2)).toInt32, G0))) (pj_bd (F_97x G0 k (Int32.ofInt 0) (Int32.ofInt 0) (Int32.ofInt 0)) (fun y8 G9 => ((Int8.ofInt (-3)).toInt32, G9)))) ((Int32.ofInt (-1), G0)))) := rfl
theorem ct_126x (G0 : pj_G) (hI : pj_Inv G0) (k : Int32) (n : Int32) (f : Int32) (sp : Int32) : pj_Y 3 126 [.ref 1, .int k, .int n, .int f, .int sp] G0 (fun v' G' => ∃ y : Int32, v' = some (.int y) ∧ pj_Inv G' ∧ pj_kpt kc_126x G0 G' ∧ ((-2147483648 : Int) ≤ y.toInt ∧ y.toInt ≤ 2147483647) ∧ ((y, G') = F_126x G0 k n f sp)) := by
  have c0_ : ((Int8.ofInt (-2)).toInt32).toInt = -2 := by decide
  have c1_ : ((Int8.ofInt (-3)).toInt32).toInt = -3 := by decide
  have c2_ : ((Int8.ofInt 6).toInt32).toInt = 6 := by decide
  have c3_ : (Int32.ofInt (-1)).toInt = -1 := by decide
  have c4_ : (Int32.ofInt 0).toInt = 0 := by decide
  have c5_ : (Int32.ofInt 3).toInt = 3 := by decide
  refine pj_Y_X (M := pj_m126) rfl rfl (Nat.le_of_ble_eq_true rfl) ?_
  have hK : pj_kpt kc_126x G0 G0 := pj_kpt_r _ _
  show pj_X _ _ G0 0 [(0, .ref 1), (1, .int k), (2, .int n), (3, .int f), (4, .int sp)] [] _
  rw [F_126x_e]
  refine pj_X_of (fun r h => pj_R_to (G0, 1, [(0, .ref 1), (1, .int k), (2, .int n), (3, .int f), (4, .int sp)], [.int k], 0, 0) 1 2 (fun _ => rfl) h) ?_
  cases b1 : pj_c1 .lt k 0 with
  | true =>
    rw [pj_cT]
    have ub1 := pj_u0_ltT b1
    refine pj_X_of (fun r h => pj_R_ifT 15 rfl rfl b1 h) ?_
    refine pj_X_of (fun r h => pj_R_to (G0, 16, [(0, .ref 1), (1, .int k), (2, .int n), (3, .int f), (4, .int sp)], [.int (Int32.ofInt (-1))], 0, 0) 16 2 (fun _ => rfl) h) ?_
    exact pj_X_rt rfl rfl ⟨_, rfl, hI, hK, pj_i32 _, rfl⟩
  | false =>
    rw [pj_cF]
    have ub1 := pj_u0_ltF b1
    refine pj_X_of (fun r h => pj_R_ifF rfl b1 h) ?_
    refine pj_X_of (fun r h => pj_R_to (G0, 6, [(0, .ref 1), (1, .int k), (2, .int n), (3, .int f), (4, .int sp)], [.int (Int32.ofInt 3), .int k], 0, 0) 6 3 (fun _ => rfl) h) ?_
    cases b2 : pj_c1 .gt k (Int32.ofInt 3) with
    | true =>
      rw [pj_cT]
      have ub2 := pj_u_gtT b2
      refine pj_X_of (fun r h => pj_R_icT 15 rfl rfl b2 h) ?_
      refine pj_X_of (fun r h => pj_R_to (G0, 16, [(0, .ref 1), (1, .int k), (2, .int n), (3, .int f), (4, .int sp)], [.int (Int32.ofInt (-1))], 0, 0) 16 2 (fun _ => rfl) h) ?_
      exact pj_X_rt rfl rfl ⟨_, rfl, hI, hK, pj_i32 _, rfl⟩
    | false =>
      rw [pj_cF]
      have ub2 := pj_u_gtF b2
      refine pj_X_of (fun r h => pj_R_icF rfl b2 h) ?_
      refine pj_X_of (fun r h => pj_R_to (G0, 12, [(0, .ref 1), (1, .int k), (2, .int n), (3, .int f), (4, .int sp)], [.int ((Int8.ofInt 6).toInt32), .int n], 0, 0) 12 3 (fun _ => rfl) h) ?_
      cases b3 : pj_c1 .le n ((Int8.ofInt 6).toInt32) with
      | true =>
        rw [pj_cT]
        have ub3 := pj_u_leT b3
        refine pj_X_of (fun r h => pj_R_icT 17 rfl rfl b3 h) ?_
        refine pj_X_of (fun r h => pj_R_to (G0, 19, [(0, .ref 1), (1, .int k), (2, .int n), (3, .int f), (4, .int sp)], [.int (Int32.ofInt 3), .int k], 0, 0) 19 3 (fun _ => rfl) h) ?_
        cases b4 : pj_c1 .ne k (Int32.ofInt 3) with
        | true =>
          rw [pj_cT]
          have ub4 := pj_u_neT b4
          refine pj_X_of (fun r h => pj_R_icT 37 rfl rfl b4 h) ?_
          refine pj_X_of (fun r h => pj_R_to (G0, 38, [(0, .ref 1), (1, .int k), (2, .int n), (3, .int f), (4, .int sp)], [.int n], 0, 0) 38 2 (fun _ => rfl) h) ?_
          cases b5 : pj_c1 .ge n 0 with
          | true =>
            rw [pj_cT]
            have ub5 := pj_u0_geT b5
            refine pj_X_of (fun r h => pj_R_ifT 44 rfl rfl b5 h) ?_
            refine pj_X_of (fun r h => pj_R_to (G0, 45, [(0, .ref 1), (1, .int k), (2, .int n), (3, .int f), (4, .int sp)], [.ref 1], 0, 0) 45 2 (fun _ => rfl) h) ?_
            refine pj_X_of (fun r h => pj_T_gr hI rfl rfl rfl h) ?_
            refine pj_X_of (fun r h => pj_R_to (G0, 53, [(0, .ref 1), (1, .int k), (2, .int n), (3, .int f), (4, .int sp)], [.int sp, .int f, .int n, .int k, .ref 6], 0, 0) 53 5 (fun _ => rfl) h) ?_
            refine pj_X_ca (vs := [.ref 6, .int k, .int n, .int f, .int sp]) rfl (fun _ => rfl) ⟨Nat.le_of_ble_eq_true rfl, Nat.le_of_ble_eq_true rfl, pj_T_rcv hI rfl⟩ ⟨rfl, rfl⟩ (pj_Y_up (by decide) (ct_97x G0 hI k n f sp)) ?_
            rintro _ G7 ⟨y6, rfl, iG7, jG7, ry6, fy6⟩
            rw [← fy6, pj_bd_e]
            have kG7 : pj_kpt kc_126x G0 G7 := pj_kpt_t hK (pj_kpt_s jG7 rfl)
            show pj_X _ _ G7 56 [(0, .ref 1), (1, .int k), (2, .int n), (3, .int f), (4, .int sp)] [.int y6] _
            exact pj_X_rt rfl rfl ⟨_, rfl, iG7, kG7, pj_i32 _, rfl⟩
          | false =>
            rw [pj_cF]
            have ub5 := pj_u0_geF b5
            refine pj_X_of (fun r h => pj_R_ifF rfl b5 h) ?_
            refine pj_X_of (fun r h => pj_R_to (G0, 43, [(0, .ref 1), (1, .int k), (2, .int n), (3, .int f), (4, .int sp)], [.int ((Int8.ofInt (-2)).toInt32)], 0, 0) 43 2 (fun _ => rfl) h) ?_
            exact pj_X_rt rfl rfl ⟨_, rfl, hI, hK, pj_i32 _, rfl⟩
        | false =>
          rw [pj_cF]
          have ub4 := pj_u_neF b4
          refine pj_X_of (fun r h => pj_R_icF rfl b4 h) ?_
          refine pj_X_of (fun r h => pj_R_to (G0, 23, [(0, .ref 1), (1, .int k), (2, .int n), (3, .int f), (4, .int sp)], [.ref 1], 0, 0) 23 2 (fun _ => rfl) h) ?_
          refine pj_X_of (fun r h => pj_T_gr hI rfl rfl rfl h) ?_
          refine pj_X_of (fun r h => pj_R_to (G0, 30, [(0, .ref 1), (1, .int k), (2, .int n), (3, .int f), (4, .int sp)], [.int (Int32.ofInt 0), .int (Int32.ofInt 0), .int (Int32.ofInt 0), .int k, .ref 6], 0, 0) 30 5 (fun _ => rfl) h) ?_
          refine pj_X_ca (vs := [.ref 6, .int k, .int (Int32.ofInt 0), .int (Int32.ofInt 0), .int (Int32.ofInt 0)]) rfl (fun _ => rfl) ⟨Nat.le_of_ble_eq_true rfl, Nat.le_of_ble_eq_true rfl, pj_T_rcv hI rfl⟩ ⟨rfl, rfl⟩ (pj_Y_up (by decide) (ct_97x G0 hI k (Int32.ofInt 0) (Int32.ofInt 0) (Int32.ofInt 0))) ?_
          rintro _ G9 ⟨y8, rfl, iG9, jG9, ry8, fy8⟩
          rw [← fy8, pj_bd_e]
          have kG9 : pj_kpt kc_126x G0 G9 := pj_kpt_t hK (pj_kpt_s jG9 rfl)
          show pj_X _ _ G9 33 [(0, .ref 1), (1, .int k), (2, .int n), (3, .int f), (4, .int sp)] [.int y8] _
          refine pj_X_of (fun r h => pj_R_to (G9, 36, [(0, .ref 1), (1, .int k), (2, .int n), (3, .int f), (4, .int sp)], [.int ((Int8.ofInt (-3)).toInt32)], 0, 0) 36 3 (fun _ => rfl) h) ?_
          exact pj_X_rt rfl rfl ⟨_, rfl, iG9, kG9, pj_i32 _, rfl⟩
      | false =>
        rw [pj_cF]
        have ub3 := pj_u_leF b3
        refine pj_X_of (fun r h => pj_R_icF rfl b3 h) ?_
        refine pj_X_of (fun r h => pj_R_to (G0, 16, [(0, .ref 1), (1, .int k), (2, .int n), (3, .int f), (4, .int sp)], [.int (Int32.ofInt (-1))], 0, 0) 16 2 (fun _ => rfl) h) ?_
        exact pj_X_rt rfl rfl ⟨_, rfl, hI, hK, pj_i32 _, rfl⟩
theorem fr_126x (G0 : pj_G) (hI : pj_Inv G0) (k : Int32) (n : Int32) (f : Int32) (sp : Int32) : pj_Inv (F_126x G0 k n f sp).2 ∧ pj_kpt kc_126x G0 (F_126x G0 k n f sp).2 := by
  obtain ⟨v, G', -, y, -, i, j, r, e⟩ := ct_126x G0 hI k n f sp
  rw [← e]
  exact ⟨i, j⟩
def kc_213x : pj_KT := ([(171, 0)], [171, 179], [179])
noncomputable def L_214x (G0 : pj_G) (kd : Int32) (n : Int32) (f : Int32) (sp : Int32) (fu : Nat) : Int32 → Int32 → Int32 → pj_G → Int32 × pj_G := Nat.rec (motive := fun _ => Int32 → Int32 → Int32 → pj_G → Int32 × pj_G) (fun _ _ _ G => (0, G)) (fun _ ih v5 v6 v7 G => pj_nm (pj_fi G 171 5) (fun y1 => cond (pj_c1 .ge v7 y1) (cond (pj_c1 .ne kd (Int32.ofInt 3)) ((v5, G)) (((Int8.ofInt (-3)).toInt32, G))) (cond (pj_c1 .ne kd 0) (cond (pj_c1 .ne kd (Int32.ofInt 1)) (pj_nm ((Int32.ofInt 4) * v7) (fun z6 => pj_nm (z6 + (Int32.ofInt 3)) (fun z7 => cond (pj_c1 .eq kd (Int32.ofInt 3)) (pj_nm (pj_wa G 179 z7.toInt.toNat (Int32.ofInt 0)) (fun G9 => pj_nm (pj_ai G9 179 z7.toInt.toNat) (fun z10 => pj_nm (v5 + z10) (fun z11 => pj_nm (v6 + sp) (fun z12 => pj_nm (v7 + Int32.ofInt 1) (fun z13 => ih z11 z12 z13 G9)))))) (cond (pj_c1 .lt v7 n) (pj_nm ((if v6 < ((Int8.ofInt 9).toInt32) then v6 else ((Int8.ofInt 9).toInt32))) (fun z15 => pj_nm ((if (Int32.ofInt 0) < z15 then z15 else (Int32.ofInt 0))) (fun z16 => pj_nm (pj_wa G 179 z7.toInt.toNat z16) (fun G17 => pj_nm (pj_ai G17 179 z7.toInt.toNat) (fun z18 => pj_nm (v5 + z18) (fun z19 => pj_nm (v6 + sp) (fun z20 => pj_nm (v7 + Int32.ofInt 1) (fun z21 => ih z19 z20 z21 G17)))))))) (pj_nm (pj_wa G 179 z7.toInt.toNat (Int32.ofInt 0)) (fun G22 => pj_nm (pj_ai G22 179 z7.toInt.toNat) (fun z23 => pj_nm (v5 + z23) (fun z24 => pj_nm (v6 + sp) (fun z25 => pj_nm (v7 + Int32.ofInt 1) (fun z26 => ih z24 z25 z26 G22)))))))))) (pj_nm (v6.toInt16.toInt32) (fun z27 => pj_nm ((Int32.ofInt 4) * v7) (fun z28 => pj_nm (z28 + (Int32.ofInt 3)) (fun z29 => cond (pj_c1 .lt v7 n) (pj_nm ((if z27 < ((Int8.ofInt 9).toInt32) then z27 else ((Int8.ofInt 9).toInt32))) (fun z31 => pj_nm ((if (Int32.ofInt 0) < z31 then z31 else (Int32.ofInt 0))) (fun z32 => pj_nm (pj_wa G 179 z29.toInt.toNat z32) (fun G33 => pj_nm (pj_ai G33 179 z29.toInt.toNat) (fun z34 => pj_nm (v5 + z34) (fun z35 => pj_nm (v6 + sp) (fun z36 => pj_nm (v7 + Int32.ofInt 1) (fun z37 => ih z35 z36 z37 G33)))))))) (pj_nm (pj_wa G 179 z29.toInt.toNat (Int32.ofInt 0)) (fun G38 => pj_nm (pj_ai G38 179 z29.toInt.toNat) (fun z39 => pj_nm (v5 + z39) (fun z40 => pj_nm (v6 + sp) (fun z41 => pj_nm (v7 + Int32.ofInt 1) (fun z42 => ih z40 z41 z42 G38))))))))))) (pj_nm (v6.toInt8.toInt32) (fun z43 => pj_nm ((Int32.ofInt 4) * v7) (fun z44 => pj_nm (z44 + (Int32.ofInt 3)) (fun z45 => cond (pj_c1 .lt v7 n) (pj_nm ((if z43 < ((Int8.ofInt 9).toInt32) then z43 else ((Int8.ofInt 9).toInt32))) (fun z47 => pj_nm ((if (Int32.ofInt 0) < z47 then z47 else (Int32.ofInt 0))) (fun z48 => pj_nm (pj_wa G 179 z45.toInt.toNat z48) (fun G49 => pj_nm (pj_ai G49 179 z45.toInt.toNat) (fun z50 => pj_nm (v5 + z50) (fun z51 => pj_nm (v6 + sp) (fun z52 => pj_nm (v7 + Int32.ofInt 1) (fun z53 => ih z51 z52 z53 G49)))))))) (pj_nm (pj_wa G 179 z45.toInt.toNat (Int32.ofInt 0)) (fun G54 => pj_nm (pj_ai G54 179 z45.toInt.toNat) (fun z55 => pj_nm (v5 + z55) (fun z56 => pj_nm (v6 + sp) (fun z57 => pj_nm (v7 + Int32.ofInt 1) (fun z58 => ih z56 z57 z58 G54))))))))))))) fu
theorem L_214x_s0 (G0 : pj_G) (kd : Int32) (n : Int32) (f : Int32) (sp : Int32) (fu : Nat) (v5 : Int32) (v6 : Int32) (v7 : Int32) (G : pj_G) : L_214x G0 kd n f sp (fu + 1) v5 v6 v7 G = pj_nm (pj_fi G 171 5) (fun y1 => cond (pj_c1 .ge v7 y1) (cond (pj_c1 .ne kd (Int32.ofInt 3)) ((v5, G)) (((Int8.ofInt (-3)).toInt32, G))) (cond (pj_c1 .ne kd 0) (cond (pj_c1 .ne kd (Int32.ofInt 1)) (pj_nm ((Int32.ofInt 4) * v7) (fun z6 => pj_nm (z6 + (Int32.ofInt 3)) (fun z7 => cond (pj_c1 .eq kd (Int32.ofInt 3)) (pj_nm (pj_wa G 179 z7.toInt.toNat (Int32.ofInt 0)) (fun G9 => pj_nm (pj_ai G9 179 z7.toInt.toNat) (fun z10 => pj_nm (v5 + z10) (fun z11 => pj_nm (v6 + sp) (fun z12 => pj_nm (v7 + Int32.ofInt 1) (fun z13 => L_214x G0 kd n f sp fu z11 z12 z13 G9)))))) (cond (pj_c1 .lt v7 n) (pj_nm ((if v6 < ((Int8.ofInt 9).toInt32) then v6 else ((Int8.ofInt 9).toInt32))) (fun z15 => pj_nm ((if (Int32.ofInt 0) < z15 then z15 else (Int32.ofInt 0))) (fun z16 => pj_nm (pj_wa G 179 z7.toInt.toNat z16) (fun G17 => pj_nm (pj_ai G17 179 z7.toInt.toNat) (fun z18 => pj_nm (v5 + z18) (fun z19 => pj_nm (v6 + sp) (fun z20 => pj_nm (v7 + Int32.ofInt 1) (fun z21 => L_214x G0 kd n f sp fu z19 z20 z21 G17)))))))) (pj_nm (pj_wa G 179 z7.toInt.toNat (Int32.ofInt 0)) (fun G22 => pj_nm (pj_ai G22 179 z7.toInt.toNat) (fun z23 => pj_nm (v5 + z23) (fun z24 => pj_nm (v6 + sp) (fun z25 => pj_nm (v7 + Int32.ofInt 1) (fun z26 => L_214x G0 kd n f sp fu z24 z25 z26 G22)))))))))) (pj_nm (v6.toInt16.toInt32) (fun z27 => pj_nm ((Int32.ofInt 4) * v7) (fun z28 => pj_nm (z28 + (Int32.ofInt 3)) (fun z29 => cond (pj_c1 .lt v7 n) (pj_nm ((if z27 < ((Int8.ofInt 9).toInt32) then z27 else ((Int8.ofInt 9).toInt32))) (fun z31 => pj_nm ((if (Int32.ofInt 0) < z31 then z31 else (Int32.ofInt 0))) (fun z32 => pj_nm (pj_wa G 179 z29.toInt.toNat z32) (fun G33 => pj_nm (pj_ai G33 179 z29.toInt.toNat) (fun z34 => pj_nm (v5 + z34) (fun z35 => pj_nm (v6 + sp) (fun z36 => pj_nm (v7 + Int32.ofInt 1) (fun z37 => L_214x G0 kd n f sp fu z35 z36 z37 G33)))))))) (pj_nm (pj_wa G 179 z29.toInt.toNat (Int32.ofInt 0)) (fun G38 => pj_nm (pj_ai G38 179 z29.toInt.toNat) (fun z39 => pj_nm (v5 + z39) (fun z40 => pj_nm (v6 + sp) (fun z41 => pj_nm (v7 + Int32.ofInt 1) (fun z42 => L_214x G0 kd n f sp fu z40 z41 z42 G38))))))))))) (pj_nm (v6.toInt8.toInt32) (fun z43 => pj_nm ((Int32.ofInt 4) * v7) (fun z44 => pj_nm (z44 + (Int32.ofInt 3)) (fun z45 => cond (pj_c1 .lt v7 n) (pj_nm ((if z43 < ((Int8.ofInt 9).toInt32) then z43 else ((Int8.ofInt 9).toInt32))) (fun z47 => pj_nm ((if (Int32.ofInt 0) < z47 then z47 else (Int32.ofInt 0))) (fun z48 => pj_nm (pj_wa G 179 z45.toInt.toNat z48) (fun G49 => pj_nm (pj_ai G49 179 z45.toInt.toNat) (fun z50 => pj_nm (v5 + z50) (fun z51 => pj_nm (v6 + sp) (fun z52 => pj_nm (v7 + Int32.ofInt 1) (fun z53 => L_214x G0 kd n f sp fu z51 z52 z53 G49)))))))) (pj_nm (pj_wa G 179 z45.toInt.toNat (Int32.ofInt 0)) (fun G54 => pj_nm (pj_ai G54 179 z45.toInt.toNat) (fun z55 => pj_nm (v5 + z55) (fun z56 => pj_nm (v6 + sp) (fun z57 => pj_nm (v7 + Int32.ofInt 1) (fun z58 => L_214x G0 kd n f sp fu z56 z57 z58 G54)))))))))))) := rfl
noncomputable def F_214x (G0 : pj_G) (kd : Int32) (n : Int32) (f : Int32) (sp : Int32) : Int32 × pj_G := pj_nm (pj_wv G0 171 0 (.int (Int32.ofInt 0))) (fun G59 => pj_nm (F_171x G59 kd.toInt64 (Int64.ofNat 0) (Int64.ofInt 3)) (fun y63 => cond (pj_c1 .eq y63 0) ((Int32.ofInt (-1), G59)) (cond (pj_c1 .le n ((Int8.ofInt 6).toInt32)) (cond (pj_c1 .eq kd (Int32.ofInt 3)) (L_214x G0 kd n f sp 7 (Int32.ofInt 0) f (Int32.ofInt 0) G59) (cond (pj_c1 .ge n 0) (L_214x G0 kd n f sp 7 (Int32.ofInt 0) f (Int32.ofInt 0) G59) (((Int8.ofInt (-2)).toInt32, G59)))) ((Int32.ofInt (-1), G59)))))
theorem F_214x_e (G0 : pj_G) (kd : Int32) (n : Int32) (f : Int32) (sp : Int32) : F_214x G0 kd n f sp = pj_nm (pj_wv G0 171 0 (.int (Int32.ofInt 0))) (fun G59 => pj_nm (F_171x G59 kd.toInt64 (Int64.ofNat 0) (Int64.ofInt 3)) (fun y63 => cond (pj_c1 .eq y63 0) ((Int32.ofInt (-1), G59)) (cond (pj_c1 .le n ((Int8.ofInt 6).toInt32)) (cond (pj_c1 .eq kd (Int32.ofInt 3)) (L_214x G0 kd n f sp 7 (Int32.ofInt 0) f (Int32.ofInt 0) G59) (cond (pj_c1 .ge n 0) (L_214x G0 kd n f sp 7 (Int32.ofInt 0) f (Int32.ofInt 0) G59) (((Int8.ofInt (-2)).toInt32, G59)))) ((Int32.ofInt (-1), G59))))) := rfl
theorem lp_ct_213x (G0 : pj_G) (hI0 : pj_Inv G0) (kd : Int32) (n : Int32) (f : Int32) (sp : Int32) : ∀ mn : Nat, (∀ (G : pj_G) (hI : pj_Inv G) (hK : pj_kpt kc_213x G0 G) (v5 : Int32) (v6 : Int32) (v7 : Int32), ((-2147483648 : Int) ≤ v5.toInt ∧ v5.toInt ≤ 2147483647) → ((-2147483648 : Int) ≤ v6.toInt ∧ v6.toInt ≤ 2147483647) → ((0 : Int) ≤ v7.toInt ∧ v7.toInt ≤ 6) → 6 - v7.toInt < (mn : Int) → pj_X 1 pj_m213 G 46 [(0, .ref 171), (1, .int kd), (2, .int n), (3, .int f), (4, .int sp), (5, .int v5), (6, .int v6), (7, .int v7)] [] (fun v' G' => ∃ y : Int32, v' = some (.int y) ∧ pj_Inv G' ∧ pj_kpt kc_213x G0 G' ∧ ((-2147483648 : Int) ≤ y.toInt ∧ y.toInt ≤ 2147483647) ∧ ((y, G') = L_214x G0 kd n f sp mn v5 v6 v7 G))) := by
  have c0_ : ((Int8.ofInt (-2)).toInt32).toInt = -2 := by decide
  have c1_ : ((Int8.ofInt (-3)).toInt32).toInt = -3 := by decide
  have c2_ : ((Int8.ofInt 6).toInt32).toInt = 6 := by decide
  have c3_ : ((Int8.ofInt 9).toInt32).toInt = 9 := by decide
  have c4_ : (Int32.ofInt (-1)).toInt = -1 := by decide
  have c5_ : (Int32.ofInt 0).toInt = 0 := by decide
  have c6_ : (Int32.ofInt 1).toInt = 1 := by decide
  have c7_ : (Int32.ofInt 3).toInt = 3 := by decide
  have c8_ : (Int32.ofInt 4).toInt = 4 := by decide
  intro mn
  induction mn with
  | zero =>
    intro G hI hK v5 v6 v7 rv5 rv6 rv7 hm
    exfalso
    omega
  | succ mn ih =>
    intro G hI hK v5 v6 v7 rv5 rv6 rv7 hm
    rw [L_214x_s0]
    refine pj_X_of (fun r h => pj_R_to (G, 49, [(0, .ref 171), (1, .int kd), (2, .int n), (3, .int f), (4, .int sp), (5, .int v5), (6, .int v6), (7, .int v7)], [.ref 171, .int v7], 0, 0) 49 3 (fun _ => rfl) h) ?_
    refine pj_X_of (fun r h => pj_T_gi hI rfl rfl h) ?_
    show pj_X _ _ G 52 [(0, .ref 171), (1, .int kd), (2, .int n), (3, .int f), (4, .int sp), (5, .int v5), (6, .int v6), (7, .int v7)] [.int (pj_fi G 171 5), .int v7] _
    obtain ⟨y1, hy1⟩ : ∃ z : Int32, z = pj_fi G 171 5 := ⟨_, rfl⟩
    refine pj_X_eqi hy1.symm ?_
    rw [← hy1, pj_nm_e]
    have ey1 : (pj_fi G 171 5).toInt = y1.toInt := by rw [hy1]
    have ry1 : (0 : Int) ≤ y1.toInt ∧ y1.toInt ≤ 6 := by rw [hy1]; exact hI.2.1 171 5 (0, 6) rfl
    cases b2 : pj_c1 .ge v7 y1 with
    | true =>
      rw [pj_cT]
      have ub2 := pj_u_geT b2
      refine pj_X_of (fun r h => pj_R_icT 146 rfl rfl b2 h) ?_
      refine pj_X_of (fun r h => pj_R_to (G, 148, [(0, .ref 171), (1, .int kd), (2, .int n), (3, .int f), (4, .int sp), (5, .int v5), (6, .int v6), (7, .int v7)], [.int (Int32.ofInt 3), .int kd], 0, 0) 148 3 (fun _ => rfl) h) ?_
      cases b3 : pj_c1 .ne kd (Int32.ofInt 3) with
      | true =>
        rw [pj_cT]
        have ub3 := pj_u_neT b3
        refine pj_X_of (fun r h => pj_R_icT 156 rfl rfl b3 h) ?_
        refine pj_X_of (fun r h => pj_R_to (G, 158, [(0, .ref 171), (1, .int kd), (2, .int n), (3, .int f), (4, .int sp), (5, .int v5), (6, .int v6), (7, .int v7)], [.int v5], 0, 0) 158 2 (fun _ => rfl) h) ?_
        exact pj_X_rt rfl rfl ⟨_, rfl, hI, hK, pj_i32 _, rfl⟩
      | false =>
        rw [pj_cF]
        have ub3 := pj_u_neF b3
        refine pj_X_of (fun r h => pj_R_icF rfl b3 h) ?_
        refine pj_X_of (fun r h => pj_R_to (G, 158, [(0, .ref 171), (1, .int kd), (2, .int n), (3, .int f), (4, .int sp), (5, .int v5), (6, .int v6), (7, .int v7)], [.int ((Int8.ofInt (-3)).toInt32)], 0, 0) 158 3 (fun _ => rfl) h) ?_
        exact pj_X_rt rfl rfl ⟨_, rfl, hI, hK, pj_i32 _, rfl⟩
    | false =>
      rw [pj_cF]
      have ub2 := pj_u_geF b2
      refine pj_X_of (fun r h => pj_R_icF rfl b2 h) ?_
      refine pj_X_of (fun r h => pj_R_to (G, 56, [(0, .ref 171), (1, .int kd), (2, .int n), (3, .int f), (4, .int sp), (5, .int v5), (6, .int v6), (7, .int v7)], [.int kd], 0, 0) 56 2 (fun _ => rfl) h) ?_
      cases b4 : pj_c1 .ne kd 0 with
      | true =>
        rw [pj_cT]
        have ub4 := pj_u0_neT b4
        refine pj_X_of (fun r h => pj_R_ifT 65 rfl rfl b4 h) ?_
        refine pj_X_of (fun r h => pj_R_to (G, 67, [(0, .ref 171), (1, .int kd), (2, .int n), (3, .int f), (4, .int sp), (5, .int v5), (6, .int v6), (7, .int v7)], [.int (Int32.ofInt 1), .int kd], 0, 0) 67 3 (fun _ => rfl) h) ?_
        cases b5 : pj_c1 .ne kd (Int32.ofInt 1) with
        | true =>
          rw [pj_cT]
          have ub5 := pj_u_neT b5
          refine pj_X_of (fun r h => pj_R_icT 76 rfl rfl b5 h) ?_
          refine pj_X_of (fun r h => pj_R_to (G, 81, [(8, .int v6), (0, .ref 171), (1, .int kd), (2, .int n), (3, .int f), (4, .int sp), (5, .int v5), (6, .int v6), (7, .int v7)], [.ref 171], 0, 0) 81 4 (fun _ => rfl) h) ?_
          refine pj_X_of (fun r h => pj_T_gr hI rfl rfl rfl h) ?_
          refine pj_X_of (fun r h => pj_R_to (G, 88, [(8, .int v6), (0, .ref 171), (1, .int kd), (2, .int n), (3, .int f), (4, .int sp), (5, .int v5), (6, .int v6), (7, .int v7)], [.int ((Int32.ofInt 4) * v7), .ref 179], 0, 0) 88 4 (fun _ => rfl) h) ?_
          obtain ⟨z6, hz6⟩ : ∃ z : Int32, z = (Int32.ofInt 4) * v7 := ⟨_, rfl⟩
          refine pj_X_eqi hz6.symm ?_
          rw [← hz6, pj_nm_e]
          have fz6_0 : z6.toInt = 4 * v7.toInt := by rw [hz6]; exact pj_mulL (by decide) (by omega) (by omega)
          refine pj_X_of (fun r h => pj_R_to (G, 90, [(8, .int v6), (0, .ref 171), (1, .int kd), (2, .int n), (3, .int f), (4, .int sp), (5, .int v5), (6, .int v6), (7, .int v7)], [.int (z6 + (Int32.ofInt 3)), .ref 179], 0, 0) 90 3 (fun _ => rfl) h) ?_
          obtain ⟨z7, hz7⟩ : ∃ z : Int32, z = z6 + (Int32.ofInt 3) := ⟨_, rfl⟩
          refine pj_X_eqi hz7.symm ?_
          rw [← hz7, pj_nm_e]
          have fz7_0 : z7.toInt = z6.toInt + (Int32.ofInt 3).toInt := by rw [hz7]; exact pj_addI (by have := pj_i32 z6; have := pj_i32 (Int32.ofInt 3); omega) (by have := pj_i32 z6; have := pj_i32 (Int32.ofInt 3); omega)
          refine pj_X_of (fun r h => pj_R_to (G, 92, [(8, .int v6), (0, .ref 171), (1, .int kd), (2, .int n), (3, .int f), (4, .int sp), (5, .int v5), (6, .int v6), (7, .int v7)], [.int (Int32.ofInt 3), .int kd, .int z7, .ref 179], 0, 0) 92 3 (fun _ => rfl) h) ?_
          cases b8 : pj_c1 .eq kd (Int32.ofInt 3) with
          | true =>
            rw [pj_cT]
            have ub8 := pj_u_eqT b8
            refine pj_X_of (fun r h => pj_R_icT 101 rfl rfl b8 h) ?_
            refine pj_X_of (fun r h => pj_R_to (G, 116, [(8, .int v6), (0, .ref 171), (1, .int kd), (2, .int n), (3, .int f), (4, .int sp), (5, .int v5), (6, .int v6), (7, .int v7)], [.int (Int32.ofInt 0), .int z7, .ref 179], 0, 0) 116 3 (fun _ => rfl) h) ?_
            refine pj_X_of (fun r h => pj_T_is hI rfl rfl (by omega) (by omega) h) ?_
            show pj_X _ _ (pj_wa G 179 z7.toInt.toNat (Int32.ofInt 0)) 117 [(8, .int v6), (0, .ref 171), (1, .int kd), (2, .int n), (3, .int f), (4, .int sp), (5, .int v5), (6, .int v6), (7, .int v7)] [] _
            obtain ⟨G9, hG9⟩ : ∃ H, H = pj_wa G 179 z7.toInt.toNat (Int32.ofInt 0) := ⟨_, rfl⟩
            have iG9 : pj_Inv G9 := by rw [hG9]; exact pj_Inv_wa hI rfl (fun q hq => by cases hq) (fun n hn => ⟨fun h1 => ⟨fun h2 => by omega, fun h2 => by omega⟩, fun h1 => by omega⟩)
            have kG9 : pj_kpt kc_213x G0 G9 := by rw [hG9]; exact pj_kpt_a hK rfl
            rw [← hG9]
            rw [pj_nm_e]
            refine pj_X_of (fun r h => pj_R_to (G9, 120, [(8, .int v6), (0, .ref 171), (1, .int kd), (2, .int n), (3, .int f), (4, .int sp), (5, .int v5), (6, .int v6), (7, .int v7)], [.ref 171, .int v5], 0, 0) 120 3 (fun _ => rfl) h) ?_
            refine pj_X_of (fun r h => pj_T_gr iG9 rfl rfl rfl h) ?_
            refine pj_X_of (fun r h => pj_R_to (G9, 127, [(8, .int v6), (0, .ref 171), (1, .int kd), (2, .int n), (3, .int f), (4, .int sp), (5, .int v5), (6, .int v6), (7, .int v7)], [.int ((Int32.ofInt 4) * v7), .ref 179, .int v5], 0, 0) 127 4 (fun _ => rfl) h) ?_
            refine pj_X_eqi hz6.symm ?_
            refine pj_X_of (fun r h => pj_R_to (G9, 129, [(8, .int v6), (0, .ref 171), (1, .int kd), (2, .int n), (3, .int f), (4, .int sp), (5, .int v5), (6, .int v6), (7, .int v7)], [.int (z6 + (Int32.ofInt 3)), .ref 179, .int v5], 0, 0) 129 3 (fun _ => rfl) h) ?_
            refine pj_X_eqi hz7.symm ?_
            refine pj_X_of (fun r h => pj_T_il iG9 rfl rfl (by omega) (by omega) h) ?_
            show pj_X _ _ G9 130 [(8, .int v6), (0, .ref 171), (1, .int kd), (2, .int n), (3, .int f), (4, .int sp), (5, .int v5), (6, .int v6), (7, .int v7)] [.int (pj_ai G9 179 z7.toInt.toNat), .int v5] _
            obtain ⟨z10, hz10⟩ : ∃ z : Int32, z = pj_ai G9 179 z7.toInt.toNat := ⟨_, rfl⟩
            refine pj_X_eqi hz10.symm ?_
            rw [← hz10, pj_nm_e]
            have ez10 : (pj_ai G9 179 z7.toInt.toNat).toInt = z10.toInt := by rw [hz10]
            refine pj_X_of (fun r h => pj_R_to (G9, 131, [(8, .int v6), (0, .ref 171), (1, .int kd), (2, .int n), (3, .int f), (4, .int sp), (5, .int v5), (6, .int v6), (7, .int v7)], [.int (v5 + z10)], 0, 0) 131 2 (fun _ => rfl) h) ?_
            obtain ⟨z11, hz11⟩ : ∃ z : Int32, z = v5 + z10 := ⟨_, rfl⟩
            refine pj_X_eqi hz11.symm ?_
            rw [← hz11, pj_nm_e]
            refine pj_X_of (fun r h => pj_R_to (G9, 138, [(5, .int z11), (8, .int v6), (0, .ref 171), (1, .int kd), (2, .int n), (3, .int f), (4, .int sp), (6, .int v6), (7, .int v7)], [.int (v6 + sp)], 0, 0) 138 5 (fun _ => rfl) h) ?_
            obtain ⟨z12, hz12⟩ : ∃ z : Int32, z = v6 + sp := ⟨_, rfl⟩
            refine pj_X_eqi hz12.symm ?_
            rw [← hz12, pj_nm_e]
            refine pj_X_of (fun r h => pj_R_to (G9, 143, [(7, .int (v7 + Int32.ofInt 1)), (6, .int z12), (5, .int z11), (8, .int v6), (0, .ref 171), (1, .int kd), (2, .int n), (3, .int f), (4, .int sp)], [], 0, 0) 143 3 (fun _ => rfl) h) ?_
            obtain ⟨z13, hz13⟩ : ∃ z : Int32, z = v7 + Int32.ofInt 1 := ⟨_, rfl⟩
            rw [← hz13]
            rw [pj_nm_e]
            have fz13_0 : z13.toInt = v7.toInt + (Int32.ofInt 1).toInt := by rw [hz13]; exact pj_addI (by have := pj_i32 v7; have := pj_i32 (Int32.ofInt 1); omega) (by have := pj_i32 v7; have := pj_i32 (Int32.ofInt 1); omega)
            refine pj_X_of (fun r h => pj_R_to (G9, 46, [(7, .int z13), (6, .int z12), (5, .int z11), (8, .int v6), (0, .ref 171), (1, .int kd), (2, .int n), (3, .int f), (4, .int sp)], [], 0, 0) 46 2 (fun _ => rfl) h) ?_
            exact pj_X_sub [(0, .ref 171), (1, .int kd), (2, .int n), (3, .int f), (4, .int sp), (5, .int z11), (6, .int z12), (7, .int z13)] (show List.Nodup [0, 1, 2, 3, 4, 5, 6, 7] by decide) ⟨rfl, rfl, rfl, rfl, rfl, rfl, rfl, rfl, trivial⟩ (ih G9 iG9 kG9 z11 z12 z13 (pj_i32 _) (pj_i32 _) ⟨by omega, by omega⟩ (by omega))
          | false =>
            rw [pj_cF]
            have ub8 := pj_u_eqF b8
            refine pj_X_of (fun r h => pj_R_icF rfl b8 h) ?_
            refine pj_X_of (fun r h => pj_R_to (G, 98, [(8, .int v6), (0, .ref 171), (1, .int kd), (2, .int n), (3, .int f), (4, .int sp), (5, .int v5), (6, .int v6), (7, .int v7)], [.int n, .int v7, .int z7, .ref 179], 0, 0) 98 3 (fun _ => rfl) h) ?_
            cases b14 : pj_c1 .lt v7 n with
            | true =>
              rw [pj_cT]
              have ub14 := pj_u_ltT b14
              refine pj_X_of (fun r h => pj_R_icT 105 rfl rfl b14 h) ?_
              refine pj_X_of (fun r h => pj_R_to (G, 110, [(8, .int v6), (0, .ref 171), (1, .int kd), (2, .int n), (3, .int f), (4, .int sp), (5, .int v5), (6, .int v6), (7, .int v7)], [.int v6, .int ((Int8.ofInt 9).toInt32), .int (Int32.ofInt 0), .int z7, .ref 179], 0, 0) 110 4 (fun _ => rfl) h) ?_
              refine pj_X_of (fun r h => pj_R_mn (v := (if v6 < ((Int8.ofInt 9).toInt32) then v6 else ((Int8.ofInt 9).toInt32))) rfl rfl rfl (Nat.le_of_ble_eq_true rfl) h) ?_
              show pj_X _ _ G 113 [(8, .int v6), (0, .ref 171), (1, .int kd), (2, .int n), (3, .int f), (4, .int sp), (5, .int v5), (6, .int v6), (7, .int v7)] [.int (if v6 < ((Int8.ofInt 9).toInt32) then v6 else ((Int8.ofInt 9).toInt32)), .int (Int32.ofInt 0), .int z7, .ref 179] _
              obtain ⟨z15, hz15⟩ : ∃ z : Int32, z = (if v6 < ((Int8.ofInt 9).toInt32) then v6 else ((Int8.ofInt 9).toInt32)) := ⟨_, rfl⟩
              refine pj_X_eqi hz15.symm ?_
              rw [← hz15, pj_nm_e]
              have fz15_0 : z15.toInt ≤ ((Int8.ofInt 9).toInt32).toInt ∧ z15.toInt ≤ v6.toInt ∧ (z15.toInt = ((Int8.ofInt 9).toInt32).toInt ∨ z15.toInt = v6.toInt) := by rw [hz15]; exact pj_minI
              refine pj_X_of (fun r h => pj_R_mx (v := (if (Int32.ofInt 0) < z15 then z15 else (Int32.ofInt 0))) rfl rfl rfl (Nat.le_of_ble_eq_true rfl) h) ?_
              show pj_X _ _ G 116 [(8, .int v6), (0, .ref 171), (1, .int kd), (2, .int n), (3, .int f), (4, .int sp), (5, .int v5), (6, .int v6), (7, .int v7)] [.int (if (Int32.ofInt 0) < z15 then z15 else (Int32.ofInt 0)), .int z7, .ref 179] _
              obtain ⟨z16, hz16⟩ : ∃ z : Int32, z = (if (Int32.ofInt 0) < z15 then z15 else (Int32.ofInt 0)) := ⟨_, rfl⟩
              refine pj_X_eqi hz16.symm ?_
              rw [← hz16, pj_nm_e]
              have fz16_0 : (Int32.ofInt 0).toInt ≤ z16.toInt ∧ z15.toInt ≤ z16.toInt ∧ (z16.toInt = (Int32.ofInt 0).toInt ∨ z16.toInt = z15.toInt) := by rw [hz16]; exact pj_maxI
              refine pj_X_of (fun r h => pj_T_is hI rfl rfl (by omega) (by omega) h) ?_
              show pj_X _ _ (pj_wa G 179 z7.toInt.toNat z16) 117 [(8, .int v6), (0, .ref 171), (1, .int kd), (2, .int n), (3, .int f), (4, .int sp), (5, .int v5), (6, .int v6), (7, .int v7)] [] _
              obtain ⟨G17, hG17⟩ : ∃ H, H = pj_wa G 179 z7.toInt.toNat z16 := ⟨_, rfl⟩
              have iG17 : pj_Inv G17 := by rw [hG17]; exact pj_Inv_wa hI rfl (fun q hq => by cases hq) (fun n hn => ⟨fun h1 => ⟨fun h2 => by omega, fun h2 => by omega⟩, fun h1 => by omega⟩)
              have kG17 : pj_kpt kc_213x G0 G17 := by rw [hG17]; exact pj_kpt_a hK rfl
              rw [← hG17]
              rw [pj_nm_e]
              refine pj_X_of (fun r h => pj_R_to (G17, 120, [(8, .int v6), (0, .ref 171), (1, .int kd), (2, .int n), (3, .int f), (4, .int sp), (5, .int v5), (6, .int v6), (7, .int v7)], [.ref 171, .int v5], 0, 0) 120 3 (fun _ => rfl) h) ?_
              refine pj_X_of (fun r h => pj_T_gr iG17 rfl rfl rfl h) ?_
              refine pj_X_of (fun r h => pj_R_to (G17, 127, [(8, .int v6), (0, .ref 171), (1, .int kd), (2, .int n), (3, .int f), (4, .int sp), (5, .int v5), (6, .int v6), (7, .int v7)], [.int ((Int32.ofInt 4) * v7), .ref 179, .int v5], 0, 0) 127 4 (fun _ => rfl) h) ?_
              refine pj_X_eqi hz6.symm ?_
              refine pj_X_of (fun r h => pj_R_to (G17, 129, [(8, .int v6), (0, .ref 171), (1, .int kd), (2, .int n), (3, .int f), (4, .int sp), (5, .int v5), (6, .int v6), (7, .int v7)], [.int (z6 + (Int32.ofInt 3)), .ref 179, .int v5], 0, 0) 129 3 (fun _ => rfl) h) ?_
              refine pj_X_eqi hz7.symm ?_
              refine pj_X_of (fun r h => pj_T_il iG17 rfl rfl (by omega) (by omega) h) ?_
              show pj_X _ _ G17 130 [(8, .int v6), (0, .ref 171), (1, .int kd), (2, .int n), (3, .int f), (4, .int sp), (5, .int v5), (6, .int v6), (7, .int v7)] [.int (pj_ai G17 179 z7.toInt.toNat), .int v5] _
              obtain ⟨z18, hz18⟩ : ∃ z : Int32, z = pj_ai G17 179 z7.toInt.toNat := ⟨_, rfl⟩
              refine pj_X_eqi hz18.symm ?_
              rw [← hz18, pj_nm_e]
              have ez18 : (pj_ai G17 179 z7.toInt.toNat).toInt = z18.toInt := by rw [hz18]
              refine pj_X_of (fun r h => pj_R_to (G17, 131, [(8, .int v6), (0, .ref 171), (1, .int kd), (2, .int n), (3, .int f), (4, .int sp), (5, .int v5), (6, .int v6), (7, .int v7)], [.int (v5 + z18)], 0, 0) 131 2 (fun _ => rfl) h) ?_
              obtain ⟨z19, hz19⟩ : ∃ z : Int32, z = v5 + z18 := ⟨_, rfl⟩
              refine pj_X_eqi hz19.symm ?_
              rw [← hz19, pj_nm_e]
              refine pj_X_of (fun r h => pj_R_to (G17, 138, [(5, .int z19), (8, .int v6), (0, .ref 171), (1, .int kd), (2, .int n), (3, .int f), (4, .int sp), (6, .int v6), (7, .int v7)], [.int (v6 + sp)], 0, 0) 138 5 (fun _ => rfl) h) ?_
              obtain ⟨z20, hz20⟩ : ∃ z : Int32, z = v6 + sp := ⟨_, rfl⟩
              refine pj_X_eqi hz20.symm ?_
              rw [← hz20, pj_nm_e]
              refine pj_X_of (fun r h => pj_R_to (G17, 143, [(7, .int (v7 + Int32.ofInt 1)), (6, .int z20), (5, .int z19), (8, .int v6), (0, .ref 171), (1, .int kd), (2, .int n), (3, .int f), (4, .int sp)], [], 0, 0) 143 3 (fun _ => rfl) h) ?_
              obtain ⟨z21, hz21⟩ : ∃ z : Int32, z = v7 + Int32.ofInt 1 := ⟨_, rfl⟩
              rw [← hz21]
              rw [pj_nm_e]
              have fz21_0 : z21.toInt = v7.toInt + (Int32.ofInt 1).toInt := by rw [hz21]; exact pj_addI (by have := pj_i32 v7; have := pj_i32 (Int32.ofInt 1); omega) (by have := pj_i32 v7; have := pj_i32 (Int32.ofInt 1); omega)
              refine pj_X_of (fun r h => pj_R_to (G17, 46, [(7, .int z21), (6, .int z20), (5, .int z19), (8, .int v6), (0, .ref 171), (1, .int kd), (2, .int n), (3, .int f), (4, .int sp)], [], 0, 0) 46 2 (fun _ => rfl) h) ?_
              exact pj_X_sub [(0, .ref 171), (1, .int kd), (2, .int n), (3, .int f), (4, .int sp), (5, .int z19), (6, .int z20), (7, .int z21)] (show List.Nodup [0, 1, 2, 3, 4, 5, 6, 7] by decide) ⟨rfl, rfl, rfl, rfl, rfl, rfl, rfl, rfl, trivial⟩ (ih G17 iG17 kG17 z19 z20 z21 (pj_i32 _) (pj_i32 _) ⟨by omega, by omega⟩ (by omega))
            | false =>
              rw [pj_cF]
              have ub14 := pj_u_ltF b14
              refine pj_X_of (fun r h => pj_R_icF rfl b14 h) ?_
              refine pj_X_of (fun r h => pj_R_to (G, 116, [(8, .int v6), (0, .ref 171), (1, .int kd), (2, .int n), (3, .int f), (4, .int sp), (5, .int v5), (6, .int v6), (7, .int v7)], [.int (Int32.ofInt 0), .int z7, .ref 179], 0, 0) 116 3 (fun _ => rfl) h) ?_
              refine pj_X_of (fun r h => pj_T_is hI rfl rfl (by omega) (by omega) h) ?_
              show pj_X _ _ (pj_wa G 179 z7.toInt.toNat (Int32.ofInt 0)) 117 [(8, .int v6), (0, .ref 171), (1, .int kd), (2, .int n), (3, .int f), (4, .int sp), (5, .int v5), (6, .int v6), (7, .int v7)] [] _
              obtain ⟨G22, hG22⟩ : ∃ H, H = pj_wa G 179 z7.toInt.toNat (Int32.ofInt 0) := ⟨_, rfl⟩
              have iG22 : pj_Inv G22 := by rw [hG22]; exact pj_Inv_wa hI rfl (fun q hq => by cases hq) (fun n hn => ⟨fun h1 => ⟨fun h2 => by omega, fun h2 => by omega⟩, fun h1 => by omega⟩)
              have kG22 : pj_kpt kc_213x G0 G22 := by rw [hG22]; exact pj_kpt_a hK rfl
              rw [← hG22]
              rw [pj_nm_e]
              refine pj_X_of (fun r h => pj_R_to (G22, 120, [(8, .int v6), (0, .ref 171), (1, .int kd), (2, .int n), (3, .int f), (4, .int sp), (5, .int v5), (6, .int v6), (7, .int v7)], [.ref 171, .int v5], 0, 0) 120 3 (fun _ => rfl) h) ?_
              refine pj_X_of (fun r h => pj_T_gr iG22 rfl rfl rfl h) ?_
              refine pj_X_of (fun r h => pj_R_to (G22, 127, [(8, .int v6), (0, .ref 171), (1, .int kd), (2, .int n), (3, .int f), (4, .int sp), (5, .int v5), (6, .int v6), (7, .int v7)], [.int ((Int32.ofInt 4) * v7), .ref 179, .int v5], 0, 0) 127 4 (fun _ => rfl) h) ?_
              refine pj_X_eqi hz6.symm ?_
              refine pj_X_of (fun r h => pj_R_to (G22, 129, [(8, .int v6), (0, .ref 171), (1, .int kd), (2, .int n), (3, .int f), (4, .int sp), (5, .int v5), (6, .int v6), (7, .int v7)], [.int (z6 + (Int32.ofInt 3)), .ref 179, .int v5], 0, 0) 129 3 (fun _ => rfl) h) ?_
              refine pj_X_eqi hz7.symm ?_
              refine pj_X_of (fun r h => pj_T_il iG22 rfl rfl (by omega) (by omega) h) ?_
              show pj_X _ _ G22 130 [(8, .int v6), (0, .ref 171), (1, .int kd), (2, .int n), (3, .int f), (4, .int sp), (5, .int v5), (6, .int v6), (7, .int v7)] [.int (pj_ai G22 179 z7.toInt.toNat), .int v5] _
              obtain ⟨z23, hz23⟩ : ∃ z : Int32, z = pj_ai G22 179 z7.toInt.toNat := ⟨_, rfl⟩
              refine pj_X_eqi hz23.symm ?_
              rw [← hz23, pj_nm_e]
              have ez23 : (pj_ai G22 179 z7.toInt.toNat).toInt = z23.toInt := by rw [hz23]
              refine pj_X_of (fun r h => pj_R_to (G22, 131, [(8, .int v6), (0, .ref 171), (1, .int kd), (2, .int n), (3, .int f), (4, .int sp), (5, .int v5), (6, .int v6), (7, .int v7)], [.int (v5 + z23)], 0, 0) 131 2 (fun _ => rfl) h) ?_
              obtain ⟨z24, hz24⟩ : ∃ z : Int32, z = v5 + z23 := ⟨_, rfl⟩
              refine pj_X_eqi hz24.symm ?_
              rw [← hz24, pj_nm_e]
              refine pj_X_of (fun r h => pj_R_to (G22, 138, [(5, .int z24), (8, .int v6), (0, .ref 171), (1, .int kd), (2, .int n), (3, .int f), (4, .int sp), (6, .int v6), (7, .int v7)], [.int (v6 + sp)], 0, 0) 138 5 (fun _ => rfl) h) ?_
              obtain ⟨z25, hz25⟩ : ∃ z : Int32, z = v6 + sp := ⟨_, rfl⟩
              refine pj_X_eqi hz25.symm ?_
              rw [← hz25, pj_nm_e]
              refine pj_X_of (fun r h => pj_R_to (G22, 143, [(7, .int (v7 + Int32.ofInt 1)), (6, .int z25), (5, .int z24), (8, .int v6), (0, .ref 171), (1, .int kd), (2, .int n), (3, .int f), (4, .int sp)], [], 0, 0) 143 3 (fun _ => rfl) h) ?_
              obtain ⟨z26, hz26⟩ : ∃ z : Int32, z = v7 + Int32.ofInt 1 := ⟨_, rfl⟩
              rw [← hz26]
              rw [pj_nm_e]
              have fz26_0 : z26.toInt = v7.toInt + (Int32.ofInt 1).toInt := by rw [hz26]; exact pj_addI (by have := pj_i32 v7; have := pj_i32 (Int32.ofInt 1); omega) (by have := pj_i32 v7; have := pj_i32 (Int32.ofInt 1); omega)
              refine pj_X_of (fun r h => pj_R_to (G22, 46, [(7, .int z26), (6, .int z25), (5, .int z24), (8, .int v6), (0, .ref 171), (1, .int kd), (2, .int n), (3, .int f), (4, .int sp)], [], 0, 0) 46 2 (fun _ => rfl) h) ?_
              exact pj_X_sub [(0, .ref 171), (1, .int kd), (2, .int n), (3, .int f), (4, .int sp), (5, .int z24), (6, .int z25), (7, .int z26)] (show List.Nodup [0, 1, 2, 3, 4, 5, 6, 7] by decide) ⟨rfl, rfl, rfl, rfl, rfl, rfl, rfl, rfl, trivial⟩ (ih G22 iG22 kG22 z24 z25 z26 (pj_i32 _) (pj_i32 _) ⟨by omega, by omega⟩ (by omega))
        | false =>
          rw [pj_cF]
          have ub5 := pj_u_neF b5
          refine pj_X_of (fun r h => pj_R_icF rfl b5 h) ?_
          refine pj_X_of (fun r h => pj_R_to (G, 73, [(0, .ref 171), (1, .int kd), (2, .int n), (3, .int f), (4, .int sp), (5, .int v5), (6, .int v6), (7, .int v7)], [.int v6.toInt16.toInt32], 0, 0) 73 3 (fun _ => rfl) h) ?_
          obtain ⟨z27, hz27⟩ : ∃ z : Int32, z = v6.toInt16.toInt32 := ⟨_, rfl⟩
          refine pj_X_eqi hz27.symm ?_
          rw [← hz27, pj_nm_e]
          refine pj_X_of (fun r h => pj_R_to (G, 81, [(8, .int z27), (0, .ref 171), (1, .int kd), (2, .int n), (3, .int f), (4, .int sp), (5, .int v5), (6, .int v6), (7, .int v7)], [.ref 171], 0, 0) 81 4 (fun _ => rfl) h) ?_
          refine pj_X_of (fun r h => pj_T_gr hI rfl rfl rfl h) ?_
          refine pj_X_of (fun r h => pj_R_to (G, 88, [(8, .int z27), (0, .ref 171), (1, .int kd), (2, .int n), (3, .int f), (4, .int sp), (5, .int v5), (6, .int v6), (7, .int v7)], [.int ((Int32.ofInt 4) * v7), .ref 179], 0, 0) 88 4 (fun _ => rfl) h) ?_
          obtain ⟨z28, hz28⟩ : ∃ z : Int32, z = (Int32.ofInt 4) * v7 := ⟨_, rfl⟩
          refine pj_X_eqi hz28.symm ?_
          rw [← hz28, pj_nm_e]
          have fz28_0 : z28.toInt = 4 * v7.toInt := by rw [hz28]; exact pj_mulL (by decide) (by omega) (by omega)
          refine pj_X_of (fun r h => pj_R_to (G, 90, [(8, .int z27), (0, .ref 171), (1, .int kd), (2, .int n), (3, .int f), (4, .int sp), (5, .int v5), (6, .int v6), (7, .int v7)], [.int (z28 + (Int32.ofInt 3)), .ref 179], 0, 0) 90 3 (fun _ => rfl) h) ?_
          obtain ⟨z29, hz29⟩ : ∃ z : Int32, z = z28 + (Int32.ofInt 3) := ⟨_, rfl⟩
          refine pj_X_eqi hz29.symm ?_
          rw [← hz29, pj_nm_e]
          have fz29_0 : z29.toInt = z28.toInt + (Int32.ofInt 3).toInt := by rw [hz29]; exact pj_addI (by have := pj_i32 z28; have := pj_i32 (Int32.ofInt 3); omega) (by have := pj_i32 z28; have := pj_i32 (Int32.ofInt 3); omega)
          refine pj_X_of (fun r h => pj_R_to (G, 92, [(8, .int z27), (0, .ref 171), (1, .int kd), (2, .int n), (3, .int f), (4, .int sp), (5, .int v5), (6, .int v6), (7, .int v7)], [.int (Int32.ofInt 3), .int kd, .int z29, .ref 179], 0, 0) 92 3 (fun _ => rfl) h) ?_
          refine pj_X_of (fun r h => pj_R_icF rfl (pj_b_eqF (by omega)) h) ?_
          refine pj_X_of (fun r h => pj_R_to (G, 98, [(8, .int z27), (0, .ref 171), (1, .int kd), (2, .int n), (3, .int f), (4, .int sp), (5, .int v5), (6, .int v6), (7, .int v7)], [.int n, .int v7, .int z29, .ref 179], 0, 0) 98 3 (fun _ => rfl) h) ?_
          cases b30 : pj_c1 .lt v7 n with
          | true =>
            rw [pj_cT]
            have ub30 := pj_u_ltT b30
            refine pj_X_of (fun r h => pj_R_icT 105 rfl rfl b30 h) ?_
            refine pj_X_of (fun r h => pj_R_to (G, 110, [(8, .int z27), (0, .ref 171), (1, .int kd), (2, .int n), (3, .int f), (4, .int sp), (5, .int v5), (6, .int v6), (7, .int v7)], [.int z27, .int ((Int8.ofInt 9).toInt32), .int (Int32.ofInt 0), .int z29, .ref 179], 0, 0) 110 4 (fun _ => rfl) h) ?_
            refine pj_X_of (fun r h => pj_R_mn (v := (if z27 < ((Int8.ofInt 9).toInt32) then z27 else ((Int8.ofInt 9).toInt32))) rfl rfl rfl (Nat.le_of_ble_eq_true rfl) h) ?_
            show pj_X _ _ G 113 [(8, .int z27), (0, .ref 171), (1, .int kd), (2, .int n), (3, .int f), (4, .int sp), (5, .int v5), (6, .int v6), (7, .int v7)] [.int (if z27 < ((Int8.ofInt 9).toInt32) then z27 else ((Int8.ofInt 9).toInt32)), .int (Int32.ofInt 0), .int z29, .ref 179] _
            obtain ⟨z31, hz31⟩ : ∃ z : Int32, z = (if z27 < ((Int8.ofInt 9).toInt32) then z27 else ((Int8.ofInt 9).toInt32)) := ⟨_, rfl⟩
            refine pj_X_eqi hz31.symm ?_
            rw [← hz31, pj_nm_e]
            have fz31_0 : z31.toInt ≤ ((Int8.ofInt 9).toInt32).toInt ∧ z31.toInt ≤ z27.toInt ∧ (z31.toInt = ((Int8.ofInt 9).toInt32).toInt ∨ z31.toInt = z27.toInt) := by rw [hz31]; exact pj_minI
            refine pj_X_of (fun r h => pj_R_mx (v := (if (Int32.ofInt 0) < z31 then z31 else (Int32.ofInt 0))) rfl rfl rfl (Nat.le_of_ble_eq_true rfl) h) ?_
            show pj_X _ _ G 116 [(8, .int z27), (0, .ref 171), (1, .int kd), (2, .int n), (3, .int f), (4, .int sp), (5, .int v5), (6, .int v6), (7, .int v7)] [.int (if (Int32.ofInt 0) < z31 then z31 else (Int32.ofInt 0)), .int z29, .ref 179] _
            obtain ⟨z32, hz32⟩ : ∃ z : Int32, z = (if (Int32.ofInt 0) < z31 then z31 else (Int32.ofInt 0)) := ⟨_, rfl⟩
            refine pj_X_eqi hz32.symm ?_
            rw [← hz32, pj_nm_e]
            have fz32_0 : (Int32.ofInt 0).toInt ≤ z32.toInt ∧ z31.toInt ≤ z32.toInt ∧ (z32.toInt = (Int32.ofInt 0).toInt ∨ z32.toInt = z31.toInt) := by rw [hz32]; exact pj_maxI
            refine pj_X_of (fun r h => pj_T_is hI rfl rfl (by omega) (by omega) h) ?_
            show pj_X _ _ (pj_wa G 179 z29.toInt.toNat z32) 117 [(8, .int z27), (0, .ref 171), (1, .int kd), (2, .int n), (3, .int f), (4, .int sp), (5, .int v5), (6, .int v6), (7, .int v7)] [] _
            obtain ⟨G33, hG33⟩ : ∃ H, H = pj_wa G 179 z29.toInt.toNat z32 := ⟨_, rfl⟩
            have iG33 : pj_Inv G33 := by rw [hG33]; exact pj_Inv_wa hI rfl (fun q hq => by cases hq) (fun n hn => ⟨fun h1 => ⟨fun h2 => by omega, fun h2 => by omega⟩, fun h1 => by omega⟩)
            have kG33 : pj_kpt kc_213x G0 G33 := by rw [hG33]; exact pj_kpt_a hK rfl
            rw [← hG33]
            rw [pj_nm_e]
            refine pj_X_of (fun r h => pj_R_to (G33, 120, [(8, .int z27), (0, .ref 171), (1, .int kd), (2, .int n), (3, .int f), (4, .int sp), (5, .int v5), (6, .int v6), (7, .int v7)], [.ref 171, .int v5], 0, 0) 120 3 (fun _ => rfl) h) ?_
            refine pj_X_of (fun r h => pj_T_gr iG33 rfl rfl rfl h) ?_
            refine pj_X_of (fun r h => pj_R_to (G33, 127, [(8, .int z27), (0, .ref 171), (1, .int kd), (2, .int n), (3, .int f), (4, .int sp), (5, .int v5), (6, .int v6), (7, .int v7)], [.int ((Int32.ofInt 4) * v7), .ref 179, .int v5], 0, 0) 127 4 (fun _ => rfl) h) ?_
            refine pj_X_eqi hz28.symm ?_
            refine pj_X_of (fun r h => pj_R_to (G33, 129, [(8, .int z27), (0, .ref 171), (1, .int kd), (2, .int n), (3, .int f), (4, .int sp), (5, .int v5), (6, .int v6), (7, .int v7)], [.int (z28 + (Int32.ofInt 3)), .ref 179, .int v5], 0, 0) 129 3 (fun _ => rfl) h) ?_
            refine pj_X_eqi hz29.symm ?_
            refine pj_X_of (fun r h => pj_T_il iG33 rfl rfl (by omega) (by omega) h) ?_
            show pj_X _ _ G33 130 [(8, .int z27), (0, .ref 171), (1, .int kd), (2, .int n), (3, .int f), (4, .int sp), (5, .int v5), (6, .int v6), (7, .int v7)] [.int (pj_ai G33 179 z29.toInt.toNat), .int v5] _
            obtain ⟨z34, hz34⟩ : ∃ z : Int32, z = pj_ai G33 179 z29.toInt.toNat := ⟨_, rfl⟩
            refine pj_X_eqi hz34.symm ?_
            rw [← hz34, pj_nm_e]
            have ez34 : (pj_ai G33 179 z29.toInt.toNat).toInt = z34.toInt := by rw [hz34]
            refine pj_X_of (fun r h => pj_R_to (G33, 131, [(8, .int z27), (0, .ref 171), (1, .int kd), (2, .int n), (3, .int f), (4, .int sp), (5, .int v5), (6, .int v6), (7, .int v7)], [.int (v5 + z34)], 0, 0) 131 2 (fun _ => rfl) h) ?_
            obtain ⟨z35, hz35⟩ : ∃ z : Int32, z = v5 + z34 := ⟨_, rfl⟩
            refine pj_X_eqi hz35.symm ?_
            rw [← hz35, pj_nm_e]
            refine pj_X_of (fun r h => pj_R_to (G33, 138, [(5, .int z35), (8, .int z27), (0, .ref 171), (1, .int kd), (2, .int n), (3, .int f), (4, .int sp), (6, .int v6), (7, .int v7)], [.int (v6 + sp)], 0, 0) 138 5 (fun _ => rfl) h) ?_
            obtain ⟨z36, hz36⟩ : ∃ z : Int32, z = v6 + sp := ⟨_, rfl⟩
            refine pj_X_eqi hz36.symm ?_
            rw [← hz36, pj_nm_e]
            refine pj_X_of (fun r h => pj_R_to (G33, 143, [(7, .int (v7 + Int32.ofInt 1)), (6, .int z36), (5, .int z35), (8, .int z27), (0, .ref 171), (1, .int kd), (2, .int n), (3, .int f), (4, .int sp)], [], 0, 0) 143 3 (fun _ => rfl) h) ?_
            obtain ⟨z37, hz37⟩ : ∃ z : Int32, z = v7 + Int32.ofInt 1 := ⟨_, rfl⟩
            rw [← hz37]
            rw [pj_nm_e]
            have fz37_0 : z37.toInt = v7.toInt + (Int32.ofInt 1).toInt := by rw [hz37]; exact pj_addI (by have := pj_i32 v7; have := pj_i32 (Int32.ofInt 1); omega) (by have := pj_i32 v7; have := pj_i32 (Int32.ofInt 1); omega)
            refine pj_X_of (fun r h => pj_R_to (G33, 46, [(7, .int z37), (6, .int z36), (5, .int z35), (8, .int z27), (0, .ref 171), (1, .int kd), (2, .int n), (3, .int f), (4, .int sp)], [], 0, 0) 46 2 (fun _ => rfl) h) ?_
            exact pj_X_sub [(0, .ref 171), (1, .int kd), (2, .int n), (3, .int f), (4, .int sp), (5, .int z35), (6, .int z36), (7, .int z37)] (show List.Nodup [0, 1, 2, 3, 4, 5, 6, 7] by decide) ⟨rfl, rfl, rfl, rfl, rfl, rfl, rfl, rfl, trivial⟩ (ih G33 iG33 kG33 z35 z36 z37 (pj_i32 _) (pj_i32 _) ⟨by omega, by omega⟩ (by omega))
          | false =>
            rw [pj_cF]
            have ub30 := pj_u_ltF b30
            refine pj_X_of (fun r h => pj_R_icF rfl b30 h) ?_
            refine pj_X_of (fun r h => pj_R_to (G, 116, [(8, .int z27), (0, .ref 171), (1, .int kd), (2, .int n), (3, .int f), (4, .int sp), (5, .int v5), (6, .int v6), (7, .int v7)], [.int (Int32.ofInt 0), .int z29, .ref 179], 0, 0) 116 3 (fun _ => rfl) h) ?_
            refine pj_X_of (fun r h => pj_T_is hI rfl rfl (by omega) (by omega) h) ?_
            show pj_X _ _ (pj_wa G 179 z29.toInt.toNat (Int32.ofInt 0)) 117 [(8, .int z27), (0, .ref 171), (1, .int kd), (2, .int n), (3, .int f), (4, .int sp), (5, .int v5), (6, .int v6), (7, .int v7)] [] _
            obtain ⟨G38, hG38⟩ : ∃ H, H = pj_wa G 179 z29.toInt.toNat (Int32.ofInt 0) := ⟨_, rfl⟩
            have iG38 : pj_Inv G38 := by rw [hG38]; exact pj_Inv_wa hI rfl (fun q hq => by cases hq) (fun n hn => ⟨fun h1 => ⟨fun h2 => by omega, fun h2 => by omega⟩, fun h1 => by omega⟩)
            have kG38 : pj_kpt kc_213x G0 G38 := by rw [hG38]; exact pj_kpt_a hK rfl
            rw [← hG38]
            rw [pj_nm_e]
            refine pj_X_of (fun r h => pj_R_to (G38, 120, [(8, .int z27), (0, .ref 171), (1, .int kd), (2, .int n), (3, .int f), (4, .int sp), (5, .int v5), (6, .int v6), (7, .int v7)], [.ref 171, .int v5], 0, 0) 120 3 (fun _ => rfl) h) ?_
            refine pj_X_of (fun r h => pj_T_gr iG38 rfl rfl rfl h) ?_
            refine pj_X_of (fun r h => pj_R_to (G38, 127, [(8, .int z27), (0, .ref 171), (1, .int kd), (2, .int n), (3, .int f), (4, .int sp), (5, .int v5), (6, .int v6), (7, .int v7)], [.int ((Int32.ofInt 4) * v7), .ref 179, .int v5], 0, 0) 127 4 (fun _ => rfl) h) ?_
            refine pj_X_eqi hz28.symm ?_
            refine pj_X_of (fun r h => pj_R_to (G38, 129, [(8, .int z27), (0, .ref 171), (1, .int kd), (2, .int n), (3, .int f), (4, .int sp), (5, .int v5), (6, .int v6), (7, .int v7)], [.int (z28 + (Int32.ofInt 3)), .ref 179, .int v5], 0, 0) 129 3 (fun _ => rfl) h) ?_
            refine pj_X_eqi hz29.symm ?_
            refine pj_X_of (fun r h => pj_T_il iG38 rfl rfl (by omega) (by omega) h) ?_
            show pj_X _ _ G38 130 [(8, .int z27), (0, .ref 171), (1, .int kd), (2, .int n), (3, .int f), (4, .int sp), (5, .int v5), (6, .int v6), (7, .int v7)] [.int (pj_ai G38 179 z29.toInt.toNat), .int v5] _
            obtain ⟨z39, hz39⟩ : ∃ z : Int32, z = pj_ai G38 179 z29.toInt.toNat := ⟨_, rfl⟩
            refine pj_X_eqi hz39.symm ?_
            rw [← hz39, pj_nm_e]
            have ez39 : (pj_ai G38 179 z29.toInt.toNat).toInt = z39.toInt := by rw [hz39]
            refine pj_X_of (fun r h => pj_R_to (G38, 131, [(8, .int z27), (0, .ref 171), (1, .int kd), (2, .int n), (3, .int f), (4, .int sp), (5, .int v5), (6, .int v6), (7, .int v7)], [.int (v5 + z39)], 0, 0) 131 2 (fun _ => rfl) h) ?_
            obtain ⟨z40, hz40⟩ : ∃ z : Int32, z = v5 + z39 := ⟨_, rfl⟩
            refine pj_X_eqi hz40.symm ?_
            rw [← hz40, pj_nm_e]
            refine pj_X_of (fun r h => pj_R_to (G38, 138, [(5, .int z40), (8, .int z27), (0, .ref 171), (1, .int kd), (2, .int n), (3, .int f), (4, .int sp), (6, .int v6), (7, .int v7)], [.int (v6 + sp)], 0, 0) 138 5 (fun _ => rfl) h) ?_
            obtain ⟨z41, hz41⟩ : ∃ z : Int32, z = v6 + sp := ⟨_, rfl⟩
            refine pj_X_eqi hz41.symm ?_
            rw [← hz41, pj_nm_e]
            refine pj_X_of (fun r h => pj_R_to (G38, 143, [(7, .int (v7 + Int32.ofInt 1)), (6, .int z41), (5, .int z40), (8, .int z27), (0, .ref 171), (1, .int kd), (2, .int n), (3, .int f), (4, .int sp)], [], 0, 0) 143 3 (fun _ => rfl) h) ?_
            obtain ⟨z42, hz42⟩ : ∃ z : Int32, z = v7 + Int32.ofInt 1 := ⟨_, rfl⟩
            rw [← hz42]
            rw [pj_nm_e]
            have fz42_0 : z42.toInt = v7.toInt + (Int32.ofInt 1).toInt := by rw [hz42]; exact pj_addI (by have := pj_i32 v7; have := pj_i32 (Int32.ofInt 1); omega) (by have := pj_i32 v7; have := pj_i32 (Int32.ofInt 1); omega)
            refine pj_X_of (fun r h => pj_R_to (G38, 46, [(7, .int z42), (6, .int z41), (5, .int z40), (8, .int z27), (0, .ref 171), (1, .int kd), (2, .int n), (3, .int f), (4, .int sp)], [], 0, 0) 46 2 (fun _ => rfl) h) ?_
            exact pj_X_sub [(0, .ref 171), (1, .int kd), (2, .int n), (3, .int f), (4, .int sp), (5, .int z40), (6, .int z41), (7, .int z42)] (show List.Nodup [0, 1, 2, 3, 4, 5, 6, 7] by decide) ⟨rfl, rfl, rfl, rfl, rfl, rfl, rfl, rfl, trivial⟩ (ih G38 iG38 kG38 z40 z41 z42 (pj_i32 _) (pj_i32 _) ⟨by omega, by omega⟩ (by omega))
      | false =>
        rw [pj_cF]
        have ub4 := pj_u0_neF b4
        refine pj_X_of (fun r h => pj_R_ifF rfl b4 h) ?_
        refine pj_X_of (fun r h => pj_R_to (G, 62, [(0, .ref 171), (1, .int kd), (2, .int n), (3, .int f), (4, .int sp), (5, .int v5), (6, .int v6), (7, .int v7)], [.int v6.toInt8.toInt32], 0, 0) 62 3 (fun _ => rfl) h) ?_
        obtain ⟨z43, hz43⟩ : ∃ z : Int32, z = v6.toInt8.toInt32 := ⟨_, rfl⟩
        refine pj_X_eqi hz43.symm ?_
        rw [← hz43, pj_nm_e]
        refine pj_X_of (fun r h => pj_R_to (G, 81, [(8, .int z43), (0, .ref 171), (1, .int kd), (2, .int n), (3, .int f), (4, .int sp), (5, .int v5), (6, .int v6), (7, .int v7)], [.ref 171], 0, 0) 81 4 (fun _ => rfl) h) ?_
        refine pj_X_of (fun r h => pj_T_gr hI rfl rfl rfl h) ?_
        refine pj_X_of (fun r h => pj_R_to (G, 88, [(8, .int z43), (0, .ref 171), (1, .int kd), (2, .int n), (3, .int f), (4, .int sp), (5, .int v5), (6, .int v6), (7, .int v7)], [.int ((Int32.ofInt 4) * v7), .ref 179], 0, 0) 88 4 (fun _ => rfl) h) ?_
        obtain ⟨z44, hz44⟩ : ∃ z : Int32, z = (Int32.ofInt 4) * v7 := ⟨_, rfl⟩
        refine pj_X_eqi hz44.symm ?_
        rw [← hz44, pj_nm_e]
        have fz44_0 : z44.toInt = 4 * v7.toInt := by rw [hz44]; exact pj_mulL (by decide) (by omega) (by omega)
        refine pj_X_of (fun r h => pj_R_to (G, 90, [(8, .int z43), (0, .ref 171), (1, .int kd), (2, .int n), (3, .int f), (4, .int sp), (5, .int v5), (6, .int v6), (7, .int v7)], [.int (z44 + (Int32.ofInt 3)), .ref 179], 0, 0) 90 3 (fun _ => rfl) h) ?_
        obtain ⟨z45, hz45⟩ : ∃ z : Int32, z = z44 + (Int32.ofInt 3) := ⟨_, rfl⟩
        refine pj_X_eqi hz45.symm ?_
        rw [← hz45, pj_nm_e]
        have fz45_0 : z45.toInt = z44.toInt + (Int32.ofInt 3).toInt := by rw [hz45]; exact pj_addI (by have := pj_i32 z44; have := pj_i32 (Int32.ofInt 3); omega) (by have := pj_i32 z44; have := pj_i32 (Int32.ofInt 3); omega)
        refine pj_X_of (fun r h => pj_R_to (G, 92, [(8, .int z43), (0, .ref 171), (1, .int kd), (2, .int n), (3, .int f), (4, .int sp), (5, .int v5), (6, .int v6), (7, .int v7)], [.int (Int32.ofInt 3), .int kd, .int z45, .ref 179], 0, 0) 92 3 (fun _ => rfl) h) ?_
        refine pj_X_of (fun r h => pj_R_icF rfl (pj_b_eqF (by omega)) h) ?_
        refine pj_X_of (fun r h => pj_R_to (G, 98, [(8, .int z43), (0, .ref 171), (1, .int kd), (2, .int n), (3, .int f), (4, .int sp), (5, .int v5), (6, .int v6), (7, .int v7)], [.int n, .int v7, .int z45, .ref 179], 0, 0) 98 3 (fun _ => rfl) h) ?_
        cases b46 : pj_c1 .lt v7 n with
        | true =>
          rw [pj_cT]
          have ub46 := pj_u_ltT b46
          refine pj_X_of (fun r h => pj_R_icT 105 rfl rfl b46 h) ?_
          refine pj_X_of (fun r h => pj_R_to (G, 110, [(8, .int z43), (0, .ref 171), (1, .int kd), (2, .int n), (3, .int f), (4, .int sp), (5, .int v5), (6, .int v6), (7, .int v7)], [.int z43, .int ((Int8.ofInt 9).toInt32), .int (Int32.ofInt 0), .int z45, .ref 179], 0, 0) 110 4 (fun _ => rfl) h) ?_
          refine pj_X_of (fun r h => pj_R_mn (v := (if z43 < ((Int8.ofInt 9).toInt32) then z43 else ((Int8.ofInt 9).toInt32))) rfl rfl rfl (Nat.le_of_ble_eq_true rfl) h) ?_
          show pj_X _ _ G 113 [(8, .int z43), (0, .ref 171), (1, .int kd), (2, .int n), (3, .int f), (4, .int sp), (5, .int v5), (6, .int v6), (7, .int v7)] [.int (if z43 < ((Int8.ofInt 9).toInt32) then z43 else ((Int8.ofInt 9).toInt32)), .int (Int32.ofInt 0), .int z45, .ref 179] _
          obtain ⟨z47, hz47⟩ : ∃ z : Int32, z = (if z43 < ((Int8.ofInt 9).toInt32) then z43 else ((Int8.ofInt 9).toInt32)) := ⟨_, rfl⟩
          refine pj_X_eqi hz47.symm ?_
          rw [← hz47, pj_nm_e]
          have fz47_0 : z47.toInt ≤ ((Int8.ofInt 9).toInt32).toInt ∧ z47.toInt ≤ z43.toInt ∧ (z47.toInt = ((Int8.ofInt 9).toInt32).toInt ∨ z47.toInt = z43.toInt) := by rw [hz47]; exact pj_minI
          refine pj_X_of (fun r h => pj_R_mx (v := (if (Int32.ofInt 0) < z47 then z47 else (Int32.ofInt 0))) rfl rfl rfl (Nat.le_of_ble_eq_true rfl) h) ?_
          show pj_X _ _ G 116 [(8, .int z43), (0, .ref 171), (1, .int kd), (2, .int n), (3, .int f), (4, .int sp), (5, .int v5), (6, .int v6), (7, .int v7)] [.int (if (Int32.ofInt 0) < z47 then z47 else (Int32.ofInt 0)), .int z45, .ref 179] _
          obtain ⟨z48, hz48⟩ : ∃ z : Int32, z = (if (Int32.ofInt 0) < z47 then z47 else (Int32.ofInt 0)) := ⟨_, rfl⟩
          refine pj_X_eqi hz48.symm ?_
          rw [← hz48, pj_nm_e]
          have fz48_0 : (Int32.ofInt 0).toInt ≤ z48.toInt ∧ z47.toInt ≤ z48.toInt ∧ (z48.toInt = (Int32.ofInt 0).toInt ∨ z48.toInt = z47.toInt) := by rw [hz48]; exact pj_maxI
          refine pj_X_of (fun r h => pj_T_is hI rfl rfl (by omega) (by omega) h) ?_
          show pj_X _ _ (pj_wa G 179 z45.toInt.toNat z48) 117 [(8, .int z43), (0, .ref 171), (1, .int kd), (2, .int n), (3, .int f), (4, .int sp), (5, .int v5), (6, .int v6), (7, .int v7)] [] _
          obtain ⟨G49, hG49⟩ : ∃ H, H = pj_wa G 179 z45.toInt.toNat z48 := ⟨_, rfl⟩
          have iG49 : pj_Inv G49 := by rw [hG49]; exact pj_Inv_wa hI rfl (fun q hq => by cases hq) (fun n hn => ⟨fun h1 => ⟨fun h2 => by omega, fun h2 => by omega⟩, fun h1 => by omega⟩)
          have kG49 : pj_kpt kc_213x G0 G49 := by rw [hG49]; exact pj_kpt_a hK rfl
          rw [← hG49]
          rw [pj_nm_e]
          refine pj_X_of (fun r h => pj_R_to (G49, 120, [(8, .int z43), (0, .ref 171), (1, .int kd), (2, .int n), (3, .int f), (4, .int sp), (5, .int v5), (6, .int v6), (7, .int v7)], [.ref 171, .int v5], 0, 0) 120 3 (fun _ => rfl) h) ?_
          refine pj_X_of (fun r h => pj_T_gr iG49 rfl rfl rfl h) ?_
          refine pj_X_of (fun r h => pj_R_to (G49, 127, [(8, .int z43), (0, .ref 171), (1, .int kd), (2, .int n), (3, .int f), (4, .int sp), (5, .int v5), (6, .int v6), (7, .int v7)], [.int ((Int32.ofInt 4) * v7), .ref 179, .int v5], 0, 0) 127 4 (fun _ => rfl) h) ?_
          refine pj_X_eqi hz44.symm ?_
          refine pj_X_of (fun r h => pj_R_to (G49, 129, [(8, .int z43), (0, .ref 171), (1, .int kd), (2, .int n), (3, .int f), (4, .int sp), (5, .int v5), (6, .int v6), (7, .int v7)], [.int (z44 + (Int32.ofInt 3)), .ref 179, .int v5], 0, 0) 129 3 (fun _ => rfl) h) ?_
          refine pj_X_eqi hz45.symm ?_
          refine pj_X_of (fun r h => pj_T_il iG49 rfl rfl (by omega) (by omega) h) ?_
          show pj_X _ _ G49 130 [(8, .int z43), (0, .ref 171), (1, .int kd), (2, .int n), (3, .int f), (4, .int sp), (5, .int v5), (6, .int v6), (7, .int v7)] [.int (pj_ai G49 179 z45.toInt.toNat), .int v5] _
          obtain ⟨z50, hz50⟩ : ∃ z : Int32, z = pj_ai G49 179 z45.toInt.toNat := ⟨_, rfl⟩
          refine pj_X_eqi hz50.symm ?_
          rw [← hz50, pj_nm_e]
          have ez50 : (pj_ai G49 179 z45.toInt.toNat).toInt = z50.toInt := by rw [hz50]
          refine pj_X_of (fun r h => pj_R_to (G49, 131, [(8, .int z43), (0, .ref 171), (1, .int kd), (2, .int n), (3, .int f), (4, .int sp), (5, .int v5), (6, .int v6), (7, .int v7)], [.int (v5 + z50)], 0, 0) 131 2 (fun _ => rfl) h) ?_
          obtain ⟨z51, hz51⟩ : ∃ z : Int32, z = v5 + z50 := ⟨_, rfl⟩
          refine pj_X_eqi hz51.symm ?_
          rw [← hz51, pj_nm_e]
          refine pj_X_of (fun r h => pj_R_to (G49, 138, [(5, .int z51), (8, .int z43), (0, .ref 171), (1, .int kd), (2, .int n), (3, .int f), (4, .int sp), (6, .int v6), (7, .int v7)], [.int (v6 + sp)], 0, 0) 138 5 (fun _ => rfl) h) ?_
          obtain ⟨z52, hz52⟩ : ∃ z : Int32, z = v6 + sp := ⟨_, rfl⟩
          refine pj_X_eqi hz52.symm ?_
          rw [← hz52, pj_nm_e]
          refine pj_X_of (fun r h => pj_R_to (G49, 143, [(7, .int (v7 + Int32.ofInt 1)), (6, .int z52), (5, .int z51), (8, .int z43), (0, .ref 171), (1, .int kd), (2, .int n), (3, .int f), (4, .int sp)], [], 0, 0) 143 3 (fun _ => rfl) h) ?_
          obtain ⟨z53, hz53⟩ : ∃ z : Int32, z = v7 + Int32.ofInt 1 := ⟨_, rfl⟩
          rw [← hz53]
          rw [pj_nm_e]
          have fz53_0 : z53.toInt = v7.toInt + (Int32.ofInt 1).toInt := by rw [hz53]; exact pj_addI (by have := pj_i32 v7; have := pj_i32 (Int32.ofInt 1); omega) (by have := pj_i32 v7; have := pj_i32 (Int32.ofInt 1); omega)
          refine pj_X_of (fun r h => pj_R_to (G49, 46, [(7, .int z53), (6, .int z52), (5, .int z51), (8, .int z43), (0, .ref 171), (1, .int kd), (2, .int n), (3, .int f), (4, .int sp)], [], 0, 0) 46 2 (fun _ => rfl) h) ?_
          exact pj_X_sub [(0, .ref 171), (1, .int kd), (2, .int n), (3, .int f), (4, .int sp), (5, .int z51), (6, .int z52), (7, .int z53)] (show List.Nodup [0, 1, 2, 3, 4, 5, 6, 7] by decide) ⟨rfl, rfl, rfl, rfl, rfl, rfl, rfl, rfl, trivial⟩ (ih G49 iG49 kG49 z51 z52 z53 (pj_i32 _) (pj_i32 _) ⟨by omega, by omega⟩ (by omega))
        | false =>
          rw [pj_cF]
          have ub46 := pj_u_ltF b46
          refine pj_X_of (fun r h => pj_R_icF rfl b46 h) ?_
          refine pj_X_of (fun r h => pj_R_to (G, 116, [(8, .int z43), (0, .ref 171), (1, .int kd), (2, .int n), (3, .int f), (4, .int sp), (5, .int v5), (6, .int v6), (7, .int v7)], [.int (Int32.ofInt 0), .int z45, .ref 179], 0, 0) 116 3 (fun _ => rfl) h) ?_
          refine pj_X_of (fun r h => pj_T_is hI rfl rfl (by omega) (by omega) h) ?_
          show pj_X _ _ (pj_wa G 179 z45.toInt.toNat (Int32.ofInt 0)) 117 [(8, .int z43), (0, .ref 171), (1, .int kd), (2, .int n), (3, .int f), (4, .int sp), (5, .int v5), (6, .int v6), (7, .int v7)] [] _
          obtain ⟨G54, hG54⟩ : ∃ H, H = pj_wa G 179 z45.toInt.toNat (Int32.ofInt 0) := ⟨_, rfl⟩
          have iG54 : pj_Inv G54 := by rw [hG54]; exact pj_Inv_wa hI rfl (fun q hq => by cases hq) (fun n hn => ⟨fun h1 => ⟨fun h2 => by omega, fun h2 => by omega⟩, fun h1 => by omega⟩)
          have kG54 : pj_kpt kc_213x G0 G54 := by rw [hG54]; exact pj_kpt_a hK rfl
          rw [← hG54]
          rw [pj_nm_e]
          refine pj_X_of (fun r h => pj_R_to (G54, 120, [(8, .int z43), (0, .ref 171), (1, .int kd), (2, .int n), (3, .int f), (4, .int sp), (5, .int v5), (6, .int v6), (7, .int v7)], [.ref 171, .int v5], 0, 0) 120 3 (fun _ => rfl) h) ?_
          refine pj_X_of (fun r h => pj_T_gr iG54 rfl rfl rfl h) ?_
          refine pj_X_of (fun r h => pj_R_to (G54, 127, [(8, .int z43), (0, .ref 171), (1, .int kd), (2, .int n), (3, .int f), (4, .int sp), (5, .int v5), (6, .int v6), (7, .int v7)], [.int ((Int32.ofInt 4) * v7), .ref 179, .int v5], 0, 0) 127 4 (fun _ => rfl) h) ?_
          refine pj_X_eqi hz44.symm ?_
          refine pj_X_of (fun r h => pj_R_to (G54, 129, [(8, .int z43), (0, .ref 171), (1, .int kd), (2, .int n), (3, .int f), (4, .int sp), (5, .int v5), (6, .int v6), (7, .int v7)], [.int (z44 + (Int32.ofInt 3)), .ref 179, .int v5], 0, 0) 129 3 (fun _ => rfl) h) ?_
          refine pj_X_eqi hz45.symm ?_
          refine pj_X_of (fun r h => pj_T_il iG54 rfl rfl (by omega) (by omega) h) ?_
          show pj_X _ _ G54 130 [(8, .int z43), (0, .ref 171), (1, .int kd), (2, .int n), (3, .int f), (4, .int sp), (5, .int v5), (6, .int v6), (7, .int v7)] [.int (pj_ai G54 179 z45.toInt.toNat), .int v5] _
          obtain ⟨z55, hz55⟩ : ∃ z : Int32, z = pj_ai G54 179 z45.toInt.toNat := ⟨_, rfl⟩
          refine pj_X_eqi hz55.symm ?_
          rw [← hz55, pj_nm_e]
          have ez55 : (pj_ai G54 179 z45.toInt.toNat).toInt = z55.toInt := by rw [hz55]
          refine pj_X_of (fun r h => pj_R_to (G54, 131, [(8, .int z43), (0, .ref 171), (1, .int kd), (2, .int n), (3, .int f), (4, .int sp), (5, .int v5), (6, .int v6), (7, .int v7)], [.int (v5 + z55)], 0, 0) 131 2 (fun _ => rfl) h) ?_
          obtain ⟨z56, hz56⟩ : ∃ z : Int32, z = v5 + z55 := ⟨_, rfl⟩
          refine pj_X_eqi hz56.symm ?_
          rw [← hz56, pj_nm_e]
          refine pj_X_of (fun r h => pj_R_to (G54, 138, [(5, .int z56), (8, .int z43), (0, .ref 171), (1, .int kd), (2, .int n), (3, .int f), (4, .int sp), (6, .int v6), (7, .int v7)], [.int (v6 + sp)], 0, 0) 138 5 (fun _ => rfl) h) ?_
          obtain ⟨z57, hz57⟩ : ∃ z : Int32, z = v6 + sp := ⟨_, rfl⟩
          refine pj_X_eqi hz57.symm ?_
          rw [← hz57, pj_nm_e]
          refine pj_X_of (fun r h => pj_R_to (G54, 143, [(7, .int (v7 + Int32.ofInt 1)), (6, .int z57), (5, .int z56), (8, .int z43), (0, .ref 171), (1, .int kd), (2, .int n), (3, .int f), (4, .int sp)], [], 0, 0) 143 3 (fun _ => rfl) h) ?_
          obtain ⟨z58, hz58⟩ : ∃ z : Int32, z = v7 + Int32.ofInt 1 := ⟨_, rfl⟩
          rw [← hz58]
          rw [pj_nm_e]
          have fz58_0 : z58.toInt = v7.toInt + (Int32.ofInt 1).toInt := by rw [hz58]; exact pj_addI (by have := pj_i32 v7; have := pj_i32 (Int32.ofInt 1); omega) (by have := pj_i32 v7; have := pj_i32 (Int32.ofInt 1); omega)
          refine pj_X_of (fun r h => pj_R_to (G54, 46, [(7, .int z58), (6, .int z57), (5, .int z56), (8, .int z43), (0, .ref 171), (1, .int kd), (2, .int n), (3, .int f), (4, .int sp)], [], 0, 0) 46 2 (fun _ => rfl) h) ?_
          exact pj_X_sub [(0, .ref 171), (1, .int kd), (2, .int n), (3, .int f), (4, .int sp), (5, .int z56), (6, .int z57), (7, .int z58)] (show List.Nodup [0, 1, 2, 3, 4, 5, 6, 7] by decide) ⟨rfl, rfl, rfl, rfl, rfl, rfl, rfl, rfl, trivial⟩ (ih G54 iG54 kG54 z56 z57 z58 (pj_i32 _) (pj_i32 _) ⟨by omega, by omega⟩ (by omega))
theorem ct_213x (G0 : pj_G) (hI : pj_Inv G0) (kd : Int32) (n : Int32) (f : Int32) (sp : Int32) : pj_Y 2 213 [.ref 171, .int kd, .int n, .int f, .int sp] G0 (fun v' G' => ∃ y : Int32, v' = some (.int y) ∧ pj_Inv G' ∧ pj_kpt kc_213x G0 G' ∧ ((-2147483648 : Int) ≤ y.toInt ∧ y.toInt ≤ 2147483647) ∧ ((y, G') = F_214x G0 kd n f sp)) := by
  have c0_ : ((Int8.ofInt (-2)).toInt32).toInt = -2 := by decide
  have c1_ : ((Int8.ofInt (-3)).toInt32).toInt = -3 := by decide
  have c2_ : ((Int8.ofInt 6).toInt32).toInt = 6 := by decide
  have c3_ : ((Int8.ofInt 9).toInt32).toInt = 9 := by decide
  have c4_ : (Int32.ofInt (-1)).toInt = -1 := by decide
  have c5_ : (Int32.ofInt 0).toInt = 0 := by decide
  have c6_ : (Int32.ofInt 1).toInt = 1 := by decide
  have c7_ : (Int32.ofInt 3).toInt = 3 := by decide
  have c8_ : (Int32.ofInt 4).toInt = 4 := by decide
  refine pj_Y_X (M := pj_m213) rfl rfl (Nat.le_of_ble_eq_true rfl) ?_
  have hK : pj_kpt kc_213x G0 G0 := pj_kpt_r _ _
  show pj_X _ _ G0 0 [(0, .ref 171), (1, .int kd), (2, .int n), (3, .int f), (4, .int sp)] [] _
  rw [F_214x_e]
  refine pj_X_of (fun r h => pj_R_to (G0, 2, [(0, .ref 171), (1, .int kd), (2, .int n), (3, .int f), (4, .int sp)], [.int (Int32.ofInt 0), .ref 171], 0, 0) 2 3 (fun _ => rfl) h) ?_
  refine pj_X_of (fun r h => pj_T_pf hI rfl rfl rfl h) ?_
  show pj_X _ _ (pj_wv G0 171 0 (.int (Int32.ofInt 0))) 5 [(0, .ref 171), (1, .int kd), (2, .int n), (3, .int f), (4, .int sp)] [] _
  obtain ⟨G59, hG59⟩ : ∃ H, H = pj_wv G0 171 0 (.int (Int32.ofInt 0)) := ⟨_, rfl⟩
  have iG59 : pj_Inv G59 := by rw [hG59]; exact pj_Inv_wi hI (ci := 12) rfl (fun q hq => by cases hq)
  have kG59 : pj_kpt kc_213x G0 G59 := by rw [hG59]; exact pj_kpt_v hK rfl
  rw [← hG59]
  rw [pj_nm_e]
  refine pj_X_of (fun r h => pj_R_to (G59, 11, [(0, .ref 171), (1, .int kd), (2, .int n), (3, .int f), (4, .int sp)], [.long (Int64.ofInt 3), .long (Int64.ofNat 0), .long kd.toInt64], 0, 0) 11 5 (fun _ => rfl) h) ?_
  have lc60 : (kd.toInt64).toInt = kd.toInt := Int32.toInt_toInt64 _
  have lc61 : (Int64.ofNat 0).toInt = 0 := by decide
  have lc62 : (Int64.ofInt 3).toInt = 3 := by decide
  refine pj_X_ca (vs := [.long kd.toInt64, .long (Int64.ofNat 0), .long (Int64.ofInt 3)]) rfl (fun _ => rfl) ⟨Nat.le_of_ble_eq_true rfl, Nat.le_of_ble_eq_true rfl, rfl⟩ ⟨rfl, rfl⟩ (pj_Y_up (by decide) (ct_170x G59 iG59 kd.toInt64 (Int64.ofNat 0) (Int64.ofInt 3))) ?_
  rintro _ _ ⟨y63, rfl, rfl, ry63, ey63, fy63⟩
  rw [← fy63, pj_nm_e]
  show pj_X _ _ G59 14 [(0, .ref 171), (1, .int kd), (2, .int n), (3, .int f), (4, .int sp)] [.int y63] _
  cases b64 : pj_c1 .eq y63 0 with
  | true =>
    rw [pj_cT]
    have ub64 := pj_u0_eqT b64
    refine pj_X_of (fun r h => pj_R_ifT 23 rfl rfl b64 h) ?_
    refine pj_X_of (fun r h => pj_R_to (G59, 24, [(0, .ref 171), (1, .int kd), (2, .int n), (3, .int f), (4, .int sp)], [.int (Int32.ofInt (-1))], 0, 0) 24 2 (fun _ => rfl) h) ?_
    exact pj_X_rt rfl rfl ⟨_, rfl, iG59, kG59, pj_i32 _, rfl⟩
  | false =>
    rw [pj_cF]
    have ub64 := pj_u0_eqF b64
    refine pj_X_of (fun r h => pj_R_ifF rfl b64 h) ?_
    refine pj_X_of (fun r h => pj_R_to (G59, 20, [(0, .ref 171), (1, .int kd), (2, .int n), (3, .int f), (4, .int sp)], [.int ((Int8.ofInt 6).toInt32), .int n], 0, 0) 20 3 (fun _ => rfl) h) ?_
    cases b65 : pj_c1 .le n ((Int8.ofInt 6).toInt32) with
    | true =>
      rw [pj_cT]
      have ub65 := pj_u_leT b65
      refine pj_X_of (fun r h => pj_R_icT 25 rfl rfl b65 h) ?_
      refine pj_X_of (fun r h => pj_R_to (G59, 27, [(0, .ref 171), (1, .int kd), (2, .int n), (3, .int f), (4, .int sp)], [.int (Int32.ofInt 3), .int kd], 0, 0) 27 3 (fun _ => rfl) h) ?_
      cases b66 : pj_c1 .eq kd (Int32.ofInt 3) with
      | true =>
        rw [pj_cT]
        have ub66 := pj_u_eqT b66
        refine pj_X_of (fun r h => pj_R_icT 37 rfl rfl b66 h) ?_
        refine pj_X_of (fun r h => pj_R_to (G59, 46, [(7, .int (Int32.ofInt 0)), (6, .int f), (5, .int (Int32.ofInt 0)), (0, .ref 171), (1, .int kd), (2, .int n), (3, .int f), (4, .int sp)], [], 0, 0) 46 7 (fun _ => rfl) h) ?_
        exact pj_X_sub [(0, .ref 171), (1, .int kd), (2, .int n), (3, .int f), (4, .int sp), (5, .int (Int32.ofInt 0)), (6, .int f), (7, .int (Int32.ofInt 0))] (show List.Nodup [0, 1, 2, 3, 4, 5, 6, 7] by decide) ⟨rfl, rfl, rfl, rfl, rfl, rfl, rfl, rfl, trivial⟩ ((lp_ct_213x G0 hI kd n f sp  7) G59 iG59 kG59 (Int32.ofInt 0) f (Int32.ofInt 0) (pj_i32 _) (pj_i32 _) ⟨by omega, by omega⟩ (by omega))
      | false =>
        rw [pj_cF]
        have ub66 := pj_u_eqF b66
        refine pj_X_of (fun r h => pj_R_icF rfl b66 h) ?_
        refine pj_X_of (fun r h => pj_R_to (G59, 31, [(0, .ref 171), (1, .int kd), (2, .int n), (3, .int f), (4, .int sp)], [.int n], 0, 0) 31 2 (fun _ => rfl) h) ?_
        cases b67 : pj_c1 .ge n 0 with
        | true =>
          rw [pj_cT]
          have ub67 := pj_u0_geT b67
          refine pj_X_of (fun r h => pj_R_ifT 37 rfl rfl b67 h) ?_
          refine pj_X_of (fun r h => pj_R_to (G59, 46, [(7, .int (Int32.ofInt 0)), (6, .int f), (5, .int (Int32.ofInt 0)), (0, .ref 171), (1, .int kd), (2, .int n), (3, .int f), (4, .int sp)], [], 0, 0) 46 7 (fun _ => rfl) h) ?_
          exact pj_X_sub [(0, .ref 171), (1, .int kd), (2, .int n), (3, .int f), (4, .int sp), (5, .int (Int32.ofInt 0)), (6, .int f), (7, .int (Int32.ofInt 0))] (show List.Nodup [0, 1, 2, 3, 4, 5, 6, 7] by decide) ⟨rfl, rfl, rfl, rfl, rfl, rfl, rfl, rfl, trivial⟩ ((lp_ct_213x G0 hI kd n f sp  7) G59 iG59 kG59 (Int32.ofInt 0) f (Int32.ofInt 0) (pj_i32 _) (pj_i32 _) ⟨by omega, by omega⟩ (by omega))
        | false =>
          rw [pj_cF]
          have ub67 := pj_u0_geF b67
          refine pj_X_of (fun r h => pj_R_ifF rfl b67 h) ?_
          refine pj_X_of (fun r h => pj_R_to (G59, 36, [(0, .ref 171), (1, .int kd), (2, .int n), (3, .int f), (4, .int sp)], [.int ((Int8.ofInt (-2)).toInt32)], 0, 0) 36 2 (fun _ => rfl) h) ?_
          exact pj_X_rt rfl rfl ⟨_, rfl, iG59, kG59, pj_i32 _, rfl⟩
    | false =>
      rw [pj_cF]
      have ub65 := pj_u_leF b65
      refine pj_X_of (fun r h => pj_R_icF rfl b65 h) ?_
      refine pj_X_of (fun r h => pj_R_to (G59, 24, [(0, .ref 171), (1, .int kd), (2, .int n), (3, .int f), (4, .int sp)], [.int (Int32.ofInt (-1))], 0, 0) 24 2 (fun _ => rfl) h) ?_
      exact pj_X_rt rfl rfl ⟨_, rfl, iG59, kG59, pj_i32 _, rfl⟩
theorem fr_214x (G0 : pj_G) (hI : pj_Inv G0) (kd : Int32) (n : Int32) (f : Int32) (sp : Int32) : pj_Inv (F_214x G0 kd n f sp).2 ∧ pj_kpt kc_213x G0 (F_214x G0 kd n f sp).2 := by
  obtain ⟨v, G', -, y, -, i, j, r, e⟩ := ct_213x G0 hI kd n f sp
  rw [← e]
  exact ⟨i, j⟩
/-! SHEETS ON BOTH SIDES -/
def mr_cl9 (w : Int32) : Int32 := if (Int32.ofInt 0) < (if w < ((Int8.ofInt 9).toInt32) then w else ((Int8.ofInt 9).toInt32)) then (if w < ((Int8.ofInt 9).toInt32) then w else ((Int8.ofInt 9).toInt32)) else (Int32.ofInt 0)
def mr_kd (k w : Int32) : Int32 := cond (pj_c1 .ne k 0) (cond (pj_c1 .ne k (Int32.ofInt 1)) w w.toInt16.toInt32) w.toInt8.toInt32
theorem mr_98 (G : pj_G) (k w : Int32) : F_98x G k w = mr_cl9 (mr_kd k w) := by
  rw [F_98x_e]
  unfold mr_kd mr_cl9
  simp only [pj_nm_x]
  cases pj_c1 .ne k 0 with
  | true =>
    simp only [pj_cTx]
    cases pj_c1 .ne k (Int32.ofInt 1) with
    | true => simp only [pj_cTx]
    | false => simp only [pj_cFx]
  | false => simp only [pj_cFx]
def mr_xc (k n f sp b : Int32) : Int32 := cond (pj_c1 .ge b n) (Int32.ofInt 0) (mr_cl9 (mr_kd k (f + b * sp)))
def mr_xr (kd n w b : Int32) : Int32 := cond (pj_c1 .eq kd (Int32.ofInt 3)) (Int32.ofInt 0) (cond (pj_c1 .lt b n) (mr_cl9 (mr_kd kd w)) (Int32.ofInt 0))
theorem mr_97s (C0 : pj_G) (k n f sp : Int32) (fu : Nat) (v5 v6 : Int32) {C : pj_G} (hS : pj_coks pj_tb C.1 = true) : L_97x C0 k n f sp (fu + 1) v5 v6 C = cond (pj_c1 .ge v6 (pj_fi C 21 0)) (v5, C) (L_97x C0 k n f sp fu (v5 + mr_xc k n f sp v6) (v6 + Int32.ofInt 1) (pj_wa C 24 v6.toInt.toNat (mr_xc k n f sp v6))) := by
  have ea : ∀ x, pj_ai (pj_wa C 24 v6.toInt.toNat x) 24 v6.toInt.toNat = x := fun x => pj_ai_wa_eq hS rfl
  rw [L_97x_s0]
  unfold mr_xc
  simp only [pj_nm_x, mr_98, ea]
  cases pj_c1 .ge v6 n with
  | true => simp only [pj_cTx]
  | false => simp only [pj_cFx]
theorem mr_214s (R0 : pj_G) (kd n f sp : Int32) (fu : Nat) (v5 w v7 : Int32) {R : pj_G} (hS : pj_coks pj_tb R.1 = true) : L_214x R0 kd n f sp (fu + 1) v5 w v7 R = cond (pj_c1 .ge v7 (pj_fi R 171 5)) (cond (pj_c1 .ne kd (Int32.ofInt 3)) (v5, R) ((Int8.ofInt (-3)).toInt32, R)) (L_214x R0 kd n f sp fu (v5 + mr_xr kd n w v7) (w + sp) (v7 + Int32.ofInt 1) (pj_wa R 179 (Int32.ofInt 4 * v7 + Int32.ofInt 3).toInt.toNat (mr_xr kd n w v7))) := by
  have k1 : (Int32.ofInt 1).toInt = 1 := by decide
  have k3 : (Int32.ofInt 3).toInt = 3 := by decide
  have ea : ∀ x, pj_ai (pj_wa R 179 (Int32.ofInt 4 * v7 + Int32.ofInt 3).toInt.toNat x) 179 (Int32.ofInt 4 * v7 + Int32.ofInt 3).toInt.toNat = x := fun x => pj_ai_wa_eq hS rfl
  rw [L_214x_s0]
  unfold mr_xr mr_kd mr_cl9
  simp only [pj_nm_x, ea]
  by_cases h0 : kd.toInt = 0
  · simp only [pj_b0_neF h0, pj_b_eqF (show ¬ kd.toInt = (Int32.ofInt 3).toInt by omega), pj_cFx]
    cases pj_c1 .lt v7 n with
    | true => simp only [pj_cTx]
    | false => simp only [pj_cFx]
  · by_cases h1 : kd.toInt = 1
    · simp only [pj_b0_neT h0, pj_b_neF (show kd.toInt = (Int32.ofInt 1).toInt by omega), pj_b_eqF (show ¬ kd.toInt = (Int32.ofInt 3).toInt by omega), pj_cFx, pj_cTx]
      cases pj_c1 .lt v7 n with
      | true => simp only [pj_cTx]
      | false => simp only [pj_cFx]
    · simp only [pj_b0_neT h0, pj_b_neT (show ¬ kd.toInt = (Int32.ofInt 1).toInt by omega), pj_cTx]
      cases pj_c1 .eq kd (Int32.ofInt 3) with
      | true => simp only [pj_cTx]
      | false =>
        simp only [pj_cFx]
        cases pj_c1 .lt v7 n with
        | true => simp only [pj_cTx]
        | false => simp only [pj_cFx]
theorem mr_sl (C0 R0 : pj_G) (k nc f' sp' kd n f sp : Int32) (Rel : Int32 → Int32 → Prop) (hx : ∀ b w : Int32, 0 ≤ b.toInt → Rel b w → mr_xc k nc f' sp' b = mr_xr kd n w b) (hr : ∀ b w : Int32, 0 ≤ b.toInt → Rel b w → Rel (b + Int32.ofInt 1) (w + sp)) : ∀ (m fc fr : Nat) (v5 w b : Int32) (C R : pj_G), pj_coks pj_tb C.1 = true → pj_coks pj_tb R.1 = true → (pj_fi C 21 0).toInt = (pj_fi R 171 5).toInt → (pj_fi C 21 0).toInt ≤ 6 → 0 ≤ b.toInt → b.toInt ≤ (pj_fi C 21 0).toInt → (pj_fi C 21 0).toInt - b.toInt ≤ m → m < fc → m < fr → Rel b w → (∀ j : Nat, (j : Int) < b.toInt → pj_ai C 24 j = pj_ai R 179 (4 * j + 3)) → (L_214x R0 kd n f sp fr v5 w b R).1 = cond (pj_c1 .ne kd (Int32.ofInt 3)) (L_97x C0 k nc f' sp' fc v5 b C).1 (Int8.ofInt (-3)).toInt32 ∧ (∀ j : Nat, (j : Int) < (pj_fi C 21 0).toInt → pj_ai (L_97x C0 k nc f' sp' fc v5 b C).2 24 j = pj_ai (L_214x R0 kd n f sp fr v5 w b R).2 179 (4 * j + 3)) ∧ (∀ j : Nat, j % 4 ≠ 3 ∨ 24 ≤ j → pj_ai (L_214x R0 kd n f sp fr v5 w b R).2 179 j = pj_ai R 179 j) := by
  have k1 : (Int32.ofInt 1).toInt = 1 := by decide
  have k3 : (Int32.ofInt 3).toInt = 3 := by decide
  have k4 : (Int32.ofInt 4).toInt = 4 := by decide
  have fin : ∀ (v5 : Int32) (C R : pj_G), (∀ j : Nat, (j : Int) < (pj_fi C 21 0).toInt → pj_ai C 24 j = pj_ai R 179 (4 * j + 3)) → (cond (pj_c1 .ne kd (Int32.ofInt 3)) (v5, R) ((Int8.ofInt (-3)).toInt32, R)).1 = cond (pj_c1 .ne kd (Int32.ofInt 3)) (v5, C).1 (Int8.ofInt (-3)).toInt32 ∧ (∀ j : Nat, (j : Int) < (pj_fi C 21 0).toInt → pj_ai (v5, C).2 24 j = pj_ai (cond (pj_c1 .ne kd (Int32.ofInt 3)) (v5, R) ((Int8.ofInt (-3)).toInt32, R)).2 179 (4 * j + 3)) ∧ (∀ j : Nat, j % 4 ≠ 3 ∨ 24 ≤ j → pj_ai (cond (pj_c1 .ne kd (Int32.ofInt 3)) (v5, R) ((Int8.ofInt (-3)).toInt32, R)).2 179 j = pj_ai R 179 j) := by
    intro v5 C R h
    cases pj_c1 .ne kd (Int32.ofInt 3) with
    | true => exact ⟨rfl, h, fun _ _ => rfl⟩
    | false => exact ⟨rfl, h, fun _ _ => rfl⟩
  intro m
  induction m with
  | zero =>
    intro fc fr v5 w b C R hC hR hc h6 h0 h1 hm hfc hfr hw hd
    obtain ⟨g, rfl⟩ : ∃ q, fc = q + 1 := ⟨fc - 1, by omega⟩
    obtain ⟨g2, rfl⟩ : ∃ q, fr = q + 1 := ⟨fr - 1, by omega⟩
    rw [mr_97s C0 k nc f' sp' g v5 b hC, mr_214s R0 kd n f sp g2 v5 w b hR, pj_b_geT (show (pj_fi C 21 0).toInt ≤ b.toInt by omega), pj_cT, pj_b_geT (show (pj_fi R 171 5).toInt ≤ b.toInt by omega), pj_cT]
    exact fin v5 C R (fun j hj => hd j (by omega))
  | succ m ih =>
    intro fc fr v5 w b C R hC hR hc h6 h0 h1 hm hfc hfr hw hd
    obtain ⟨g, rfl⟩ : ∃ q, fc = q + 1 := ⟨fc - 1, by omega⟩
    obtain ⟨g2, rfl⟩ : ∃ q, fr = q + 1 := ⟨fr - 1, by omega⟩
    rw [mr_97s C0 k nc f' sp' g v5 b hC, mr_214s R0 kd n f sp g2 v5 w b hR]
    by_cases q : (pj_fi C 21 0).toInt ≤ b.toInt
    · rw [pj_b_geT q, pj_cT, pj_b_geT (show (pj_fi R 171 5).toInt ≤ b.toInt by omega), pj_cT]
      exact fin v5 C R (fun j hj => hd j (by omega))
    · rw [pj_b_geF (show b.toInt < (pj_fi C 21 0).toInt by omega), pj_cF, pj_b_geF (show b.toInt < (pj_fi R 171 5).toInt by omega), pj_cF, hx b w h0 hw]
      have s : (b + Int32.ofInt 1).toInt = b.toInt + 1 := by rw [pj_addI (by omega) (by omega), k1]
      have t0 : (Int32.ofInt 4 * b).toInt = 4 * b.toInt := pj_mulL k4 (by omega) (by omega)
      have t1 : (Int32.ofInt 4 * b + Int32.ofInt 3).toInt = 4 * b.toInt + 3 := by rw [pj_addI (by omega) (by omega), t0, k3]
      obtain ⟨z1, z2, z3⟩ := ih g g2 (v5 + mr_xr kd n w b) (w + sp) (b + Int32.ofInt 1) (pj_wa C 24 b.toInt.toNat (mr_xr kd n w b)) (pj_wa R 179 (Int32.ofInt 4 * b + Int32.ofInt 3).toInt.toNat (mr_xr kd n w b)) (mr_sa hC rfl _ _) (mr_sa hR rfl _ _) (by rw [pj_fi_wa, pj_fi_wa]; exact hc) (by rw [pj_fi_wa]; exact h6) (by omega) (by rw [pj_fi_wa]; omega) (by rw [pj_fi_wa]; omega) (by omega) (by omega) (hr b w h0 hw) (fun j hj => by
        by_cases qj : (j : Int) = b.toInt
        · rw [show b.toInt.toNat = j by omega, show (Int32.ofInt 4 * b + Int32.ofInt 3).toInt.toNat = 4 * j + 3 by omega, pj_ai_wa_eq hC rfl, pj_ai_wa_eq hR rfl]
        · rw [pj_ai_wa_nj _ _ _ _ _ (by omega), pj_ai_wa_nj _ _ _ _ _ (by omega)]
          exact hd j (by omega))
      rw [pj_fi_wa] at z2
      exact ⟨z1, z2, fun j hj => (z3 j hj).trans (pj_ai_wa_nj _ _ _ _ _ (by omega))⟩
theorem mr_i1 : Int32.ofInt 1 = 1 := by decide
theorem mr_rng (f b sp : Int32) : f + b * sp + sp = f + (b + Int32.ofInt 1) * sp := by
  rw [mr_i1, Int32.add_mul, Int32.one_mul, Int32.add_assoc]
/-- sheet() on both sides -/
theorem mr_sheet {G H : pj_G} (hI : pj_Inv G) (iH : pj_Inv H) (hc : (pj_fi G 21 0).toInt = (pj_fi H 171 5).toInt) (k n f sp : Int32) : (F_126x G k n f sp).1 = (F_214x H k n f sp).1 := by
  have k0 : (Int32.ofInt 0).toInt = 0 := by decide
  have k1 : (Int32.ofInt 1).toInt = 1 := by decide
  have k3 : (Int32.ofInt 3).toInt = 3 := by decide
  have k6 : (((Int8.ofInt 6).toInt32)).toInt = 6 := by decide
  have l0 : (Int64.ofNat 0).toInt = 0 := by decide
  have l3 : (Int64.ofInt 3).toInt = 3 := by decide
  have lk : (k.toInt64).toInt = k.toInt := Int32.toInt_toInt64 _
  have rB : (0 : Int) ≤ (pj_fi G 21 0).toInt ∧ (pj_fi G 21 0).toInt ≤ 6 := hI.2.1 21 0 (0, 6) rfl
  obtain ⟨p1, p2⟩ := mr_171 (pj_wv H 171 0 (.int (Int32.ofInt 0))) k.toInt64 (Int64.ofNat 0) (Int64.ofInt 3)
  have hS := mr_sv iH.1 (a := 171) (ci := 12) (k := 0) rfl (Int32.ofInt 0)
  have h5 : pj_fi (pj_wv H 171 0 (.int (Int32.ofInt 0))) 171 5 = pj_fi H 171 5 := pj_fi_wv_ne _ _ _ _ _ _ (by decide)
  have e97 : ∀ (a b c d : Int32), F_97x G a b c d = L_97x G a b c d 7 (Int32.ofInt 0) (Int32.ofInt 0) G := fun a b c d => by rw [F_97x_e]
  rw [F_126x_e, F_214x_e]
  simp only [pj_nm_x, pj_bd_x, e97]
  by_cases a1 : k.toInt < 0
  · rw [pj_b0_ltT a1, pj_cT, pj_b0_eqT (p2 (by omega)), pj_cT]
  · rw [pj_b0_ltF (show 0 ≤ k.toInt by omega), pj_cF]
    by_cases a2 : 3 < k.toInt
    · rw [pj_b_gtT (show (Int32.ofInt 3).toInt < k.toInt by omega), pj_cT, pj_b0_eqT (p2 (by omega)), pj_cT]
    · have p := p1 (by omega)
      rw [pj_b_gtF (show k.toInt ≤ (Int32.ofInt 3).toInt by omega), pj_cF, pj_b0_eqF (by omega), pj_cF]
      by_cases a3 : n.toInt ≤ 6
      · rw [pj_b_leT (show n.toInt ≤ (((Int8.ofInt 6).toInt32)).toInt by omega), pj_cT, pj_cT]
        by_cases a4 : k.toInt = 3
        · rw [pj_b_neF (show k.toInt = (Int32.ofInt 3).toInt by omega), pj_cF, pj_b_eqT (show k.toInt = (Int32.ofInt 3).toInt by omega), pj_cT]
          have z := (mr_sl G H k (Int32.ofInt 0) (Int32.ofInt 0) (Int32.ofInt 0) k n f sp (fun _ _ => True) (fun b w hb _ => by
            unfold mr_xc mr_xr
            rw [pj_b_geT (show (Int32.ofInt 0).toInt ≤ b.toInt by omega), pj_cT, pj_b_eqT (show k.toInt = (Int32.ofInt 3).toInt by omega), pj_cT]) (fun _ _ _ _ => trivial) 6 7 7 (Int32.ofInt 0) f (Int32.ofInt 0) G (pj_wv H 171 0 (.int (Int32.ofInt 0))) hI.1 hS (by rw [h5]; exact hc) (by omega) (by omega) (by omega) (by omega) (by omega) (by omega) trivial (fun j hj => absurd hj (by omega))).1
          rw [pj_b_neF (show k.toInt = (Int32.ofInt 3).toInt by omega), pj_cF] at z
          dsimp only
          exact z.symm
        · rw [pj_b_neT (show ¬ k.toInt = (Int32.ofInt 3).toInt by omega), pj_cT, pj_b_eqF (show ¬ k.toInt = (Int32.ofInt 3).toInt by omega), pj_cF]
          by_cases a5 : 0 ≤ n.toInt
          · rw [pj_b0_geT a5, pj_cT, pj_cT]
            have z := (mr_sl G H k n f sp k n f sp (fun b w => w = f + b * sp) (fun b w hb hw => by
              unfold mr_xc mr_xr
              rw [hw, pj_b_eqF (show ¬ k.toInt = (Int32.ofInt 3).toInt by omega), pj_cF]
              by_cases q : n.toInt ≤ b.toInt
              · rw [pj_b_geT q, pj_cT, pj_b_ltF q, pj_cF]
              · rw [pj_b_geF (show b.toInt < n.toInt by omega), pj_cF, pj_b_ltT (show b.toInt < n.toInt by omega), pj_cT]) (fun b w _ hw => by rw [hw]; exact mr_rng f b sp) 6 7 7 (Int32.ofInt 0) f (Int32.ofInt 0) G (pj_wv H 171 0 (.int (Int32.ofInt 0))) hI.1 hS (by rw [h5]; exact hc) (by omega) (by omega) (by omega) (by omega) (by omega) (by omega) (by
                show f = f + Int32.ofInt 0 * sp
                rw [show Int32.ofInt 0 = 0 by decide, Int32.zero_mul, Int32.add_zero]) (fun j hj => absurd hj (by omega))).1
            rw [pj_b_neT (show ¬ k.toInt = (Int32.ofInt 3).toInt by omega), pj_cT] at z
            dsimp only
            exact z.symm
          · rw [pj_b0_geF (show n.toInt < 0 by omega), pj_cF, pj_cF]
      · rw [pj_b_leF (show (((Int8.ofInt 6).toInt32)).toInt < n.toInt by omega), pj_cF, pj_cF]
