noncomputable def F_66x (G0 : pj_G) (g : Int32) (a : Int32) (b : Int32) : Int32 := if g.toInt = 42 then (pj_nm (a * b) (fun z2 => z2)) else (if g.toInt = 43 then (pj_nm (a + b) (fun z4 => z4)) else (if g.toInt = 45 then (pj_nm (a - b) (fun z6 => z6)) else (if g.toInt = 47 then (cond (pj_c1 .ne b 0) (pj_nm (a / b) (fun z9 => z9)) (Int32.ofInt 0)) else (if g.toInt = 60 then (cond (pj_c1 .ge a b) (Int32.ofInt 0) (Int32.ofInt 1)) else (if g.toInt = 62 then (cond (pj_c1 .le a b) (Int32.ofInt 0) (Int32.ofInt 1)) else (cond (pj_c1 .ne a b) (Int32.ofInt 0) (Int32.ofInt 1)))))))
theorem F_66x_e (G0 : pj_G) (g : Int32) (a : Int32) (b : Int32) : F_66x G0 g a b = if g.toInt = 42 then (pj_nm (a * b) (fun z2 => z2)) else (if g.toInt = 43 then (pj_nm (a + b) (fun z4 => z4)) else (if g.toInt = 45 then (pj_nm (a - b) (fun z6 => z6)) else (if g.toInt = 47 then (cond (pj_c1 .ne b 0) (pj_nm (a / b) (fun z9 => z9)) (Int32.ofInt 0)) else (if g.toInt = 60 then (cond (pj_c1 .ge a b) (Int32.ofInt 0) (Int32.ofInt 1)) else (if g.toInt = 62 then (cond (pj_c1 .le a b) (Int32.ofInt 0) (Int32.ofInt 1)) else (cond (pj_c1 .ne a b) (Int32.ofInt 0) (Int32.ofInt 1))))))) := rfl
theorem ct_66x (G0 : pj_G) (hI : pj_Inv G0) (g : Int32) (a : Int32) (b : Int32) : pj_Y 1 66 [.int g, .int a, .int b] G0 (fun v' G' => ∃ y : Int32, v' = some (.int y) ∧ G0 = G' ∧ ((-2147483648 : Int) ≤ y.toInt ∧ y.toInt ≤ 2147483647) ∧ (y = F_66x G0 g a b)) := by
  have c0_ : (Int32.ofInt 0).toInt = 0 := by decide
  have c1_ : (Int32.ofInt 1).toInt = 1 := by decide
  refine pj_Y_X (M := pj_m66) rfl rfl (Nat.le_of_ble_eq_true rfl) ?_
  have hK : pj_kpt ([], [], []) G0 G0 := pj_kpt_r _ _
  show pj_X _ _ G0 0 [(0, .int g), (1, .int a), (2, .int b)] [] _
  rw [F_66x_e]
  refine pj_X_of (fun r h => pj_R_to (G0, 1, [(0, .int g), (1, .int a), (2, .int b)], [.int g], 0, 0) 1 2 (fun _ => rfl) h) ?_
  by_cases t1 : g.toInt = 42
  · refine pj_X_of (fun r h => pj_R_lw 68 rfl (n := 42) t1 rfl h) ?_
    rw [if_pos t1]
    refine pj_X_of (fun r h => pj_R_to (G0, 71, [(0, .int g), (1, .int a), (2, .int b)], [.int (a * b)], 0, 0) 71 4 (fun _ => rfl) h) ?_
    obtain ⟨z2, hz2⟩ : ∃ z : Int32, z = a * b := ⟨_, rfl⟩
    refine pj_X_eqi hz2.symm ?_
    rw [← hz2, pj_nm_e]
    exact pj_X_rt rfl rfl ⟨_, rfl, rfl, pj_i32 _, rfl⟩
  rw [if_neg t1]
  by_cases t3 : g.toInt = 43
  · refine pj_X_of (fun r h => pj_R_lw 60 rfl (n := 43) t3 rfl h) ?_
    rw [if_pos t3]
    refine pj_X_of (fun r h => pj_R_to (G0, 63, [(0, .int g), (1, .int a), (2, .int b)], [.int (a + b)], 0, 0) 63 4 (fun _ => rfl) h) ?_
    obtain ⟨z4, hz4⟩ : ∃ z : Int32, z = a + b := ⟨_, rfl⟩
    refine pj_X_eqi hz4.symm ?_
    rw [← hz4, pj_nm_e]
    exact pj_X_rt rfl rfl ⟨_, rfl, rfl, pj_i32 _, rfl⟩
  rw [if_neg t3]
  by_cases t5 : g.toInt = 45
  · refine pj_X_of (fun r h => pj_R_lw 64 rfl (n := 45) t5 rfl h) ?_
    rw [if_pos t5]
    refine pj_X_of (fun r h => pj_R_to (G0, 67, [(0, .int g), (1, .int a), (2, .int b)], [.int (a - b)], 0, 0) 67 4 (fun _ => rfl) h) ?_
    obtain ⟨z6, hz6⟩ : ∃ z : Int32, z = a - b := ⟨_, rfl⟩
    refine pj_X_eqi hz6.symm ?_
    rw [← hz6, pj_nm_e]
    exact pj_X_rt rfl rfl ⟨_, rfl, rfl, pj_i32 _, rfl⟩
  rw [if_neg t5]
  by_cases t7 : g.toInt = 47
  · refine pj_X_of (fun r h => pj_R_lw 72 rfl (n := 47) t7 rfl h) ?_
    rw [if_pos t7]
    refine pj_X_of (fun r h => pj_R_to (G0, 73, [(0, .int g), (1, .int a), (2, .int b)], [.int b], 0, 0) 73 2 (fun _ => rfl) h) ?_
    cases b8 : pj_c1 .ne b 0 with
    | true =>
      rw [pj_cT]
      have ub8 := pj_u0_neT b8
      refine pj_X_of (fun r h => pj_R_ifT 80 rfl rfl b8 h) ?_
      refine pj_X_of (fun r h => pj_R_to (G0, 82, [(0, .int g), (1, .int a), (2, .int b)], [.int b, .int a], 0, 0) 82 3 (fun _ => rfl) h) ?_
      refine pj_X_of (fun r h => pj_R_dv rfl (pj_nz (by omega)) h) ?_
      show pj_X _ _ G0 83 [(0, .int g), (1, .int a), (2, .int b)] [.int (a / b)] _
      obtain ⟨z9, hz9⟩ : ∃ z : Int32, z = a / b := ⟨_, rfl⟩
      refine pj_X_eqi hz9.symm ?_
      rw [← hz9, pj_nm_e]
      exact pj_X_rt rfl rfl ⟨_, rfl, rfl, pj_i32 _, rfl⟩
    | false =>
      rw [pj_cF]
      have ub8 := pj_u0_neF b8
      refine pj_X_of (fun r h => pj_R_ifF rfl b8 h) ?_
      refine pj_X_of (fun r h => pj_R_to (G0, 83, [(0, .int g), (1, .int a), (2, .int b)], [.int (Int32.ofInt 0)], 0, 0) 83 3 (fun _ => rfl) h) ?_
      exact pj_X_rt rfl rfl ⟨_, rfl, rfl, pj_i32 _, rfl⟩
  rw [if_neg t7]
  by_cases t10 : g.toInt = 60
  · refine pj_X_of (fun r h => pj_R_lw 84 rfl (n := 60) t10 rfl h) ?_
    rw [if_pos t10]
    refine pj_X_of (fun r h => pj_R_to (G0, 86, [(0, .int g), (1, .int a), (2, .int b)], [.int b, .int a], 0, 0) 86 3 (fun _ => rfl) h) ?_
    cases b11 : pj_c1 .ge a b with
    | true =>
      rw [pj_cT]
      have ub11 := pj_u_geT b11
      refine pj_X_of (fun r h => pj_R_icT 93 rfl rfl b11 h) ?_
      refine pj_X_of (fun r h => pj_R_to (G0, 94, [(0, .int g), (1, .int a), (2, .int b)], [.int (Int32.ofInt 0)], 0, 0) 94 2 (fun _ => rfl) h) ?_
      exact pj_X_rt rfl rfl ⟨_, rfl, rfl, pj_i32 _, rfl⟩
    | false =>
      rw [pj_cF]
      have ub11 := pj_u_geF b11
      refine pj_X_of (fun r h => pj_R_icF rfl b11 h) ?_
      refine pj_X_of (fun r h => pj_R_to (G0, 94, [(0, .int g), (1, .int a), (2, .int b)], [.int (Int32.ofInt 1)], 0, 0) 94 3 (fun _ => rfl) h) ?_
      exact pj_X_rt rfl rfl ⟨_, rfl, rfl, pj_i32 _, rfl⟩
  rw [if_neg t10]
  by_cases t12 : g.toInt = 62
  · refine pj_X_of (fun r h => pj_R_lw 95 rfl (n := 62) t12 rfl h) ?_
    rw [if_pos t12]
    refine pj_X_of (fun r h => pj_R_to (G0, 97, [(0, .int g), (1, .int a), (2, .int b)], [.int b, .int a], 0, 0) 97 3 (fun _ => rfl) h) ?_
    cases b13 : pj_c1 .le a b with
    | true =>
      rw [pj_cT]
      have ub13 := pj_u_leT b13
      refine pj_X_of (fun r h => pj_R_icT 104 rfl rfl b13 h) ?_
      refine pj_X_of (fun r h => pj_R_to (G0, 105, [(0, .int g), (1, .int a), (2, .int b)], [.int (Int32.ofInt 0)], 0, 0) 105 2 (fun _ => rfl) h) ?_
      exact pj_X_rt rfl rfl ⟨_, rfl, rfl, pj_i32 _, rfl⟩
    | false =>
      rw [pj_cF]
      have ub13 := pj_u_leF b13
      refine pj_X_of (fun r h => pj_R_icF rfl b13 h) ?_
      refine pj_X_of (fun r h => pj_R_to (G0, 105, [(0, .int g), (1, .int a), (2, .int b)], [.int (Int32.ofInt 1)], 0, 0) 105 3 (fun _ => rfl) h) ?_
      exact pj_X_rt rfl rfl ⟨_, rfl, rfl, pj_i32 _, rfl⟩
  rw [if_neg t12]
  refine pj_X_of (fun r h => pj_R_ld 106 rfl ⟨by show ¬ (42 : Int) = _; omega, by show ¬ (43 : Int) = _; omega, by show ¬ (45 : Int) = _; omega, by show ¬ (47 : Int) = _; omega, by show ¬ (60 : Int) = _; omega, by show ¬ (62 : Int) = _; omega, trivial⟩ rfl h) ?_
  refine pj_X_of (fun r h => pj_R_to (G0, 108, [(0, .int g), (1, .int a), (2, .int b)], [.int b, .int a], 0, 0) 108 3 (fun _ => rfl) h) ?_
  cases b14 : pj_c1 .ne a b with
  | true =>
    rw [pj_cT]
    have ub14 := pj_u_neT b14
    refine pj_X_of (fun r h => pj_R_icT 115 rfl rfl b14 h) ?_
    refine pj_X_of (fun r h => pj_R_to (G0, 116, [(0, .int g), (1, .int a), (2, .int b)], [.int (Int32.ofInt 0)], 0, 0) 116 2 (fun _ => rfl) h) ?_
    exact pj_X_rt rfl rfl ⟨_, rfl, rfl, pj_i32 _, rfl⟩
  | false =>
    rw [pj_cF]
    have ub14 := pj_u_neF b14
    refine pj_X_of (fun r h => pj_R_icF rfl b14 h) ?_
    refine pj_X_of (fun r h => pj_R_to (G0, 116, [(0, .int g), (1, .int a), (2, .int b)], [.int (Int32.ofInt 1)], 0, 0) 116 3 (fun _ => rfl) h) ?_
    exact pj_X_rt rfl rfl ⟨_, rfl, rfl, pj_i32 _, rfl⟩
def kc_65x : pj_KT := ([], [30], [30])
noncomputable def L_65x (G0 : pj_G) (fu : Nat) : Int32 → Int32 → pj_G → Int32 × pj_G := Nat.rec (motive := fun _ => Int32 → Int32 → pj_G → Int32 × pj_G) (fun _ _ G => (0, G)) (fun _ ih v2 v3 G => pj_nm (pj_fi G 27 1) (fun y1 => cond (pj_c1 .ge v3 y1) (pj_nm (pj_ai G 30 (Int32.ofInt 0).toInt.toNat) (fun z3 => (z3, G))) (cond (pj_rb G 27 0 28) (pj_nm (pj_ai G 28 v3.toInt.toNat) (fun z5 => cond (pj_c1 .ge z5 ((Int16.ofInt 2000).toInt32)) (cond (pj_c1 .ne z5 ((Int16.ofInt 2000).toInt32)) (cond (pj_c1 .le v2 (Int32.ofInt 1)) (pj_nm (v3 + Int32.ofInt 1) (fun z9 => ih v2 z9 G)) (pj_nm (v2 + Int32.ofInt (-1)) (fun z10 => pj_nm (z10 - (Int32.ofInt 1)) (fun z11 => pj_nm (z5 - ((Int16.ofInt 3000).toInt32)) (fun z12 => pj_nm (pj_ai G 30 z11.toInt.toNat) (fun z13 => pj_nm (pj_ai G 30 z10.toInt.toNat) (fun z14 => pj_nm (F_66x G z12 z13 z14) (fun y15 => pj_nm (pj_wa G 30 z11.toInt.toNat y15) (fun G16 => pj_nm (v3 + Int32.ofInt 1) (fun z17 => ih z10 z17 G16)))))))))) (cond (pj_c1 .le v2 0) (pj_nm (v3 + Int32.ofInt 1) (fun z19 => ih v2 z19 G)) (pj_nm (v2 - (Int32.ofInt 1)) (fun z20 => pj_nm (pj_ai G 30 z20.toInt.toNat) (fun z21 => pj_nm (-z21) (fun z22 => pj_nm (pj_wa G 30 z20.toInt.toNat z22) (fun G23 => pj_nm (v3 + Int32.ofInt 1) (fun z24 => ih v2 z24 G23)))))))) (cond (pj_c1 .ge v2 ((Int8.ofInt 40).toInt32)) (pj_nm (v2 + Int32.ofInt (-1)) (fun z26 => pj_nm (z26 - (Int32.ofInt 1)) (fun z27 => pj_nm (z5 - ((Int16.ofInt 3000).toInt32)) (fun z28 => pj_nm (pj_ai G 30 z27.toInt.toNat) (fun z29 => pj_nm (pj_ai G 30 z26.toInt.toNat) (fun z30 => pj_nm (F_66x G z28 z29 z30) (fun y31 => pj_nm (pj_wa G 30 z27.toInt.toNat y31) (fun G32 => pj_nm (v3 + Int32.ofInt 1) (fun z33 => ih z26 z33 G32))))))))) (cond (pj_c1 .ge z5 ((Int16.ofInt 1000).toInt32)) (pj_nm (z5 - ((Int16.ofInt 1000).toInt32)) (fun z35 => pj_nm (pj_ai G 33 z35.toInt.toNat) (fun z36 => pj_nm (pj_wa G 30 v2.toInt.toNat z36) (fun G37 => pj_nm (v2 + Int32.ofInt 1) (fun z38 => pj_nm (v3 + Int32.ofInt 1) (fun z39 => ih z38 z39 G37)))))) (pj_nm (pj_wa G 30 v2.toInt.toNat z5) (fun G40 => pj_nm (v2 + Int32.ofInt 1) (fun z41 => pj_nm (v3 + Int32.ofInt 1) (fun z42 => ih z41 z42 G40)))))))) (pj_nm (pj_ai G 29 v3.toInt.toNat) (fun z43 => cond (pj_c1 .ge z43 ((Int16.ofInt 2000).toInt32)) (cond (pj_c1 .ne z43 ((Int16.ofInt 2000).toInt32)) (cond (pj_c1 .le v2 (Int32.ofInt 1)) (pj_nm (v3 + Int32.ofInt 1) (fun z47 => ih v2 z47 G)) (pj_nm (v2 + Int32.ofInt (-1)) (fun z48 => pj_nm (z48 - (Int32.ofInt 1)) (fun z49 => pj_nm (z43 - ((Int16.ofInt 3000).toInt32)) (fun z50 => pj_nm (pj_ai G 30 z49.toInt.toNat) (fun z51 => pj_nm (pj_ai G 30 z48.toInt.toNat) (fun z52 => pj_nm (F_66x G z50 z51 z52) (fun y53 => pj_nm (pj_wa G 30 z49.toInt.toNat y53) (fun G54 => pj_nm (v3 + Int32.ofInt 1) (fun z55 => ih z48 z55 G54)))))))))) (cond (pj_c1 .le v2 0) (pj_nm (v3 + Int32.ofInt 1) (fun z57 => ih v2 z57 G)) (pj_nm (v2 - (Int32.ofInt 1)) (fun z58 => pj_nm (pj_ai G 30 z58.toInt.toNat) (fun z59 => pj_nm (-z59) (fun z60 => pj_nm (pj_wa G 30 z58.toInt.toNat z60) (fun G61 => pj_nm (v3 + Int32.ofInt 1) (fun z62 => ih v2 z62 G61)))))))) (cond (pj_c1 .ge v2 ((Int8.ofInt 40).toInt32)) (pj_nm (v2 + Int32.ofInt (-1)) (fun z64 => pj_nm (z64 - (Int32.ofInt 1)) (fun z65 => pj_nm (z43 - ((Int16.ofInt 3000).toInt32)) (fun z66 => pj_nm (pj_ai G 30 z65.toInt.toNat) (fun z67 => pj_nm (pj_ai G 30 z64.toInt.toNat) (fun z68 => pj_nm (F_66x G z66 z67 z68) (fun y69 => pj_nm (pj_wa G 30 z65.toInt.toNat y69) (fun G70 => pj_nm (v3 + Int32.ofInt 1) (fun z71 => ih z64 z71 G70))))))))) (cond (pj_c1 .ge z43 ((Int16.ofInt 1000).toInt32)) (pj_nm (z43 - ((Int16.ofInt 1000).toInt32)) (fun z73 => pj_nm (pj_ai G 33 z73.toInt.toNat) (fun z74 => pj_nm (pj_wa G 30 v2.toInt.toNat z74) (fun G75 => pj_nm (v2 + Int32.ofInt 1) (fun z76 => pj_nm (v3 + Int32.ofInt 1) (fun z77 => ih z76 z77 G75)))))) (pj_nm (pj_wa G 30 v2.toInt.toNat z43) (fun G78 => pj_nm (v2 + Int32.ofInt 1) (fun z79 => pj_nm (v3 + Int32.ofInt 1) (fun z80 => ih z79 z80 G78))))))))))) fu
theorem L_65x_s0 (G0 : pj_G) (fu : Nat) (v2 : Int32) (v3 : Int32) (G : pj_G) : L_65x G0 (fu + 1) v2 v3 G = pj_nm (pj_fi G 27 1) (fun y1 => cond (pj_c1 .ge v3 y1) (pj_nm (pj_ai G 30 (Int32.ofInt 0).toInt.toNat) (fun z3 => (z3, G))) (cond (pj_rb G 27 0 28) (pj_nm (pj_ai G 28 v3.toInt.toNat) (fun z5 => cond (pj_c1 .ge z5 ((Int16.ofInt 2000).toInt32)) (cond (pj_c1 .ne z5 ((Int16.ofInt 2000).toInt32)) (cond (pj_c1 .le v2 (Int32.ofInt 1)) (pj_nm (v3 + Int32.ofInt 1) (fun z9 => L_65x G0 fu v2 z9 G)) (pj_nm (v2 + Int32.ofInt (-1)) (fun z10 => pj_nm (z10 - (Int32.ofInt 1)) (fun z11 => pj_nm (z5 - ((Int16.ofInt 3000).toInt32)) (fun z12 => pj_nm (pj_ai G 30 z11.toInt.toNat) (fun z13 => pj_nm (pj_ai G 30 z10.toInt.toNat) (fun z14 => pj_nm (F_66x G z12 z13 z14) (fun y15 => pj_nm (pj_wa G 30 z11.toInt.toNat y15) (fun G16 => pj_nm (v3 + Int32.ofInt 1) (fun z17 => L_65x G0 fu z10 z17 G16)))))))))) (cond (pj_c1 .le v2 0) (pj_nm (v3 + Int32.ofInt 1) (fun z19 => L_65x G0 fu v2 z19 G)) (pj_nm (v2 - (Int32.ofInt 1)) (fun z20 => pj_nm (pj_ai G 30 z20.toInt.toNat) (fun z21 => pj_nm (-z21) (fun z22 => pj_nm (pj_wa G 30 z20.toInt.toNat z22) (fun G23 => pj_nm (v3 + Int32.ofInt 1) (fun z24 => L_65x G0 fu v2 z24 G23)))))))) (cond (pj_c1 .ge v2 ((Int8.ofInt 40).toInt32)) (pj_nm (v2 + Int32.ofInt (-1)) (fun z26 => pj_nm (z26 - (Int32.ofInt 1)) (fun z27 => pj_nm (z5 - ((Int16.ofInt 3000).toInt32)) (fun z28 => pj_nm (pj_ai G 30 z27.toInt.toNat) (fun z29 => pj_nm (pj_ai G 30 z26.toInt.toNat) (fun z30 => pj_nm (F_66x G z28 z29 z30) (fun y31 => pj_nm (pj_wa G 30 z27.toInt.toNat y31) (fun G32 => pj_nm (v3 + Int32.ofInt 1) (fun z33 => L_65x G0 fu z26 z33 G32))))))))) (cond (pj_c1 .ge z5 ((Int16.ofInt 1000).toInt32)) (pj_nm (z5 - ((Int16.ofInt 1000).toInt32)) (fun z35 => pj_nm (pj_ai G 33 z35.toInt.toNat) (fun z36 => pj_nm (pj_wa G 30 v2.toInt.toNat z36) (fun G37 => pj_nm (v2 + Int32.ofInt 1) (fun z38 => pj_nm (v3 + Int32.ofInt 1) (fun z39 => L_65x G0 fu z38 z39 G37)))))) (pj_nm (pj_wa G 30 v2.toInt.toNat z5) (fun G40 => pj_nm (v2 + Int32.ofInt 1) (fun z41 => pj_nm (v3 + Int32.ofInt 1) (fun z42 => L_65x G0 fu z41 z42 G40)))))))) (pj_nm (pj_ai G 29 v3.toInt.toNat) (fun z43 => cond (pj_c1 .ge z43 ((Int16.ofInt 2000).toInt32)) (cond (pj_c1 .ne z43 ((Int16.ofInt 2000).toInt32)) (cond (pj_c1 .le v2 (Int32.ofInt 1)) (pj_nm (v3 + Int32.ofInt 1) (fun z47 => L_65x G0 fu v2 z47 G)) (pj_nm (v2 + Int32.ofInt (-1)) (fun z48 => pj_nm (z48 - (Int32.ofInt 1)) (fun z49 => pj_nm (z43 - ((Int16.ofInt 3000).toInt32)) (fun z50 => pj_nm (pj_ai G 30 z49.toInt.toNat) (fun z51 => pj_nm (pj_ai G 30 z48.toInt.toNat) (fun z52 => pj_nm (F_66x G z50 z51 z52) (fun y53 => pj_nm (pj_wa G 30 z49.toInt.toNat y53) (fun G54 => pj_nm (v3 + Int32.ofInt 1) (fun z55 => L_65x G0 fu z48 z55 G54)))))))))) (cond (pj_c1 .le v2 0) (pj_nm (v3 + Int32.ofInt 1) (fun z57 => L_65x G0 fu v2 z57 G)) (pj_nm (v2 - (Int32.ofInt 1)) (fun z58 => pj_nm (pj_ai G 30 z58.toInt.toNat) (fun z59 => pj_nm (-z59) (fun z60 => pj_nm (pj_wa G 30 z58.toInt.toNat z60) (fun G61 => pj_nm (v3 + Int32.ofInt 1) (fun z62 => L_65x G0 fu v2 z62 G61)))))))) (cond (pj_c1 .ge v2 ((Int8.ofInt 40).toInt32)) (pj_nm (v2 + Int32.ofInt (-1)) (fun z64 => pj_nm (z64 - (Int32.ofInt 1)) (fun z65 => pj_nm (z43 - ((Int16.ofInt 3000).toInt32)) (fun z66 => pj_nm (pj_ai G 30 z65.toInt.toNat) (fun z67 => pj_nm (pj_ai G 30 z64.toInt.toNat) (fun z68 => pj_nm (F_66x G z66 z67 z68) (fun y69 => pj_nm (pj_wa G 30 z65.toInt.toNat y69) (fun G70 => pj_nm (v3 + Int32.ofInt 1) (fun z71 => L_65x G0 fu z64 z71 G70))))))))) (cond (pj_c1 .ge z43 ((Int16.ofInt 1000).toInt32)) (pj_nm (z43 - ((Int16.ofInt 1000).toInt32)) (fun z73 => pj_nm (pj_ai G 33 z73.toInt.toNat) (fun z74 => pj_nm (pj_wa G 30 v2.toInt.toNat z74) (fun G75 => pj_nm (v2 + Int32.ofInt 1) (fun z76 => pj_nm (v3 + Int32.ofInt 1) (fun z77 => L_65x G0 fu z76 z77 G75)))))) (pj_nm (pj_wa G 30 v2.toInt.toNat z43) (fun G78 => pj_nm (v2 + Int32.ofInt 1) (fun z79 => pj_nm (v3 + Int32.ofInt 1) (fun z80 => L_65x G0 fu z79 z80 G78)))))))))) := rfl
noncomputable def F_65x (G0 : pj_G) : Int32 × pj_G := pj_nm (pj_fi G0 27 1) (fun y81 => cond (pj_c1 .ne y81 0) (L_65x G0 41 (Int32.ofInt 0) (Int32.ofInt 0) G0) (pj_nm (pj_ai G0 33 (Int32.ofInt 0).toInt.toNat) (fun z83 => pj_nm (z83 / ((Int8.ofInt 9).toInt32)) (fun z84 => pj_nm (pj_ai G0 33 (Int32.ofInt 1).toInt.toNat) (fun z85 => pj_nm (z85 * (Int32.ofInt 2)) (fun z86 => pj_nm (z84 + z86) (fun z87 => pj_nm (z87 + (Int32.ofInt 1)) (fun z88 => (z88, G0)))))))))
theorem F_65x_e (G0 : pj_G) : F_65x G0 = pj_nm (pj_fi G0 27 1) (fun y81 => cond (pj_c1 .ne y81 0) (L_65x G0 41 (Int32.ofInt 0) (Int32.ofInt 0) G0) (pj_nm (pj_ai G0 33 (Int32.ofInt 0).toInt.toNat) (fun z83 => pj_nm (z83 / ((Int8.ofInt 9).toInt32)) (fun z84 => pj_nm (pj_ai G0 33 (Int32.ofInt 1).toInt.toNat) (fun z85 => pj_nm (z85 * (Int32.ofInt 2)) (fun z86 => pj_nm (z84 + z86) (fun z87 => pj_nm (z87 + (Int32.ofInt 1)) (fun z88 => (z88, G0))))))))) := rfl
theorem lp_ct_65x (G0 : pj_G) (hI0 : pj_Inv G0) : ∀ mn : Nat, (∀ (G : pj_G) (hI : pj_Inv G) (hK : pj_kpt kc_65x G0 G) (v2 : Int32) (v3 : Int32), ((0 : Int) ≤ v2.toInt ∧ v2.toInt ≤ 40) → ((0 : Int) ≤ v3.toInt ∧ v3.toInt ≤ 40) → 40 - v3.toInt < (mn : Int) → pj_X 1 pj_m65 G 26 [(0, .ref 27), (1, .ref 33), (2, .int v2), (3, .int v3)] [] (fun v' G' => ∃ y : Int32, v' = some (.int y) ∧ pj_Inv G' ∧ pj_kpt kc_65x G0 G' ∧ ((-2147483648 : Int) ≤ y.toInt ∧ y.toInt ≤ 2147483647) ∧ ((y, G') = L_65x G0 mn v2 v3 G))) := by
  have c0_ : ((Int16.ofInt 1000).toInt32).toInt = 1000 := by decide
  have c1_ : ((Int16.ofInt 2000).toInt32).toInt = 2000 := by decide
  have c2_ : ((Int16.ofInt 3000).toInt32).toInt = 3000 := by decide
  have c3_ : ((Int8.ofInt 40).toInt32).toInt = 40 := by decide
  have c4_ : ((Int8.ofInt 9).toInt32).toInt = 9 := by decide
  have c5_ : (Int32.ofInt (-1)).toInt = -1 := by decide
  have c6_ : (Int32.ofInt 0).toInt = 0 := by decide
  have c7_ : (Int32.ofInt 1).toInt = 1 := by decide
  have c8_ : (Int32.ofInt 2).toInt = 2 := by decide
  intro mn
  induction mn with
  | zero =>
    intro G hI hK v2 v3 rv2 rv3 hm
    exfalso
    omega
  | succ mn ih =>
    intro G hI hK v2 v3 rv2 rv3 hm
    rw [L_65x_s0]
    refine pj_X_of (fun r h => pj_R_to (G, 28, [(0, .ref 27), (1, .ref 33), (2, .int v2), (3, .int v3)], [.ref 27, .int v3], 0, 0) 28 3 (fun _ => rfl) h) ?_
    refine pj_X_of (fun r h => pj_T_gi hI rfl rfl h) ?_
    show pj_X _ _ G 31 [(0, .ref 27), (1, .ref 33), (2, .int v2), (3, .int v3)] [.int (pj_fi G 27 1), .int v3] _
    obtain ⟨y1, hy1⟩ : ∃ z : Int32, z = pj_fi G 27 1 := ⟨_, rfl⟩
    refine pj_X_eqi hy1.symm ?_
    rw [← hy1, pj_nm_e]
    have ey1 : (pj_fi G 27 1).toInt = y1.toInt := by rw [hy1]
    have ry1 : (0 : Int) ≤ y1.toInt ∧ y1.toInt ≤ 40 := by rw [hy1]; exact hI.2.1 27 1 (0, 40) rfl
    cases b2 : pj_c1 .ge v3 y1 with
    | true =>
      rw [pj_cT]
      have ub2 := pj_u_geT b2
      refine pj_X_of (fun r h => pj_R_icT 166 rfl rfl b2 h) ?_
      refine pj_X_of (fun r h => pj_R_to (G, 167, [(0, .ref 27), (1, .ref 33), (2, .int v2), (3, .int v3)], [.ref 27], 0, 0) 167 2 (fun _ => rfl) h) ?_
      refine pj_X_of (fun r h => pj_T_gr hI rfl rfl rfl h) ?_
      refine pj_X_of (fun r h => pj_R_to (G, 171, [(0, .ref 27), (1, .ref 33), (2, .int v2), (3, .int v3)], [.int (Int32.ofInt 0), .ref 30], 0, 0) 171 2 (fun _ => rfl) h) ?_
      refine pj_X_of (fun r h => pj_T_il hI rfl rfl (by omega) (by omega) h) ?_
      show pj_X _ _ G 172 [(0, .ref 27), (1, .ref 33), (2, .int v2), (3, .int v3)] [.int (pj_ai G 30 (Int32.ofInt 0).toInt.toNat)] _
      obtain ⟨z3, hz3⟩ : ∃ z : Int32, z = pj_ai G 30 (Int32.ofInt 0).toInt.toNat := ⟨_, rfl⟩
      refine pj_X_eqi hz3.symm ?_
      rw [← hz3, pj_nm_e]
      have ez3 : (pj_ai G 30 (Int32.ofInt 0).toInt.toNat).toInt = z3.toInt := by rw [hz3]
      exact pj_X_rt rfl rfl ⟨_, rfl, hI, hK, pj_i32 _, rfl⟩
    | false =>
      rw [pj_cF]
      have ub2 := pj_u_geF b2
      refine pj_X_of (fun r h => pj_R_icF rfl b2 h) ?_
      refine pj_X_of (fun r h => pj_R_to (G, 35, [(0, .ref 27), (1, .ref 33), (2, .int v2), (3, .int v3)], [.ref 27], 0, 0) 35 2 (fun _ => rfl) h) ?_
      refine pj_X_gm hI rfl rfl (fun q4 => ?_) (fun q4 => ?_)
      · rw [show pj_rb G 27 0 28 = true from pj_rb_t q4, pj_cT]
        refine pj_X_of (fun r h => pj_R_to (G, 39, [(0, .ref 27), (1, .ref 33), (2, .int v2), (3, .int v3)], [.int v3, .ref 28], 0, 0) 39 2 (fun _ => rfl) h) ?_
        refine pj_X_of (fun r h => pj_T_il hI rfl rfl (by omega) (by omega) h) ?_
        show pj_X _ _ G 40 [(0, .ref 27), (1, .ref 33), (2, .int v2), (3, .int v3)] [.int (pj_ai G 28 v3.toInt.toNat)] _
        obtain ⟨z5, hz5⟩ : ∃ z : Int32, z = pj_ai G 28 v3.toInt.toNat := ⟨_, rfl⟩
        refine pj_X_eqi hz5.symm ?_
        rw [← hz5, pj_nm_e]
        have ez5 : (pj_ai G 28 v3.toInt.toNat).toInt = z5.toInt := by rw [hz5]
        have fz5_0 : (0 : Int) ≤ z5.toInt ∧ z5.toInt ≤ 3255 ∧ (z5.toInt ≤ 1006 ∨ 2000 ≤ z5.toInt) := by rw [hz5]; exact hI.2.2.1 28 (40, 0, 3255, 1006, 2000) rfl _ (by show _ < 40; omega)
        refine pj_X_of (fun r h => pj_R_to (G, 47, [(4, .int z5), (0, .ref 27), (1, .ref 33), (2, .int v2), (3, .int v3)], [.int ((Int16.ofInt 2000).toInt32), .int z5], 0, 0) 47 4 (fun _ => rfl) h) ?_
        cases b6 : pj_c1 .ge z5 ((Int16.ofInt 2000).toInt32) with
        | true =>
          rw [pj_cT]
          have ub6 := pj_u_geT b6
          refine pj_X_of (fun r h => pj_R_icT 89 rfl rfl b6 h) ?_
          refine pj_X_of (fun r h => pj_R_to (G, 94, [(4, .int z5), (0, .ref 27), (1, .ref 33), (2, .int v2), (3, .int v3)], [.int ((Int16.ofInt 2000).toInt32), .int z5], 0, 0) 94 3 (fun _ => rfl) h) ?_
          cases b7 : pj_c1 .ne z5 ((Int16.ofInt 2000).toInt32) with
          | true =>
            rw [pj_cT]
            have ub7 := pj_u_neT b7
            refine pj_X_of (fun r h => pj_R_icT 121 rfl rfl b7 h) ?_
            refine pj_X_of (fun r h => pj_R_to (G, 123, [(4, .int z5), (0, .ref 27), (1, .ref 33), (2, .int v2), (3, .int v3)], [.int (Int32.ofInt 1), .int v2], 0, 0) 123 3 (fun _ => rfl) h) ?_
            cases b8 : pj_c1 .le v2 (Int32.ofInt 1) with
            | true =>
              rw [pj_cT]
              have ub8 := pj_u_leT b8
              refine pj_X_of (fun r h => pj_R_icT 160 rfl rfl b8 h) ?_
              refine pj_X_of (fun r h => pj_R_to (G, 163, [(3, .int (v3 + Int32.ofInt 1)), (4, .int z5), (0, .ref 27), (1, .ref 33), (2, .int v2)], [], 0, 0) 163 2 (fun _ => rfl) h) ?_
              obtain ⟨z9, hz9⟩ : ∃ z : Int32, z = v3 + Int32.ofInt 1 := ⟨_, rfl⟩
              rw [← hz9]
              rw [pj_nm_e]
              have fz9_0 : z9.toInt = v3.toInt + (Int32.ofInt 1).toInt := by rw [hz9]; exact pj_addI (by have := pj_i32 v3; have := pj_i32 (Int32.ofInt 1); omega) (by have := pj_i32 v3; have := pj_i32 (Int32.ofInt 1); omega)
              refine pj_X_of (fun r h => pj_R_to (G, 26, [(3, .int z9), (4, .int z5), (0, .ref 27), (1, .ref 33), (2, .int v2)], [], 0, 0) 26 2 (fun _ => rfl) h) ?_
              exact pj_X_sub [(0, .ref 27), (1, .ref 33), (2, .int v2), (3, .int z9)] (show List.Nodup [0, 1, 2, 3] by decide) ⟨rfl, rfl, rfl, rfl, trivial⟩ (ih G hI hK v2 z9 ⟨by omega, by omega⟩ ⟨by omega, by omega⟩ (by omega))
            | false =>
              rw [pj_cF]
              have ub8 := pj_u_leF b8
              refine pj_X_of (fun r h => pj_R_icF rfl b8 h) ?_
              refine pj_X_of (fun r h => pj_R_to (G, 129, [(2, .int (v2 + Int32.ofInt (-1))), (4, .int z5), (0, .ref 27), (1, .ref 33), (3, .int v3)], [], 0, 0) 129 2 (fun _ => rfl) h) ?_
              obtain ⟨z10, hz10⟩ : ∃ z : Int32, z = v2 + Int32.ofInt (-1) := ⟨_, rfl⟩
              rw [← hz10]
              rw [pj_nm_e]
              have fz10_0 : z10.toInt = v2.toInt + (Int32.ofInt (-1)).toInt := by rw [hz10]; exact pj_addI (by have := pj_i32 v2; have := pj_i32 (Int32.ofInt (-1)); omega) (by have := pj_i32 v2; have := pj_i32 (Int32.ofInt (-1)); omega)
              refine pj_X_of (fun r h => pj_R_to (G, 130, [(2, .int z10), (4, .int z5), (0, .ref 27), (1, .ref 33), (3, .int v3)], [.ref 27], 0, 0) 130 2 (fun _ => rfl) h) ?_
              refine pj_X_of (fun r h => pj_T_gr hI rfl rfl rfl h) ?_
              refine pj_X_of (fun r h => pj_R_to (G, 136, [(2, .int z10), (4, .int z5), (0, .ref 27), (1, .ref 33), (3, .int v3)], [.int (z10 - (Int32.ofInt 1)), .ref 30], 0, 0) 136 4 (fun _ => rfl) h) ?_
              obtain ⟨z11, hz11⟩ : ∃ z : Int32, z = z10 - (Int32.ofInt 1) := ⟨_, rfl⟩
              refine pj_X_eqi hz11.symm ?_
              rw [← hz11, pj_nm_e]
              have fz11_0 : z11.toInt = z10.toInt - (Int32.ofInt 1).toInt := by rw [hz11]; exact pj_subI (by have := pj_i32 z10; have := pj_i32 (Int32.ofInt 1); omega) (by have := pj_i32 z10; have := pj_i32 (Int32.ofInt 1); omega)
              refine pj_X_of (fun r h => pj_R_to (G, 142, [(2, .int z10), (4, .int z5), (0, .ref 27), (1, .ref 33), (3, .int v3)], [.int (z5 - ((Int16.ofInt 3000).toInt32)), .int z11, .ref 30], 0, 0) 142 4 (fun _ => rfl) h) ?_
              obtain ⟨z12, hz12⟩ : ∃ z : Int32, z = z5 - ((Int16.ofInt 3000).toInt32) := ⟨_, rfl⟩
              refine pj_X_eqi hz12.symm ?_
              rw [← hz12, pj_nm_e]
              have fz12_0 : z12.toInt = z5.toInt - ((Int16.ofInt 3000).toInt32).toInt := by rw [hz12]; exact pj_subI (by have := pj_i32 z5; have := pj_i32 ((Int16.ofInt 3000).toInt32); omega) (by have := pj_i32 z5; have := pj_i32 ((Int16.ofInt 3000).toInt32); omega)
              refine pj_X_of (fun r h => pj_R_to (G, 143, [(2, .int z10), (4, .int z5), (0, .ref 27), (1, .ref 33), (3, .int v3)], [.ref 27, .int z12, .int z11, .ref 30], 0, 0) 143 2 (fun _ => rfl) h) ?_
              refine pj_X_of (fun r h => pj_T_gr hI rfl rfl rfl h) ?_
              refine pj_X_of (fun r h => pj_R_to (G, 149, [(2, .int z10), (4, .int z5), (0, .ref 27), (1, .ref 33), (3, .int v3)], [.int (z10 - (Int32.ofInt 1)), .ref 30, .int z12, .int z11, .ref 30], 0, 0) 149 4 (fun _ => rfl) h) ?_
              refine pj_X_eqi hz11.symm ?_
              refine pj_X_of (fun r h => pj_T_il hI rfl rfl (by omega) (by omega) h) ?_
              show pj_X _ _ G 150 [(2, .int z10), (4, .int z5), (0, .ref 27), (1, .ref 33), (3, .int v3)] [.int (pj_ai G 30 z11.toInt.toNat), .int z12, .int z11, .ref 30] _
              obtain ⟨z13, hz13⟩ : ∃ z : Int32, z = pj_ai G 30 z11.toInt.toNat := ⟨_, rfl⟩
              refine pj_X_eqi hz13.symm ?_
              rw [← hz13, pj_nm_e]
              have ez13 : (pj_ai G 30 z11.toInt.toNat).toInt = z13.toInt := by rw [hz13]
              refine pj_X_of (fun r h => pj_R_to (G, 151, [(2, .int z10), (4, .int z5), (0, .ref 27), (1, .ref 33), (3, .int v3)], [.ref 27, .int z13, .int z12, .int z11, .ref 30], 0, 0) 151 2 (fun _ => rfl) h) ?_
              refine pj_X_of (fun r h => pj_T_gr hI rfl rfl rfl h) ?_
              refine pj_X_of (fun r h => pj_R_to (G, 155, [(2, .int z10), (4, .int z5), (0, .ref 27), (1, .ref 33), (3, .int v3)], [.int z10, .ref 30, .int z13, .int z12, .int z11, .ref 30], 0, 0) 155 2 (fun _ => rfl) h) ?_
              refine pj_X_of (fun r h => pj_T_il hI rfl rfl (by omega) (by omega) h) ?_
              show pj_X _ _ G 156 [(2, .int z10), (4, .int z5), (0, .ref 27), (1, .ref 33), (3, .int v3)] [.int (pj_ai G 30 z10.toInt.toNat), .int z13, .int z12, .int z11, .ref 30] _
              obtain ⟨z14, hz14⟩ : ∃ z : Int32, z = pj_ai G 30 z10.toInt.toNat := ⟨_, rfl⟩
              refine pj_X_eqi hz14.symm ?_
              rw [← hz14, pj_nm_e]
              have ez14 : (pj_ai G 30 z10.toInt.toNat).toInt = z14.toInt := by rw [hz14]
              refine pj_X_ca (vs := [.int z12, .int z13, .int z14]) rfl (fun _ => rfl) ⟨Nat.le_of_ble_eq_true rfl, Nat.le_of_ble_eq_true rfl, rfl⟩ ⟨rfl, rfl⟩ (pj_Y_up (by decide) (ct_66x G hI z12 z13 z14)) ?_
              rintro _ _ ⟨y15, rfl, rfl, ry15, fy15⟩
              rw [← fy15, pj_nm_e]
              show pj_X _ _ G 159 [(2, .int z10), (4, .int z5), (0, .ref 27), (1, .ref 33), (3, .int v3)] [.int y15, .int z11, .ref 30] _
              refine pj_X_of (fun r h => pj_T_is hI rfl rfl (by omega) (by omega) h) ?_
              show pj_X _ _ (pj_wa G 30 z11.toInt.toNat y15) 160 [(2, .int z10), (4, .int z5), (0, .ref 27), (1, .ref 33), (3, .int v3)] [] _
              obtain ⟨G16, hG16⟩ : ∃ H, H = pj_wa G 30 z11.toInt.toNat y15 := ⟨_, rfl⟩
              have iG16 : pj_Inv G16 := by rw [hG16]; exact pj_Inv_wa hI rfl (fun q hq => by cases hq) (fun n hn => by cases hn)
              have kG16 : pj_kpt kc_65x G0 G16 := by rw [hG16]; exact pj_kpt_a hK rfl
              rw [← hG16]
              rw [pj_nm_e]
              refine pj_X_of (fun r h => pj_R_to (G16, 163, [(3, .int (v3 + Int32.ofInt 1)), (2, .int z10), (4, .int z5), (0, .ref 27), (1, .ref 33)], [], 0, 0) 163 2 (fun _ => rfl) h) ?_
              obtain ⟨z17, hz17⟩ : ∃ z : Int32, z = v3 + Int32.ofInt 1 := ⟨_, rfl⟩
              rw [← hz17]
              rw [pj_nm_e]
              have fz17_0 : z17.toInt = v3.toInt + (Int32.ofInt 1).toInt := by rw [hz17]; exact pj_addI (by have := pj_i32 v3; have := pj_i32 (Int32.ofInt 1); omega) (by have := pj_i32 v3; have := pj_i32 (Int32.ofInt 1); omega)
              refine pj_X_of (fun r h => pj_R_to (G16, 26, [(3, .int z17), (2, .int z10), (4, .int z5), (0, .ref 27), (1, .ref 33)], [], 0, 0) 26 2 (fun _ => rfl) h) ?_
              exact pj_X_sub [(0, .ref 27), (1, .ref 33), (2, .int z10), (3, .int z17)] (show List.Nodup [0, 1, 2, 3] by decide) ⟨rfl, rfl, rfl, rfl, trivial⟩ (ih G16 iG16 kG16 z10 z17 ⟨by omega, by omega⟩ ⟨by omega, by omega⟩ (by omega))
          | false =>
            rw [pj_cF]
            have ub7 := pj_u_neF b7
            refine pj_X_of (fun r h => pj_R_icF rfl b7 h) ?_
            refine pj_X_of (fun r h => pj_R_to (G, 98, [(4, .int z5), (0, .ref 27), (1, .ref 33), (2, .int v2), (3, .int v3)], [.int v2], 0, 0) 98 2 (fun _ => rfl) h) ?_
            cases b18 : pj_c1 .le v2 0 with
            | true =>
              rw [pj_cT]
              have ub18 := pj_u0_leT b18
              refine pj_X_of (fun r h => pj_R_ifT 121 rfl rfl b18 h) ?_
              refine pj_X_of (fun r h => pj_R_to (G, 123, [(4, .int z5), (0, .ref 27), (1, .ref 33), (2, .int v2), (3, .int v3)], [.int (Int32.ofInt 1), .int v2], 0, 0) 123 3 (fun _ => rfl) h) ?_
              refine pj_X_of (fun r h => pj_R_icT 160 rfl rfl (pj_b_leT (by omega)) h) ?_
              refine pj_X_of (fun r h => pj_R_to (G, 163, [(3, .int (v3 + Int32.ofInt 1)), (4, .int z5), (0, .ref 27), (1, .ref 33), (2, .int v2)], [], 0, 0) 163 2 (fun _ => rfl) h) ?_
              obtain ⟨z19, hz19⟩ : ∃ z : Int32, z = v3 + Int32.ofInt 1 := ⟨_, rfl⟩
              rw [← hz19]
              rw [pj_nm_e]
              have fz19_0 : z19.toInt = v3.toInt + (Int32.ofInt 1).toInt := by rw [hz19]; exact pj_addI (by have := pj_i32 v3; have := pj_i32 (Int32.ofInt 1); omega) (by have := pj_i32 v3; have := pj_i32 (Int32.ofInt 1); omega)
              refine pj_X_of (fun r h => pj_R_to (G, 26, [(3, .int z19), (4, .int z5), (0, .ref 27), (1, .ref 33), (2, .int v2)], [], 0, 0) 26 2 (fun _ => rfl) h) ?_
              exact pj_X_sub [(0, .ref 27), (1, .ref 33), (2, .int v2), (3, .int z19)] (show List.Nodup [0, 1, 2, 3] by decide) ⟨rfl, rfl, rfl, rfl, trivial⟩ (ih G hI hK v2 z19 ⟨by omega, by omega⟩ ⟨by omega, by omega⟩ (by omega))
            | false =>
              rw [pj_cF]
              have ub18 := pj_u0_leF b18
              refine pj_X_of (fun r h => pj_R_ifF rfl b18 h) ?_
              refine pj_X_of (fun r h => pj_R_to (G, 102, [(4, .int z5), (0, .ref 27), (1, .ref 33), (2, .int v2), (3, .int v3)], [.ref 27], 0, 0) 102 2 (fun _ => rfl) h) ?_
              refine pj_X_of (fun r h => pj_T_gr hI rfl rfl rfl h) ?_
              refine pj_X_of (fun r h => pj_R_to (G, 108, [(4, .int z5), (0, .ref 27), (1, .ref 33), (2, .int v2), (3, .int v3)], [.int (v2 - (Int32.ofInt 1)), .ref 30], 0, 0) 108 4 (fun _ => rfl) h) ?_
              obtain ⟨z20, hz20⟩ : ∃ z : Int32, z = v2 - (Int32.ofInt 1) := ⟨_, rfl⟩
              refine pj_X_eqi hz20.symm ?_
              rw [← hz20, pj_nm_e]
              have fz20_0 : z20.toInt = v2.toInt - (Int32.ofInt 1).toInt := by rw [hz20]; exact pj_subI (by have := pj_i32 v2; have := pj_i32 (Int32.ofInt 1); omega) (by have := pj_i32 v2; have := pj_i32 (Int32.ofInt 1); omega)
              refine pj_X_of (fun r h => pj_R_to (G, 109, [(4, .int z5), (0, .ref 27), (1, .ref 33), (2, .int v2), (3, .int v3)], [.ref 27, .int z20, .ref 30], 0, 0) 109 2 (fun _ => rfl) h) ?_
              refine pj_X_of (fun r h => pj_T_gr hI rfl rfl rfl h) ?_
              refine pj_X_of (fun r h => pj_R_to (G, 115, [(4, .int z5), (0, .ref 27), (1, .ref 33), (2, .int v2), (3, .int v3)], [.int (v2 - (Int32.ofInt 1)), .ref 30, .int z20, .ref 30], 0, 0) 115 4 (fun _ => rfl) h) ?_
              refine pj_X_eqi hz20.symm ?_
              refine pj_X_of (fun r h => pj_T_il hI rfl rfl (by omega) (by omega) h) ?_
              show pj_X _ _ G 116 [(4, .int z5), (0, .ref 27), (1, .ref 33), (2, .int v2), (3, .int v3)] [.int (pj_ai G 30 z20.toInt.toNat), .int z20, .ref 30] _
              obtain ⟨z21, hz21⟩ : ∃ z : Int32, z = pj_ai G 30 z20.toInt.toNat := ⟨_, rfl⟩
              refine pj_X_eqi hz21.symm ?_
              rw [← hz21, pj_nm_e]
              have ez21 : (pj_ai G 30 z20.toInt.toNat).toInt = z21.toInt := by rw [hz21]
              refine pj_X_of (fun r h => pj_R_to (G, 117, [(4, .int z5), (0, .ref 27), (1, .ref 33), (2, .int v2), (3, .int v3)], [.int (-z21), .int z20, .ref 30], 0, 0) 117 2 (fun _ => rfl) h) ?_
              obtain ⟨z22, hz22⟩ : ∃ z : Int32, z = -z21 := ⟨_, rfl⟩
              refine pj_X_eqi hz22.symm ?_
              rw [← hz22, pj_nm_e]
              refine pj_X_of (fun r h => pj_T_is hI rfl rfl (by omega) (by omega) h) ?_
              show pj_X _ _ (pj_wa G 30 z20.toInt.toNat z22) 118 [(4, .int z5), (0, .ref 27), (1, .ref 33), (2, .int v2), (3, .int v3)] [] _
              obtain ⟨G23, hG23⟩ : ∃ H, H = pj_wa G 30 z20.toInt.toNat z22 := ⟨_, rfl⟩
              have iG23 : pj_Inv G23 := by rw [hG23]; exact pj_Inv_wa hI rfl (fun q hq => by cases hq) (fun n hn => by cases hn)
              have kG23 : pj_kpt kc_65x G0 G23 := by rw [hG23]; exact pj_kpt_a hK rfl
              rw [← hG23]
              rw [pj_nm_e]
              refine pj_X_of (fun r h => pj_R_to (G23, 163, [(3, .int (v3 + Int32.ofInt 1)), (4, .int z5), (0, .ref 27), (1, .ref 33), (2, .int v2)], [], 0, 0) 163 3 (fun _ => rfl) h) ?_
              obtain ⟨z24, hz24⟩ : ∃ z : Int32, z = v3 + Int32.ofInt 1 := ⟨_, rfl⟩
              rw [← hz24]
              rw [pj_nm_e]
              have fz24_0 : z24.toInt = v3.toInt + (Int32.ofInt 1).toInt := by rw [hz24]; exact pj_addI (by have := pj_i32 v3; have := pj_i32 (Int32.ofInt 1); omega) (by have := pj_i32 v3; have := pj_i32 (Int32.ofInt 1); omega)
              refine pj_X_of (fun r h => pj_R_to (G23, 26, [(3, .int z24), (4, .int z5), (0, .ref 27), (1, .ref 33), (2, .int v2)], [], 0, 0) 26 2 (fun _ => rfl) h) ?_
              exact pj_X_sub [(0, .ref 27), (1, .ref 33), (2, .int v2), (3, .int z24)] (show List.Nodup [0, 1, 2, 3] by decide) ⟨rfl, rfl, rfl, rfl, trivial⟩ (ih G23 iG23 kG23 v2 z24 ⟨by omega, by omega⟩ ⟨by omega, by omega⟩ (by omega))
        | false =>
          rw [pj_cF]
          have ub6 := pj_u_geF b6
          refine pj_X_of (fun r h => pj_R_icF rfl b6 h) ?_
          refine pj_X_of (fun r h => pj_R_to (G, 53, [(4, .int z5), (0, .ref 27), (1, .ref 33), (2, .int v2), (3, .int v3)], [.int ((Int8.ofInt 40).toInt32), .int v2], 0, 0) 53 3 (fun _ => rfl) h) ?_
          cases b25 : pj_c1 .ge v2 ((Int8.ofInt 40).toInt32) with
          | true =>
            rw [pj_cT]
            have ub25 := pj_u_geT b25
            refine pj_X_of (fun r h => pj_R_icT 89 rfl rfl b25 h) ?_
            refine pj_X_of (fun r h => pj_R_to (G, 94, [(4, .int z5), (0, .ref 27), (1, .ref 33), (2, .int v2), (3, .int v3)], [.int ((Int16.ofInt 2000).toInt32), .int z5], 0, 0) 94 3 (fun _ => rfl) h) ?_
            refine pj_X_of (fun r h => pj_R_icT 121 rfl rfl (pj_b_neT (by omega)) h) ?_
            refine pj_X_of (fun r h => pj_R_to (G, 123, [(4, .int z5), (0, .ref 27), (1, .ref 33), (2, .int v2), (3, .int v3)], [.int (Int32.ofInt 1), .int v2], 0, 0) 123 3 (fun _ => rfl) h) ?_
            refine pj_X_of (fun r h => pj_R_icF rfl (pj_b_leF (by omega)) h) ?_
            refine pj_X_of (fun r h => pj_R_to (G, 129, [(2, .int (v2 + Int32.ofInt (-1))), (4, .int z5), (0, .ref 27), (1, .ref 33), (3, .int v3)], [], 0, 0) 129 2 (fun _ => rfl) h) ?_
            obtain ⟨z26, hz26⟩ : ∃ z : Int32, z = v2 + Int32.ofInt (-1) := ⟨_, rfl⟩
            rw [← hz26]
            rw [pj_nm_e]
            have fz26_0 : z26.toInt = v2.toInt + (Int32.ofInt (-1)).toInt := by rw [hz26]; exact pj_addI (by have := pj_i32 v2; have := pj_i32 (Int32.ofInt (-1)); omega) (by have := pj_i32 v2; have := pj_i32 (Int32.ofInt (-1)); omega)
            refine pj_X_of (fun r h => pj_R_to (G, 130, [(2, .int z26), (4, .int z5), (0, .ref 27), (1, .ref 33), (3, .int v3)], [.ref 27], 0, 0) 130 2 (fun _ => rfl) h) ?_
            refine pj_X_of (fun r h => pj_T_gr hI rfl rfl rfl h) ?_
            refine pj_X_of (fun r h => pj_R_to (G, 136, [(2, .int z26), (4, .int z5), (0, .ref 27), (1, .ref 33), (3, .int v3)], [.int (z26 - (Int32.ofInt 1)), .ref 30], 0, 0) 136 4 (fun _ => rfl) h) ?_
            obtain ⟨z27, hz27⟩ : ∃ z : Int32, z = z26 - (Int32.ofInt 1) := ⟨_, rfl⟩
            refine pj_X_eqi hz27.symm ?_
            rw [← hz27, pj_nm_e]
            have fz27_0 : z27.toInt = z26.toInt - (Int32.ofInt 1).toInt := by rw [hz27]; exact pj_subI (by have := pj_i32 z26; have := pj_i32 (Int32.ofInt 1); omega) (by have := pj_i32 z26; have := pj_i32 (Int32.ofInt 1); omega)
            refine pj_X_of (fun r h => pj_R_to (G, 142, [(2, .int z26), (4, .int z5), (0, .ref 27), (1, .ref 33), (3, .int v3)], [.int (z5 - ((Int16.ofInt 3000).toInt32)), .int z27, .ref 30], 0, 0) 142 4 (fun _ => rfl) h) ?_
            obtain ⟨z28, hz28⟩ : ∃ z : Int32, z = z5 - ((Int16.ofInt 3000).toInt32) := ⟨_, rfl⟩
            refine pj_X_eqi hz28.symm ?_
            rw [← hz28, pj_nm_e]
            have fz28_0 : z28.toInt = z5.toInt - ((Int16.ofInt 3000).toInt32).toInt := by rw [hz28]; exact pj_subI (by have := pj_i32 z5; have := pj_i32 ((Int16.ofInt 3000).toInt32); omega) (by have := pj_i32 z5; have := pj_i32 ((Int16.ofInt 3000).toInt32); omega)
            refine pj_X_of (fun r h => pj_R_to (G, 143, [(2, .int z26), (4, .int z5), (0, .ref 27), (1, .ref 33), (3, .int v3)], [.ref 27, .int z28, .int z27, .ref 30], 0, 0) 143 2 (fun _ => rfl) h) ?_
            refine pj_X_of (fun r h => pj_T_gr hI rfl rfl rfl h) ?_
            refine pj_X_of (fun r h => pj_R_to (G, 149, [(2, .int z26), (4, .int z5), (0, .ref 27), (1, .ref 33), (3, .int v3)], [.int (z26 - (Int32.ofInt 1)), .ref 30, .int z28, .int z27, .ref 30], 0, 0) 149 4 (fun _ => rfl) h) ?_
            refine pj_X_eqi hz27.symm ?_
            refine pj_X_of (fun r h => pj_T_il hI rfl rfl (by omega) (by omega) h) ?_
            show pj_X _ _ G 150 [(2, .int z26), (4, .int z5), (0, .ref 27), (1, .ref 33), (3, .int v3)] [.int (pj_ai G 30 z27.toInt.toNat), .int z28, .int z27, .ref 30] _
            obtain ⟨z29, hz29⟩ : ∃ z : Int32, z = pj_ai G 30 z27.toInt.toNat := ⟨_, rfl⟩
            refine pj_X_eqi hz29.symm ?_
            rw [← hz29, pj_nm_e]
            have ez29 : (pj_ai G 30 z27.toInt.toNat).toInt = z29.toInt := by rw [hz29]
            refine pj_X_of (fun r h => pj_R_to (G, 151, [(2, .int z26), (4, .int z5), (0, .ref 27), (1, .ref 33), (3, .int v3)], [.ref 27, .int z29, .int z28, .int z27, .ref 30], 0, 0) 151 2 (fun _ => rfl) h) ?_
            refine pj_X_of (fun r h => pj_T_gr hI rfl rfl rfl h) ?_
            refine pj_X_of (fun r h => pj_R_to (G, 155, [(2, .int z26), (4, .int z5), (0, .ref 27), (1, .ref 33), (3, .int v3)], [.int z26, .ref 30, .int z29, .int z28, .int z27, .ref 30], 0, 0) 155 2 (fun _ => rfl) h) ?_
            refine pj_X_of (fun r h => pj_T_il hI rfl rfl (by omega) (by omega) h) ?_
            show pj_X _ _ G 156 [(2, .int z26), (4, .int z5), (0, .ref 27), (1, .ref 33), (3, .int v3)] [.int (pj_ai G 30 z26.toInt.toNat), .int z29, .int z28, .int z27, .ref 30] _
            obtain ⟨z30, hz30⟩ : ∃ z : Int32, z = pj_ai G 30 z26.toInt.toNat := ⟨_, rfl⟩
            refine pj_X_eqi hz30.symm ?_
            rw [← hz30, pj_nm_e]
            have ez30 : (pj_ai G 30 z26.toInt.toNat).toInt = z30.toInt := by rw [hz30]
            refine pj_X_ca (vs := [.int z28, .int z29, .int z30]) rfl (fun _ => rfl) ⟨Nat.le_of_ble_eq_true rfl, Nat.le_of_ble_eq_true rfl, rfl⟩ ⟨rfl, rfl⟩ (pj_Y_up (by decide) (ct_66x G hI z28 z29 z30)) ?_
            rintro _ _ ⟨y31, rfl, rfl, ry31, fy31⟩
            rw [← fy31, pj_nm_e]
            show pj_X _ _ G 159 [(2, .int z26), (4, .int z5), (0, .ref 27), (1, .ref 33), (3, .int v3)] [.int y31, .int z27, .ref 30] _
            refine pj_X_of (fun r h => pj_T_is hI rfl rfl (by omega) (by omega) h) ?_
            show pj_X _ _ (pj_wa G 30 z27.toInt.toNat y31) 160 [(2, .int z26), (4, .int z5), (0, .ref 27), (1, .ref 33), (3, .int v3)] [] _
            obtain ⟨G32, hG32⟩ : ∃ H, H = pj_wa G 30 z27.toInt.toNat y31 := ⟨_, rfl⟩
            have iG32 : pj_Inv G32 := by rw [hG32]; exact pj_Inv_wa hI rfl (fun q hq => by cases hq) (fun n hn => by cases hn)
            have kG32 : pj_kpt kc_65x G0 G32 := by rw [hG32]; exact pj_kpt_a hK rfl
            rw [← hG32]
            rw [pj_nm_e]
            refine pj_X_of (fun r h => pj_R_to (G32, 163, [(3, .int (v3 + Int32.ofInt 1)), (2, .int z26), (4, .int z5), (0, .ref 27), (1, .ref 33)], [], 0, 0) 163 2 (fun _ => rfl) h) ?_
            obtain ⟨z33, hz33⟩ : ∃ z : Int32, z = v3 + Int32.ofInt 1 := ⟨_, rfl⟩
            rw [← hz33]
            rw [pj_nm_e]
            have fz33_0 : z33.toInt = v3.toInt + (Int32.ofInt 1).toInt := by rw [hz33]; exact pj_addI (by have := pj_i32 v3; have := pj_i32 (Int32.ofInt 1); omega) (by have := pj_i32 v3; have := pj_i32 (Int32.ofInt 1); omega)
            refine pj_X_of (fun r h => pj_R_to (G32, 26, [(3, .int z33), (2, .int z26), (4, .int z5), (0, .ref 27), (1, .ref 33)], [], 0, 0) 26 2 (fun _ => rfl) h) ?_
            exact pj_X_sub [(0, .ref 27), (1, .ref 33), (2, .int z26), (3, .int z33)] (show List.Nodup [0, 1, 2, 3] by decide) ⟨rfl, rfl, rfl, rfl, trivial⟩ (ih G32 iG32 kG32 z26 z33 ⟨by omega, by omega⟩ ⟨by omega, by omega⟩ (by omega))
          | false =>
            rw [pj_cF]
            have ub25 := pj_u_geF b25
            refine pj_X_of (fun r h => pj_R_icF rfl b25 h) ?_
            refine pj_X_of (fun r h => pj_R_to (G, 57, [(4, .int z5), (0, .ref 27), (1, .ref 33), (2, .int v2), (3, .int v3)], [.ref 27], 0, 0) 57 2 (fun _ => rfl) h) ?_
            refine pj_X_of (fun r h => pj_T_gr hI rfl rfl rfl h) ?_
            refine pj_X_of (fun r h => pj_R_to (G, 66, [(4, .int z5), (0, .ref 27), (1, .ref 33), (2, .int v2), (3, .int v3)], [.int ((Int16.ofInt 1000).toInt32), .int z5, .int v2, .ref 30], 0, 0) 66 4 (fun _ => rfl) h) ?_
            cases b34 : pj_c1 .ge z5 ((Int16.ofInt 1000).toInt32) with
            | true =>
              rw [pj_cT]
              have ub34 := pj_u_geT b34
              refine pj_X_of (fun r h => pj_R_icT 74 rfl rfl b34 h) ?_
              refine pj_X_of (fun r h => pj_R_to (G, 81, [(4, .int z5), (0, .ref 27), (1, .ref 33), (2, .int v2), (3, .int v3)], [.int (z5 - ((Int16.ofInt 1000).toInt32)), .ref 33, .int v2, .ref 30], 0, 0) 81 5 (fun _ => rfl) h) ?_
              obtain ⟨z35, hz35⟩ : ∃ z : Int32, z = z5 - ((Int16.ofInt 1000).toInt32) := ⟨_, rfl⟩
              refine pj_X_eqi hz35.symm ?_
              rw [← hz35, pj_nm_e]
              have fz35_0 : z35.toInt = z5.toInt - ((Int16.ofInt 1000).toInt32).toInt := by rw [hz35]; exact pj_subI (by have := pj_i32 z5; have := pj_i32 ((Int16.ofInt 1000).toInt32); omega) (by have := pj_i32 z5; have := pj_i32 ((Int16.ofInt 1000).toInt32); omega)
              refine pj_X_of (fun r h => pj_T_il hI rfl rfl (by omega) (by omega) h) ?_
              show pj_X _ _ G 82 [(4, .int z5), (0, .ref 27), (1, .ref 33), (2, .int v2), (3, .int v3)] [.int (pj_ai G 33 z35.toInt.toNat), .int v2, .ref 30] _
              obtain ⟨z36, hz36⟩ : ∃ z : Int32, z = pj_ai G 33 z35.toInt.toNat := ⟨_, rfl⟩
              refine pj_X_eqi hz36.symm ?_
              rw [← hz36, pj_nm_e]
              have ez36 : (pj_ai G 33 z35.toInt.toNat).toInt = z36.toInt := by rw [hz36]
              refine pj_X_of (fun r h => pj_T_is hI rfl rfl (by omega) (by omega) h) ?_
              show pj_X _ _ (pj_wa G 30 v2.toInt.toNat z36) 83 [(4, .int z5), (0, .ref 27), (1, .ref 33), (2, .int v2), (3, .int v3)] [] _
              obtain ⟨G37, hG37⟩ : ∃ H, H = pj_wa G 30 v2.toInt.toNat z36 := ⟨_, rfl⟩
              have iG37 : pj_Inv G37 := by rw [hG37]; exact pj_Inv_wa hI rfl (fun q hq => by cases hq) (fun n hn => by cases hn)
              have kG37 : pj_kpt kc_65x G0 G37 := by rw [hG37]; exact pj_kpt_a hK rfl
              rw [← hG37]
              rw [pj_nm_e]
              refine pj_X_of (fun r h => pj_R_to (G37, 86, [(2, .int (v2 + Int32.ofInt 1)), (4, .int z5), (0, .ref 27), (1, .ref 33), (3, .int v3)], [], 0, 0) 86 2 (fun _ => rfl) h) ?_
              obtain ⟨z38, hz38⟩ : ∃ z : Int32, z = v2 + Int32.ofInt 1 := ⟨_, rfl⟩
              rw [← hz38]
              rw [pj_nm_e]
              have fz38_0 : z38.toInt = v2.toInt + (Int32.ofInt 1).toInt := by rw [hz38]; exact pj_addI (by have := pj_i32 v2; have := pj_i32 (Int32.ofInt 1); omega) (by have := pj_i32 v2; have := pj_i32 (Int32.ofInt 1); omega)
              refine pj_X_of (fun r h => pj_R_to (G37, 163, [(3, .int (v3 + Int32.ofInt 1)), (2, .int z38), (4, .int z5), (0, .ref 27), (1, .ref 33)], [], 0, 0) 163 3 (fun _ => rfl) h) ?_
              obtain ⟨z39, hz39⟩ : ∃ z : Int32, z = v3 + Int32.ofInt 1 := ⟨_, rfl⟩
              rw [← hz39]
              rw [pj_nm_e]
              have fz39_0 : z39.toInt = v3.toInt + (Int32.ofInt 1).toInt := by rw [hz39]; exact pj_addI (by have := pj_i32 v3; have := pj_i32 (Int32.ofInt 1); omega) (by have := pj_i32 v3; have := pj_i32 (Int32.ofInt 1); omega)
              refine pj_X_of (fun r h => pj_R_to (G37, 26, [(3, .int z39), (2, .int z38), (4, .int z5), (0, .ref 27), (1, .ref 33)], [], 0, 0) 26 2 (fun _ => rfl) h) ?_
              exact pj_X_sub [(0, .ref 27), (1, .ref 33), (2, .int z38), (3, .int z39)] (show List.Nodup [0, 1, 2, 3] by decide) ⟨rfl, rfl, rfl, rfl, trivial⟩ (ih G37 iG37 kG37 z38 z39 ⟨by omega, by omega⟩ ⟨by omega, by omega⟩ (by omega))
            | false =>
              rw [pj_cF]
              have ub34 := pj_u_geF b34
              refine pj_X_of (fun r h => pj_R_icF rfl b34 h) ?_
              refine pj_X_of (fun r h => pj_R_to (G, 82, [(4, .int z5), (0, .ref 27), (1, .ref 33), (2, .int v2), (3, .int v3)], [.int z5, .int v2, .ref 30], 0, 0) 82 3 (fun _ => rfl) h) ?_
              refine pj_X_of (fun r h => pj_T_is hI rfl rfl (by omega) (by omega) h) ?_
              show pj_X _ _ (pj_wa G 30 v2.toInt.toNat z5) 83 [(4, .int z5), (0, .ref 27), (1, .ref 33), (2, .int v2), (3, .int v3)] [] _
              obtain ⟨G40, hG40⟩ : ∃ H, H = pj_wa G 30 v2.toInt.toNat z5 := ⟨_, rfl⟩
              have iG40 : pj_Inv G40 := by rw [hG40]; exact pj_Inv_wa hI rfl (fun q hq => by cases hq) (fun n hn => by cases hn)
              have kG40 : pj_kpt kc_65x G0 G40 := by rw [hG40]; exact pj_kpt_a hK rfl
              rw [← hG40]
              rw [pj_nm_e]
              refine pj_X_of (fun r h => pj_R_to (G40, 86, [(2, .int (v2 + Int32.ofInt 1)), (4, .int z5), (0, .ref 27), (1, .ref 33), (3, .int v3)], [], 0, 0) 86 2 (fun _ => rfl) h) ?_
              obtain ⟨z41, hz41⟩ : ∃ z : Int32, z = v2 + Int32.ofInt 1 := ⟨_, rfl⟩
              rw [← hz41]
              rw [pj_nm_e]
              have fz41_0 : z41.toInt = v2.toInt + (Int32.ofInt 1).toInt := by rw [hz41]; exact pj_addI (by have := pj_i32 v2; have := pj_i32 (Int32.ofInt 1); omega) (by have := pj_i32 v2; have := pj_i32 (Int32.ofInt 1); omega)
              refine pj_X_of (fun r h => pj_R_to (G40, 163, [(3, .int (v3 + Int32.ofInt 1)), (2, .int z41), (4, .int z5), (0, .ref 27), (1, .ref 33)], [], 0, 0) 163 3 (fun _ => rfl) h) ?_
              obtain ⟨z42, hz42⟩ : ∃ z : Int32, z = v3 + Int32.ofInt 1 := ⟨_, rfl⟩
              rw [← hz42]
              rw [pj_nm_e]
              have fz42_0 : z42.toInt = v3.toInt + (Int32.ofInt 1).toInt := by rw [hz42]; exact pj_addI (by have := pj_i32 v3; have := pj_i32 (Int32.ofInt 1); omega) (by have := pj_i32 v3; have := pj_i32 (Int32.ofInt 1); omega)
              refine pj_X_of (fun r h => pj_R_to (G40, 26, [(3, .int z42), (2, .int z41), (4, .int z5), (0, .ref 27), (1, .ref 33)], [], 0, 0) 26 2 (fun _ => rfl) h) ?_
              exact pj_X_sub [(0, .ref 27), (1, .ref 33), (2, .int z41), (3, .int z42)] (show List.Nodup [0, 1, 2, 3] by decide) ⟨rfl, rfl, rfl, rfl, trivial⟩ (ih G40 iG40 kG40 z41 z42 ⟨by omega, by omega⟩ ⟨by omega, by omega⟩ (by omega))
      · rw [show pj_rb G 27 0 28 = false from pj_rb_f q4 rfl, pj_cF]
        refine pj_X_of (fun r h => pj_R_to (G, 39, [(0, .ref 27), (1, .ref 33), (2, .int v2), (3, .int v3)], [.int v3, .ref 29], 0, 0) 39 2 (fun _ => rfl) h) ?_
        refine pj_X_of (fun r h => pj_T_il hI rfl rfl (by omega) (by omega) h) ?_
        show pj_X _ _ G 40 [(0, .ref 27), (1, .ref 33), (2, .int v2), (3, .int v3)] [.int (pj_ai G 29 v3.toInt.toNat)] _
        obtain ⟨z43, hz43⟩ : ∃ z : Int32, z = pj_ai G 29 v3.toInt.toNat := ⟨_, rfl⟩
        refine pj_X_eqi hz43.symm ?_
        rw [← hz43, pj_nm_e]
        have ez43 : (pj_ai G 29 v3.toInt.toNat).toInt = z43.toInt := by rw [hz43]
        have fz43_0 : (0 : Int) ≤ z43.toInt ∧ z43.toInt ≤ 3255 ∧ (z43.toInt ≤ 1006 ∨ 2000 ≤ z43.toInt) := by rw [hz43]; exact hI.2.2.1 29 (40, 0, 3255, 1006, 2000) rfl _ (by show _ < 40; omega)
        refine pj_X_of (fun r h => pj_R_to (G, 47, [(4, .int z43), (0, .ref 27), (1, .ref 33), (2, .int v2), (3, .int v3)], [.int ((Int16.ofInt 2000).toInt32), .int z43], 0, 0) 47 4 (fun _ => rfl) h) ?_
        cases b44 : pj_c1 .ge z43 ((Int16.ofInt 2000).toInt32) with
        | true =>
          rw [pj_cT]
          have ub44 := pj_u_geT b44
          refine pj_X_of (fun r h => pj_R_icT 89 rfl rfl b44 h) ?_
          refine pj_X_of (fun r h => pj_R_to (G, 94, [(4, .int z43), (0, .ref 27), (1, .ref 33), (2, .int v2), (3, .int v3)], [.int ((Int16.ofInt 2000).toInt32), .int z43], 0, 0) 94 3 (fun _ => rfl) h) ?_
          cases b45 : pj_c1 .ne z43 ((Int16.ofInt 2000).toInt32) with
          | true =>
            rw [pj_cT]
            have ub45 := pj_u_neT b45
            refine pj_X_of (fun r h => pj_R_icT 121 rfl rfl b45 h) ?_
            refine pj_X_of (fun r h => pj_R_to (G, 123, [(4, .int z43), (0, .ref 27), (1, .ref 33), (2, .int v2), (3, .int v3)], [.int (Int32.ofInt 1), .int v2], 0, 0) 123 3 (fun _ => rfl) h) ?_
            cases b46 : pj_c1 .le v2 (Int32.ofInt 1) with
            | true =>
              rw [pj_cT]
              have ub46 := pj_u_leT b46
              refine pj_X_of (fun r h => pj_R_icT 160 rfl rfl b46 h) ?_
              refine pj_X_of (fun r h => pj_R_to (G, 163, [(3, .int (v3 + Int32.ofInt 1)), (4, .int z43), (0, .ref 27), (1, .ref 33), (2, .int v2)], [], 0, 0) 163 2 (fun _ => rfl) h) ?_
              obtain ⟨z47, hz47⟩ : ∃ z : Int32, z = v3 + Int32.ofInt 1 := ⟨_, rfl⟩
              rw [← hz47]
              rw [pj_nm_e]
              have fz47_0 : z47.toInt = v3.toInt + (Int32.ofInt 1).toInt := by rw [hz47]; exact pj_addI (by have := pj_i32 v3; have := pj_i32 (Int32.ofInt 1); omega) (by have := pj_i32 v3; have := pj_i32 (Int32.ofInt 1); omega)
              refine pj_X_of (fun r h => pj_R_to (G, 26, [(3, .int z47), (4, .int z43), (0, .ref 27), (1, .ref 33), (2, .int v2)], [], 0, 0) 26 2 (fun _ => rfl) h) ?_
              exact pj_X_sub [(0, .ref 27), (1, .ref 33), (2, .int v2), (3, .int z47)] (show List.Nodup [0, 1, 2, 3] by decide) ⟨rfl, rfl, rfl, rfl, trivial⟩ (ih G hI hK v2 z47 ⟨by omega, by omega⟩ ⟨by omega, by omega⟩ (by omega))
            | false =>
              rw [pj_cF]
              have ub46 := pj_u_leF b46
              refine pj_X_of (fun r h => pj_R_icF rfl b46 h) ?_
              refine pj_X_of (fun r h => pj_R_to (G, 129, [(2, .int (v2 + Int32.ofInt (-1))), (4, .int z43), (0, .ref 27), (1, .ref 33), (3, .int v3)], [], 0, 0) 129 2 (fun _ => rfl) h) ?_
              obtain ⟨z48, hz48⟩ : ∃ z : Int32, z = v2 + Int32.ofInt (-1) := ⟨_, rfl⟩
              rw [← hz48]
              rw [pj_nm_e]
              have fz48_0 : z48.toInt = v2.toInt + (Int32.ofInt (-1)).toInt := by rw [hz48]; exact pj_addI (by have := pj_i32 v2; have := pj_i32 (Int32.ofInt (-1)); omega) (by have := pj_i32 v2; have := pj_i32 (Int32.ofInt (-1)); omega)
              refine pj_X_of (fun r h => pj_R_to (G, 130, [(2, .int z48), (4, .int z43), (0, .ref 27), (1, .ref 33), (3, .int v3)], [.ref 27], 0, 0) 130 2 (fun _ => rfl) h) ?_
              refine pj_X_of (fun r h => pj_T_gr hI rfl rfl rfl h) ?_
              refine pj_X_of (fun r h => pj_R_to (G, 136, [(2, .int z48), (4, .int z43), (0, .ref 27), (1, .ref 33), (3, .int v3)], [.int (z48 - (Int32.ofInt 1)), .ref 30], 0, 0) 136 4 (fun _ => rfl) h) ?_
              obtain ⟨z49, hz49⟩ : ∃ z : Int32, z = z48 - (Int32.ofInt 1) := ⟨_, rfl⟩
              refine pj_X_eqi hz49.symm ?_
              rw [← hz49, pj_nm_e]
              have fz49_0 : z49.toInt = z48.toInt - (Int32.ofInt 1).toInt := by rw [hz49]; exact pj_subI (by have := pj_i32 z48; have := pj_i32 (Int32.ofInt 1); omega) (by have := pj_i32 z48; have := pj_i32 (Int32.ofInt 1); omega)
              refine pj_X_of (fun r h => pj_R_to (G, 142, [(2, .int z48), (4, .int z43), (0, .ref 27), (1, .ref 33), (3, .int v3)], [.int (z43 - ((Int16.ofInt 3000).toInt32)), .int z49, .ref 30], 0, 0) 142 4 (fun _ => rfl) h) ?_
              obtain ⟨z50, hz50⟩ : ∃ z : Int32, z = z43 - ((Int16.ofInt 3000).toInt32) := ⟨_, rfl⟩
              refine pj_X_eqi hz50.symm ?_
              rw [← hz50, pj_nm_e]
              have fz50_0 : z50.toInt = z43.toInt - ((Int16.ofInt 3000).toInt32).toInt := by rw [hz50]; exact pj_subI (by have := pj_i32 z43; have := pj_i32 ((Int16.ofInt 3000).toInt32); omega) (by have := pj_i32 z43; have := pj_i32 ((Int16.ofInt 3000).toInt32); omega)
              refine pj_X_of (fun r h => pj_R_to (G, 143, [(2, .int z48), (4, .int z43), (0, .ref 27), (1, .ref 33), (3, .int v3)], [.ref 27, .int z50, .int z49, .ref 30], 0, 0) 143 2 (fun _ => rfl) h) ?_
              refine pj_X_of (fun r h => pj_T_gr hI rfl rfl rfl h) ?_
              refine pj_X_of (fun r h => pj_R_to (G, 149, [(2, .int z48), (4, .int z43), (0, .ref 27), (1, .ref 33), (3, .int v3)], [.int (z48 - (Int32.ofInt 1)), .ref 30, .int z50, .int z49, .ref 30], 0, 0) 149 4 (fun _ => rfl) h) ?_
              refine pj_X_eqi hz49.symm ?_
              refine pj_X_of (fun r h => pj_T_il hI rfl rfl (by omega) (by omega) h) ?_
              show pj_X _ _ G 150 [(2, .int z48), (4, .int z43), (0, .ref 27), (1, .ref 33), (3, .int v3)] [.int (pj_ai G 30 z49.toInt.toNat), .int z50, .int z49, .ref 30] _
              obtain ⟨z51, hz51⟩ : ∃ z : Int32, z = pj_ai G 30 z49.toInt.toNat := ⟨_, rfl⟩
              refine pj_X_eqi hz51.symm ?_
              rw [← hz51, pj_nm_e]
              have ez51 : (pj_ai G 30 z49.toInt.toNat).toInt = z51.toInt := by rw [hz51]
              refine pj_X_of (fun r h => pj_R_to (G, 151, [(2, .int z48), (4, .int z43), (0, .ref 27), (1, .ref 33), (3, .int v3)], [.ref 27, .int z51, .int z50, .int z49, .ref 30], 0, 0) 151 2 (fun _ => rfl) h) ?_
              refine pj_X_of (fun r h => pj_T_gr hI rfl rfl rfl h) ?_
              refine pj_X_of (fun r h => pj_R_to (G, 155, [(2, .int z48), (4, .int z43), (0, .ref 27), (1, .ref 33), (3, .int v3)], [.int z48, .ref 30, .int z51, .int z50, .int z49, .ref 30], 0, 0) 155 2 (fun _ => rfl) h) ?_
              refine pj_X_of (fun r h => pj_T_il hI rfl rfl (by omega) (by omega) h) ?_
              show pj_X _ _ G 156 [(2, .int z48), (4, .int z43), (0, .ref 27), (1, .ref 33), (3, .int v3)] [.int (pj_ai G 30 z48.toInt.toNat), .int z51, .int z50, .int z49, .ref 30] _
              obtain ⟨z52, hz52⟩ : ∃ z : Int32, z = pj_ai G 30 z48.toInt.toNat := ⟨_, rfl⟩
              refine pj_X_eqi hz52.symm ?_
              rw [← hz52, pj_nm_e]
              have ez52 : (pj_ai G 30 z48.toInt.toNat).toInt = z52.toInt := by rw [hz52]
              refine pj_X_ca (vs := [.int z50, .int z51, .int z52]) rfl (fun _ => rfl) ⟨Nat.le_of_ble_eq_true rfl, Nat.le_of_ble_eq_true rfl, rfl⟩ ⟨rfl, rfl⟩ (pj_Y_up (by decide) (ct_66x G hI z50 z51 z52)) ?_
              rintro _ _ ⟨y53, rfl, rfl, ry53, fy53⟩
              rw [← fy53, pj_nm_e]
              show pj_X _ _ G 159 [(2, .int z48), (4, .int z43), (0, .ref 27), (1, .ref 33), (3, .int v3)] [.int y53, .int z49, .ref 30] _
              refine pj_X_of (fun r h => pj_T_is hI rfl rfl (by omega) (by omega) h) ?_
              show pj_X _ _ (pj_wa G 30 z49.toInt.toNat y53) 160 [(2, .int z48), (4, .int z43), (0, .ref 27), (1, .ref 33), (3, .int v3)] [] _
              obtain ⟨G54, hG54⟩ : ∃ H, H = pj_wa G 30 z49.toInt.toNat y53 := ⟨_, rfl⟩
              have iG54 : pj_Inv G54 := by rw [hG54]; exact pj_Inv_wa hI rfl (fun q hq => by cases hq) (fun n hn => by cases hn)
              have kG54 : pj_kpt kc_65x G0 G54 := by rw [hG54]; exact pj_kpt_a hK rfl
              rw [← hG54]
              rw [pj_nm_e]
              refine pj_X_of (fun r h => pj_R_to (G54, 163, [(3, .int (v3 + Int32.ofInt 1)), (2, .int z48), (4, .int z43), (0, .ref 27), (1, .ref 33)], [], 0, 0) 163 2 (fun _ => rfl) h) ?_
              obtain ⟨z55, hz55⟩ : ∃ z : Int32, z = v3 + Int32.ofInt 1 := ⟨_, rfl⟩
              rw [← hz55]
              rw [pj_nm_e]
              have fz55_0 : z55.toInt = v3.toInt + (Int32.ofInt 1).toInt := by rw [hz55]; exact pj_addI (by have := pj_i32 v3; have := pj_i32 (Int32.ofInt 1); omega) (by have := pj_i32 v3; have := pj_i32 (Int32.ofInt 1); omega)
              refine pj_X_of (fun r h => pj_R_to (G54, 26, [(3, .int z55), (2, .int z48), (4, .int z43), (0, .ref 27), (1, .ref 33)], [], 0, 0) 26 2 (fun _ => rfl) h) ?_
              exact pj_X_sub [(0, .ref 27), (1, .ref 33), (2, .int z48), (3, .int z55)] (show List.Nodup [0, 1, 2, 3] by decide) ⟨rfl, rfl, rfl, rfl, trivial⟩ (ih G54 iG54 kG54 z48 z55 ⟨by omega, by omega⟩ ⟨by omega, by omega⟩ (by omega))
          | false =>
            rw [pj_cF]
            have ub45 := pj_u_neF b45
            refine pj_X_of (fun r h => pj_R_icF rfl b45 h) ?_
            refine pj_X_of (fun r h => pj_R_to (G, 98, [(4, .int z43), (0, .ref 27), (1, .ref 33), (2, .int v2), (3, .int v3)], [.int v2], 0, 0) 98 2 (fun _ => rfl) h) ?_
            cases b56 : pj_c1 .le v2 0 with
            | true =>
              rw [pj_cT]
              have ub56 := pj_u0_leT b56
              refine pj_X_of (fun r h => pj_R_ifT 121 rfl rfl b56 h) ?_
              refine pj_X_of (fun r h => pj_R_to (G, 123, [(4, .int z43), (0, .ref 27), (1, .ref 33), (2, .int v2), (3, .int v3)], [.int (Int32.ofInt 1), .int v2], 0, 0) 123 3 (fun _ => rfl) h) ?_
              refine pj_X_of (fun r h => pj_R_icT 160 rfl rfl (pj_b_leT (by omega)) h) ?_
              refine pj_X_of (fun r h => pj_R_to (G, 163, [(3, .int (v3 + Int32.ofInt 1)), (4, .int z43), (0, .ref 27), (1, .ref 33), (2, .int v2)], [], 0, 0) 163 2 (fun _ => rfl) h) ?_
              obtain ⟨z57, hz57⟩ : ∃ z : Int32, z = v3 + Int32.ofInt 1 := ⟨_, rfl⟩
              rw [← hz57]
              rw [pj_nm_e]
              have fz57_0 : z57.toInt = v3.toInt + (Int32.ofInt 1).toInt := by rw [hz57]; exact pj_addI (by have := pj_i32 v3; have := pj_i32 (Int32.ofInt 1); omega) (by have := pj_i32 v3; have := pj_i32 (Int32.ofInt 1); omega)
              refine pj_X_of (fun r h => pj_R_to (G, 26, [(3, .int z57), (4, .int z43), (0, .ref 27), (1, .ref 33), (2, .int v2)], [], 0, 0) 26 2 (fun _ => rfl) h) ?_
              exact pj_X_sub [(0, .ref 27), (1, .ref 33), (2, .int v2), (3, .int z57)] (show List.Nodup [0, 1, 2, 3] by decide) ⟨rfl, rfl, rfl, rfl, trivial⟩ (ih G hI hK v2 z57 ⟨by omega, by omega⟩ ⟨by omega, by omega⟩ (by omega))
            | false =>
              rw [pj_cF]
              have ub56 := pj_u0_leF b56
              refine pj_X_of (fun r h => pj_R_ifF rfl b56 h) ?_
              refine pj_X_of (fun r h => pj_R_to (G, 102, [(4, .int z43), (0, .ref 27), (1, .ref 33), (2, .int v2), (3, .int v3)], [.ref 27], 0, 0) 102 2 (fun _ => rfl) h) ?_
              refine pj_X_of (fun r h => pj_T_gr hI rfl rfl rfl h) ?_
              refine pj_X_of (fun r h => pj_R_to (G, 108, [(4, .int z43), (0, .ref 27), (1, .ref 33), (2, .int v2), (3, .int v3)], [.int (v2 - (Int32.ofInt 1)), .ref 30], 0, 0) 108 4 (fun _ => rfl) h) ?_
              obtain ⟨z58, hz58⟩ : ∃ z : Int32, z = v2 - (Int32.ofInt 1) := ⟨_, rfl⟩
              refine pj_X_eqi hz58.symm ?_
              rw [← hz58, pj_nm_e]
              have fz58_0 : z58.toInt = v2.toInt - (Int32.ofInt 1).toInt := by rw [hz58]; exact pj_subI (by have := pj_i32 v2; have := pj_i32 (Int32.ofInt 1); omega) (by have := pj_i32 v2; have := pj_i32 (Int32.ofInt 1); omega)
              refine pj_X_of (fun r h => pj_R_to (G, 109, [(4, .int z43), (0, .ref 27), (1, .ref 33), (2, .int v2), (3, .int v3)], [.ref 27, .int z58, .ref 30], 0, 0) 109 2 (fun _ => rfl) h) ?_
              refine pj_X_of (fun r h => pj_T_gr hI rfl rfl rfl h) ?_
              refine pj_X_of (fun r h => pj_R_to (G, 115, [(4, .int z43), (0, .ref 27), (1, .ref 33), (2, .int v2), (3, .int v3)], [.int (v2 - (Int32.ofInt 1)), .ref 30, .int z58, .ref 30], 0, 0) 115 4 (fun _ => rfl) h) ?_
              refine pj_X_eqi hz58.symm ?_
              refine pj_X_of (fun r h => pj_T_il hI rfl rfl (by omega) (by omega) h) ?_
              show pj_X _ _ G 116 [(4, .int z43), (0, .ref 27), (1, .ref 33), (2, .int v2), (3, .int v3)] [.int (pj_ai G 30 z58.toInt.toNat), .int z58, .ref 30] _
              obtain ⟨z59, hz59⟩ : ∃ z : Int32, z = pj_ai G 30 z58.toInt.toNat := ⟨_, rfl⟩
              refine pj_X_eqi hz59.symm ?_
              rw [← hz59, pj_nm_e]
              have ez59 : (pj_ai G 30 z58.toInt.toNat).toInt = z59.toInt := by rw [hz59]
              refine pj_X_of (fun r h => pj_R_to (G, 117, [(4, .int z43), (0, .ref 27), (1, .ref 33), (2, .int v2), (3, .int v3)], [.int (-z59), .int z58, .ref 30], 0, 0) 117 2 (fun _ => rfl) h) ?_
              obtain ⟨z60, hz60⟩ : ∃ z : Int32, z = -z59 := ⟨_, rfl⟩
              refine pj_X_eqi hz60.symm ?_
              rw [← hz60, pj_nm_e]
              refine pj_X_of (fun r h => pj_T_is hI rfl rfl (by omega) (by omega) h) ?_
              show pj_X _ _ (pj_wa G 30 z58.toInt.toNat z60) 118 [(4, .int z43), (0, .ref 27), (1, .ref 33), (2, .int v2), (3, .int v3)] [] _
              obtain ⟨G61, hG61⟩ : ∃ H, H = pj_wa G 30 z58.toInt.toNat z60 := ⟨_, rfl⟩
              have iG61 : pj_Inv G61 := by rw [hG61]; exact pj_Inv_wa hI rfl (fun q hq => by cases hq) (fun n hn => by cases hn)
              have kG61 : pj_kpt kc_65x G0 G61 := by rw [hG61]; exact pj_kpt_a hK rfl
              rw [← hG61]
              rw [pj_nm_e]
              refine pj_X_of (fun r h => pj_R_to (G61, 163, [(3, .int (v3 + Int32.ofInt 1)), (4, .int z43), (0, .ref 27), (1, .ref 33), (2, .int v2)], [], 0, 0) 163 3 (fun _ => rfl) h) ?_
              obtain ⟨z62, hz62⟩ : ∃ z : Int32, z = v3 + Int32.ofInt 1 := ⟨_, rfl⟩
              rw [← hz62]
              rw [pj_nm_e]
              have fz62_0 : z62.toInt = v3.toInt + (Int32.ofInt 1).toInt := by rw [hz62]; exact pj_addI (by have := pj_i32 v3; have := pj_i32 (Int32.ofInt 1); omega) (by have := pj_i32 v3; have := pj_i32 (Int32.ofInt 1); omega)
              refine pj_X_of (fun r h => pj_R_to (G61, 26, [(3, .int z62), (4, .int z43), (0, .ref 27), (1, .ref 33), (2, .int v2)], [], 0, 0) 26 2 (fun _ => rfl) h) ?_
              exact pj_X_sub [(0, .ref 27), (1, .ref 33), (2, .int v2), (3, .int z62)] (show List.Nodup [0, 1, 2, 3] by decide) ⟨rfl, rfl, rfl, rfl, trivial⟩ (ih G61 iG61 kG61 v2 z62 ⟨by omega, by omega⟩ ⟨by omega, by omega⟩ (by omega))
        | false =>
          rw [pj_cF]
          have ub44 := pj_u_geF b44
          refine pj_X_of (fun r h => pj_R_icF rfl b44 h) ?_
          refine pj_X_of (fun r h => pj_R_to (G, 53, [(4, .int z43), (0, .ref 27), (1, .ref 33), (2, .int v2), (3, .int v3)], [.int ((Int8.ofInt 40).toInt32), .int v2], 0, 0) 53 3 (fun _ => rfl) h) ?_
          cases b63 : pj_c1 .ge v2 ((Int8.ofInt 40).toInt32) with
          | true =>
            rw [pj_cT]
            have ub63 := pj_u_geT b63
            refine pj_X_of (fun r h => pj_R_icT 89 rfl rfl b63 h) ?_
            refine pj_X_of (fun r h => pj_R_to (G, 94, [(4, .int z43), (0, .ref 27), (1, .ref 33), (2, .int v2), (3, .int v3)], [.int ((Int16.ofInt 2000).toInt32), .int z43], 0, 0) 94 3 (fun _ => rfl) h) ?_
            refine pj_X_of (fun r h => pj_R_icT 121 rfl rfl (pj_b_neT (by omega)) h) ?_
            refine pj_X_of (fun r h => pj_R_to (G, 123, [(4, .int z43), (0, .ref 27), (1, .ref 33), (2, .int v2), (3, .int v3)], [.int (Int32.ofInt 1), .int v2], 0, 0) 123 3 (fun _ => rfl) h) ?_
            refine pj_X_of (fun r h => pj_R_icF rfl (pj_b_leF (by omega)) h) ?_
            refine pj_X_of (fun r h => pj_R_to (G, 129, [(2, .int (v2 + Int32.ofInt (-1))), (4, .int z43), (0, .ref 27), (1, .ref 33), (3, .int v3)], [], 0, 0) 129 2 (fun _ => rfl) h) ?_
            obtain ⟨z64, hz64⟩ : ∃ z : Int32, z = v2 + Int32.ofInt (-1) := ⟨_, rfl⟩
            rw [← hz64]
            rw [pj_nm_e]
            have fz64_0 : z64.toInt = v2.toInt + (Int32.ofInt (-1)).toInt := by rw [hz64]; exact pj_addI (by have := pj_i32 v2; have := pj_i32 (Int32.ofInt (-1)); omega) (by have := pj_i32 v2; have := pj_i32 (Int32.ofInt (-1)); omega)
            refine pj_X_of (fun r h => pj_R_to (G, 130, [(2, .int z64), (4, .int z43), (0, .ref 27), (1, .ref 33), (3, .int v3)], [.ref 27], 0, 0) 130 2 (fun _ => rfl) h) ?_
            refine pj_X_of (fun r h => pj_T_gr hI rfl rfl rfl h) ?_
            refine pj_X_of (fun r h => pj_R_to (G, 136, [(2, .int z64), (4, .int z43), (0, .ref 27), (1, .ref 33), (3, .int v3)], [.int (z64 - (Int32.ofInt 1)), .ref 30], 0, 0) 136 4 (fun _ => rfl) h) ?_
            obtain ⟨z65, hz65⟩ : ∃ z : Int32, z = z64 - (Int32.ofInt 1) := ⟨_, rfl⟩
            refine pj_X_eqi hz65.symm ?_
            rw [← hz65, pj_nm_e]
            have fz65_0 : z65.toInt = z64.toInt - (Int32.ofInt 1).toInt := by rw [hz65]; exact pj_subI (by have := pj_i32 z64; have := pj_i32 (Int32.ofInt 1); omega) (by have := pj_i32 z64; have := pj_i32 (Int32.ofInt 1); omega)
            refine pj_X_of (fun r h => pj_R_to (G, 142, [(2, .int z64), (4, .int z43), (0, .ref 27), (1, .ref 33), (3, .int v3)], [.int (z43 - ((Int16.ofInt 3000).toInt32)), .int z65, .ref 30], 0, 0) 142 4 (fun _ => rfl) h) ?_
            obtain ⟨z66, hz66⟩ : ∃ z : Int32, z = z43 - ((Int16.ofInt 3000).toInt32) := ⟨_, rfl⟩
            refine pj_X_eqi hz66.symm ?_
            rw [← hz66, pj_nm_e]
            have fz66_0 : z66.toInt = z43.toInt - ((Int16.ofInt 3000).toInt32).toInt := by rw [hz66]; exact pj_subI (by have := pj_i32 z43; have := pj_i32 ((Int16.ofInt 3000).toInt32); omega) (by have := pj_i32 z43; have := pj_i32 ((Int16.ofInt 3000).toInt32); omega)
            refine pj_X_of (fun r h => pj_R_to (G, 143, [(2, .int z64), (4, .int z43), (0, .ref 27), (1, .ref 33), (3, .int v3)], [.ref 27, .int z66, .int z65, .ref 30], 0, 0) 143 2 (fun _ => rfl) h) ?_
            refine pj_X_of (fun r h => pj_T_gr hI rfl rfl rfl h) ?_
            refine pj_X_of (fun r h => pj_R_to (G, 149, [(2, .int z64), (4, .int z43), (0, .ref 27), (1, .ref 33), (3, .int v3)], [.int (z64 - (Int32.ofInt 1)), .ref 30, .int z66, .int z65, .ref 30], 0, 0) 149 4 (fun _ => rfl) h) ?_
            refine pj_X_eqi hz65.symm ?_
            refine pj_X_of (fun r h => pj_T_il hI rfl rfl (by omega) (by omega) h) ?_
            show pj_X _ _ G 150 [(2, .int z64), (4, .int z43), (0, .ref 27), (1, .ref 33), (3, .int v3)] [.int (pj_ai G 30 z65.toInt.toNat), .int z66, .int z65, .ref 30] _
            obtain ⟨z67, hz67⟩ : ∃ z : Int32, z = pj_ai G 30 z65.toInt.toNat := ⟨_, rfl⟩
            refine pj_X_eqi hz67.symm ?_
            rw [← hz67, pj_nm_e]
            have ez67 : (pj_ai G 30 z65.toInt.toNat).toInt = z67.toInt := by rw [hz67]
            refine pj_X_of (fun r h => pj_R_to (G, 151, [(2, .int z64), (4, .int z43), (0, .ref 27), (1, .ref 33), (3, .int v3)], [.ref 27, .int z67, .int z66, .int z65, .ref 30], 0, 0) 151 2 (fun _ => rfl) h) ?_
            refine pj_X_of (fun r h => pj_T_gr hI rfl rfl rfl h) ?_
            refine pj_X_of (fun r h => pj_R_to (G, 155, [(2, .int z64), (4, .int z43), (0, .ref 27), (1, .ref 33), (3, .int v3)], [.int z64, .ref 30, .int z67, .int z66, .int z65, .ref 30], 0, 0) 155 2 (fun _ => rfl) h) ?_
            refine pj_X_of (fun r h => pj_T_il hI rfl rfl (by omega) (by omega) h) ?_
            show pj_X _ _ G 156 [(2, .int z64), (4, .int z43), (0, .ref 27), (1, .ref 33), (3, .int v3)] [.int (pj_ai G 30 z64.toInt.toNat), .int z67, .int z66, .int z65, .ref 30] _
            obtain ⟨z68, hz68⟩ : ∃ z : Int32, z = pj_ai G 30 z64.toInt.toNat := ⟨_, rfl⟩
            refine pj_X_eqi hz68.symm ?_
            rw [← hz68, pj_nm_e]
            have ez68 : (pj_ai G 30 z64.toInt.toNat).toInt = z68.toInt := by rw [hz68]
            refine pj_X_ca (vs := [.int z66, .int z67, .int z68]) rfl (fun _ => rfl) ⟨Nat.le_of_ble_eq_true rfl, Nat.le_of_ble_eq_true rfl, rfl⟩ ⟨rfl, rfl⟩ (pj_Y_up (by decide) (ct_66x G hI z66 z67 z68)) ?_
            rintro _ _ ⟨y69, rfl, rfl, ry69, fy69⟩
            rw [← fy69, pj_nm_e]
            show pj_X _ _ G 159 [(2, .int z64), (4, .int z43), (0, .ref 27), (1, .ref 33), (3, .int v3)] [.int y69, .int z65, .ref 30] _
            refine pj_X_of (fun r h => pj_T_is hI rfl rfl (by omega) (by omega) h) ?_
            show pj_X _ _ (pj_wa G 30 z65.toInt.toNat y69) 160 [(2, .int z64), (4, .int z43), (0, .ref 27), (1, .ref 33), (3, .int v3)] [] _
            obtain ⟨G70, hG70⟩ : ∃ H, H = pj_wa G 30 z65.toInt.toNat y69 := ⟨_, rfl⟩
            have iG70 : pj_Inv G70 := by rw [hG70]; exact pj_Inv_wa hI rfl (fun q hq => by cases hq) (fun n hn => by cases hn)
            have kG70 : pj_kpt kc_65x G0 G70 := by rw [hG70]; exact pj_kpt_a hK rfl
            rw [← hG70]
            rw [pj_nm_e]
            refine pj_X_of (fun r h => pj_R_to (G70, 163, [(3, .int (v3 + Int32.ofInt 1)), (2, .int z64), (4, .int z43), (0, .ref 27), (1, .ref 33)], [], 0, 0) 163 2 (fun _ => rfl) h) ?_
            obtain ⟨z71, hz71⟩ : ∃ z : Int32, z = v3 + Int32.ofInt 1 := ⟨_, rfl⟩
            rw [← hz71]
            rw [pj_nm_e]
            have fz71_0 : z71.toInt = v3.toInt + (Int32.ofInt 1).toInt := by rw [hz71]; exact pj_addI (by have := pj_i32 v3; have := pj_i32 (Int32.ofInt 1); omega) (by have := pj_i32 v3; have := pj_i32 (Int32.ofInt 1); omega)
            refine pj_X_of (fun r h => pj_R_to (G70, 26, [(3, .int z71), (2, .int z64), (4, .int z43), (0, .ref 27), (1, .ref 33)], [], 0, 0) 26 2 (fun _ => rfl) h) ?_
            exact pj_X_sub [(0, .ref 27), (1, .ref 33), (2, .int z64), (3, .int z71)] (show List.Nodup [0, 1, 2, 3] by decide) ⟨rfl, rfl, rfl, rfl, trivial⟩ (ih G70 iG70 kG70 z64 z71 ⟨by omega, by omega⟩ ⟨by omega, by omega⟩ (by omega))
          | false =>
            rw [pj_cF]
            have ub63 := pj_u_geF b63
            refine pj_X_of (fun r h => pj_R_icF rfl b63 h) ?_
            refine pj_X_of (fun r h => pj_R_to (G, 57, [(4, .int z43), (0, .ref 27), (1, .ref 33), (2, .int v2), (3, .int v3)], [.ref 27], 0, 0) 57 2 (fun _ => rfl) h) ?_
            refine pj_X_of (fun r h => pj_T_gr hI rfl rfl rfl h) ?_
            refine pj_X_of (fun r h => pj_R_to (G, 66, [(4, .int z43), (0, .ref 27), (1, .ref 33), (2, .int v2), (3, .int v3)], [.int ((Int16.ofInt 1000).toInt32), .int z43, .int v2, .ref 30], 0, 0) 66 4 (fun _ => rfl) h) ?_
            cases b72 : pj_c1 .ge z43 ((Int16.ofInt 1000).toInt32) with
            | true =>
              rw [pj_cT]
              have ub72 := pj_u_geT b72
              refine pj_X_of (fun r h => pj_R_icT 74 rfl rfl b72 h) ?_
              refine pj_X_of (fun r h => pj_R_to (G, 81, [(4, .int z43), (0, .ref 27), (1, .ref 33), (2, .int v2), (3, .int v3)], [.int (z43 - ((Int16.ofInt 1000).toInt32)), .ref 33, .int v2, .ref 30], 0, 0) 81 5 (fun _ => rfl) h) ?_
              obtain ⟨z73, hz73⟩ : ∃ z : Int32, z = z43 - ((Int16.ofInt 1000).toInt32) := ⟨_, rfl⟩
              refine pj_X_eqi hz73.symm ?_
              rw [← hz73, pj_nm_e]
              have fz73_0 : z73.toInt = z43.toInt - ((Int16.ofInt 1000).toInt32).toInt := by rw [hz73]; exact pj_subI (by have := pj_i32 z43; have := pj_i32 ((Int16.ofInt 1000).toInt32); omega) (by have := pj_i32 z43; have := pj_i32 ((Int16.ofInt 1000).toInt32); omega)
              refine pj_X_of (fun r h => pj_T_il hI rfl rfl (by omega) (by omega) h) ?_
              show pj_X _ _ G 82 [(4, .int z43), (0, .ref 27), (1, .ref 33), (2, .int v2), (3, .int v3)] [.int (pj_ai G 33 z73.toInt.toNat), .int v2, .ref 30] _
              obtain ⟨z74, hz74⟩ : ∃ z : Int32, z = pj_ai G 33 z73.toInt.toNat := ⟨_, rfl⟩
              refine pj_X_eqi hz74.symm ?_
              rw [← hz74, pj_nm_e]
              have ez74 : (pj_ai G 33 z73.toInt.toNat).toInt = z74.toInt := by rw [hz74]
              refine pj_X_of (fun r h => pj_T_is hI rfl rfl (by omega) (by omega) h) ?_
              show pj_X _ _ (pj_wa G 30 v2.toInt.toNat z74) 83 [(4, .int z43), (0, .ref 27), (1, .ref 33), (2, .int v2), (3, .int v3)] [] _
              obtain ⟨G75, hG75⟩ : ∃ H, H = pj_wa G 30 v2.toInt.toNat z74 := ⟨_, rfl⟩
              have iG75 : pj_Inv G75 := by rw [hG75]; exact pj_Inv_wa hI rfl (fun q hq => by cases hq) (fun n hn => by cases hn)
              have kG75 : pj_kpt kc_65x G0 G75 := by rw [hG75]; exact pj_kpt_a hK rfl
              rw [← hG75]
              rw [pj_nm_e]
              refine pj_X_of (fun r h => pj_R_to (G75, 86, [(2, .int (v2 + Int32.ofInt 1)), (4, .int z43), (0, .ref 27), (1, .ref 33), (3, .int v3)], [], 0, 0) 86 2 (fun _ => rfl) h) ?_
              obtain ⟨z76, hz76⟩ : ∃ z : Int32, z = v2 + Int32.ofInt 1 := ⟨_, rfl⟩
              rw [← hz76]
              rw [pj_nm_e]
              have fz76_0 : z76.toInt = v2.toInt + (Int32.ofInt 1).toInt := by rw [hz76]; exact pj_addI (by have := pj_i32 v2; have := pj_i32 (Int32.ofInt 1); omega) (by have := pj_i32 v2; have := pj_i32 (Int32.ofInt 1); omega)
              refine pj_X_of (fun r h => pj_R_to (G75, 163, [(3, .int (v3 + Int32.ofInt 1)), (2, .int z76), (4, .int z43), (0, .ref 27), (1, .ref 33)], [], 0, 0) 163 3 (fun _ => rfl) h) ?_
              obtain ⟨z77, hz77⟩ : ∃ z : Int32, z = v3 + Int32.ofInt 1 := ⟨_, rfl⟩
              rw [← hz77]
              rw [pj_nm_e]
              have fz77_0 : z77.toInt = v3.toInt + (Int32.ofInt 1).toInt := by rw [hz77]; exact pj_addI (by have := pj_i32 v3; have := pj_i32 (Int32.ofInt 1); omega) (by have := pj_i32 v3; have := pj_i32 (Int32.ofInt 1); omega)
              refine pj_X_of (fun r h => pj_R_to (G75, 26, [(3, .int z77), (2, .int z76), (4, .int z43), (0, .ref 27), (1, .ref 33)], [], 0, 0) 26 2 (fun _ => rfl) h) ?_
              exact pj_X_sub [(0, .ref 27), (1, .ref 33), (2, .int z76), (3, .int z77)] (show List.Nodup [0, 1, 2, 3] by decide) ⟨rfl, rfl, rfl, rfl, trivial⟩ (ih G75 iG75 kG75 z76 z77 ⟨by omega, by omega⟩ ⟨by omega, by omega⟩ (by omega))
            | false =>
              rw [pj_cF]
              have ub72 := pj_u_geF b72
              refine pj_X_of (fun r h => pj_R_icF rfl b72 h) ?_
              refine pj_X_of (fun r h => pj_R_to (G, 82, [(4, .int z43), (0, .ref 27), (1, .ref 33), (2, .int v2), (3, .int v3)], [.int z43, .int v2, .ref 30], 0, 0) 82 3 (fun _ => rfl) h) ?_
              refine pj_X_of (fun r h => pj_T_is hI rfl rfl (by omega) (by omega) h) ?_
              show pj_X _ _ (pj_wa G 30 v2.toInt.toNat z43) 83 [(4, .int z43), (0, .ref 27), (1, .ref 33), (2, .int v2), (3, .int v3)] [] _
              obtain ⟨G78, hG78⟩ : ∃ H, H = pj_wa G 30 v2.toInt.toNat z43 := ⟨_, rfl⟩
              have iG78 : pj_Inv G78 := by rw [hG78]; exact pj_Inv_wa hI rfl (fun q hq => by cases hq) (fun n hn => by cases hn)
              have kG78 : pj_kpt kc_65x G0 G78 := by rw [hG78]; exact pj_kpt_a hK rfl
              rw [← hG78]
              rw [pj_nm_e]
              refine pj_X_of (fun r h => pj_R_to (G78, 86, [(2, .int (v2 + Int32.ofInt 1)), (4, .int z43), (0, .ref 27), (1, .ref 33), (3, .int v3)], [], 0, 0) 86 2 (fun _ => rfl) h) ?_
              obtain ⟨z79, hz79⟩ : ∃ z : Int32, z = v2 + Int32.ofInt 1 := ⟨_, rfl⟩
              rw [← hz79]
              rw [pj_nm_e]
              have fz79_0 : z79.toInt = v2.toInt + (Int32.ofInt 1).toInt := by rw [hz79]; exact pj_addI (by have := pj_i32 v2; have := pj_i32 (Int32.ofInt 1); omega) (by have := pj_i32 v2; have := pj_i32 (Int32.ofInt 1); omega)
              refine pj_X_of (fun r h => pj_R_to (G78, 163, [(3, .int (v3 + Int32.ofInt 1)), (2, .int z79), (4, .int z43), (0, .ref 27), (1, .ref 33)], [], 0, 0) 163 3 (fun _ => rfl) h) ?_
              obtain ⟨z80, hz80⟩ : ∃ z : Int32, z = v3 + Int32.ofInt 1 := ⟨_, rfl⟩
              rw [← hz80]
              rw [pj_nm_e]
              have fz80_0 : z80.toInt = v3.toInt + (Int32.ofInt 1).toInt := by rw [hz80]; exact pj_addI (by have := pj_i32 v3; have := pj_i32 (Int32.ofInt 1); omega) (by have := pj_i32 v3; have := pj_i32 (Int32.ofInt 1); omega)
              refine pj_X_of (fun r h => pj_R_to (G78, 26, [(3, .int z80), (2, .int z79), (4, .int z43), (0, .ref 27), (1, .ref 33)], [], 0, 0) 26 2 (fun _ => rfl) h) ?_
              exact pj_X_sub [(0, .ref 27), (1, .ref 33), (2, .int z79), (3, .int z80)] (show List.Nodup [0, 1, 2, 3] by decide) ⟨rfl, rfl, rfl, rfl, trivial⟩ (ih G78 iG78 kG78 z79 z80 ⟨by omega, by omega⟩ ⟨by omega, by omega⟩ (by omega))
theorem ct_65x (G0 : pj_G) (hI : pj_Inv G0) : pj_Y 2 65 [.ref 27, .ref 33] G0 (fun v' G' => ∃ y : Int32, v' = some (.int y) ∧ pj_Inv G' ∧ pj_kpt kc_65x G0 G' ∧ ((-2147483648 : Int) ≤ y.toInt ∧ y.toInt ≤ 2147483647) ∧ ((y, G') = F_65x G0)) := by
  have c0_ : ((Int16.ofInt 1000).toInt32).toInt = 1000 := by decide
  have c1_ : ((Int16.ofInt 2000).toInt32).toInt = 2000 := by decide
  have c2_ : ((Int16.ofInt 3000).toInt32).toInt = 3000 := by decide
  have c3_ : ((Int8.ofInt 40).toInt32).toInt = 40 := by decide
  have c4_ : ((Int8.ofInt 9).toInt32).toInt = 9 := by decide
  have c5_ : (Int32.ofInt (-1)).toInt = -1 := by decide
  have c6_ : (Int32.ofInt 0).toInt = 0 := by decide
  have c7_ : (Int32.ofInt 1).toInt = 1 := by decide
  have c8_ : (Int32.ofInt 2).toInt = 2 := by decide
  refine pj_Y_X (M := pj_m65) rfl rfl (Nat.le_of_ble_eq_true rfl) ?_
  have hK : pj_kpt kc_65x G0 G0 := pj_kpt_r _ _
  show pj_X _ _ G0 0 [(0, .ref 27), (1, .ref 33)] [] _
  rw [F_65x_e]
  refine pj_X_of (fun r h => pj_R_to (G0, 1, [(0, .ref 27), (1, .ref 33)], [.ref 27], 0, 0) 1 2 (fun _ => rfl) h) ?_
  refine pj_X_of (fun r h => pj_T_gi hI rfl rfl h) ?_
  show pj_X _ _ G0 4 [(0, .ref 27), (1, .ref 33)] [.int (pj_fi G0 27 1)] _
  obtain ⟨y81, hy81⟩ : ∃ z : Int32, z = pj_fi G0 27 1 := ⟨_, rfl⟩
  refine pj_X_eqi hy81.symm ?_
  rw [← hy81, pj_nm_e]
  have ey81 : (pj_fi G0 27 1).toInt = y81.toInt := by rw [hy81]
  have ry81 : (0 : Int) ≤ y81.toInt ∧ y81.toInt ≤ 40 := by rw [hy81]; exact hI.2.1 27 1 (0, 40) rfl
  cases b82 : pj_c1 .ne y81 0 with
  | true =>
    rw [pj_cT]
    have ub82 := pj_u0_neT b82
    refine pj_X_of (fun r h => pj_R_ifT 22 rfl rfl b82 h) ?_
    refine pj_X_of (fun r h => pj_R_to (G0, 26, [(3, .int (Int32.ofInt 0)), (2, .int (Int32.ofInt 0)), (0, .ref 27), (1, .ref 33)], [], 0, 0) 26 5 (fun _ => rfl) h) ?_
    exact pj_X_sub [(0, .ref 27), (1, .ref 33), (2, .int (Int32.ofInt 0)), (3, .int (Int32.ofInt 0))] (show List.Nodup [0, 1, 2, 3] by decide) ⟨rfl, rfl, rfl, rfl, trivial⟩ ((lp_ct_65x G0 hI   41) G0 hI hK (Int32.ofInt 0) (Int32.ofInt 0) ⟨by omega, by omega⟩ ⟨by omega, by omega⟩ (by omega))
  | false =>
    rw [pj_cF]
    have ub82 := pj_u0_neF b82
    refine pj_X_of (fun r h => pj_R_ifF rfl b82 h) ?_
    refine pj_X_of (fun r h => pj_R_to (G0, 9, [(0, .ref 27), (1, .ref 33)], [.int (Int32.ofInt 0), .ref 33], 0, 0) 9 3 (fun _ => rfl) h) ?_
    refine pj_X_of (fun r h => pj_T_il hI rfl rfl (by omega) (by omega) h) ?_
    show pj_X _ _ G0 10 [(0, .ref 27), (1, .ref 33)] [.int (pj_ai G0 33 (Int32.ofInt 0).toInt.toNat)] _
    obtain ⟨z83, hz83⟩ : ∃ z : Int32, z = pj_ai G0 33 (Int32.ofInt 0).toInt.toNat := ⟨_, rfl⟩
    refine pj_X_eqi hz83.symm ?_
    rw [← hz83, pj_nm_e]
    have ez83 : (pj_ai G0 33 (Int32.ofInt 0).toInt.toNat).toInt = z83.toInt := by rw [hz83]
    refine pj_X_of (fun r h => pj_R_to (G0, 12, [(0, .ref 27), (1, .ref 33)], [.int ((Int8.ofInt 9).toInt32), .int z83], 0, 0) 12 2 (fun _ => rfl) h) ?_
    refine pj_X_of (fun r h => pj_R_dv rfl (pj_nz (by omega)) h) ?_
    show pj_X _ _ G0 13 [(0, .ref 27), (1, .ref 33)] [.int (z83 / ((Int8.ofInt 9).toInt32))] _
    obtain ⟨z84, hz84⟩ : ∃ z : Int32, z = z83 / ((Int8.ofInt 9).toInt32) := ⟨_, rfl⟩
    refine pj_X_eqi hz84.symm ?_
    rw [← hz84, pj_nm_e]
    refine pj_X_of (fun r h => pj_R_to (G0, 15, [(0, .ref 27), (1, .ref 33)], [.int (Int32.ofInt 1), .ref 33, .int z84], 0, 0) 15 3 (fun _ => rfl) h) ?_
    refine pj_X_of (fun r h => pj_T_il hI rfl rfl (by omega) (by omega) h) ?_
    show pj_X _ _ G0 16 [(0, .ref 27), (1, .ref 33)] [.int (pj_ai G0 33 (Int32.ofInt 1).toInt.toNat), .int z84] _
    obtain ⟨z85, hz85⟩ : ∃ z : Int32, z = pj_ai G0 33 (Int32.ofInt 1).toInt.toNat := ⟨_, rfl⟩
    refine pj_X_eqi hz85.symm ?_
    rw [← hz85, pj_nm_e]
    have ez85 : (pj_ai G0 33 (Int32.ofInt 1).toInt.toNat).toInt = z85.toInt := by rw [hz85]
    refine pj_X_of (fun r h => pj_R_to (G0, 18, [(0, .ref 27), (1, .ref 33)], [.int (z85 * (Int32.ofInt 2)), .int z84], 0, 0) 18 3 (fun _ => rfl) h) ?_
    obtain ⟨z86, hz86⟩ : ∃ z : Int32, z = z85 * (Int32.ofInt 2) := ⟨_, rfl⟩
    refine pj_X_eqi hz86.symm ?_
    rw [← hz86, pj_nm_e]
    refine pj_X_of (fun r h => pj_R_to (G0, 19, [(0, .ref 27), (1, .ref 33)], [.int (z84 + z86)], 0, 0) 19 2 (fun _ => rfl) h) ?_
    obtain ⟨z87, hz87⟩ : ∃ z : Int32, z = z84 + z86 := ⟨_, rfl⟩
    refine pj_X_eqi hz87.symm ?_
    rw [← hz87, pj_nm_e]
    refine pj_X_of (fun r h => pj_R_to (G0, 21, [(0, .ref 27), (1, .ref 33)], [.int (z87 + (Int32.ofInt 1))], 0, 0) 21 3 (fun _ => rfl) h) ?_
    obtain ⟨z88, hz88⟩ : ∃ z : Int32, z = z87 + (Int32.ofInt 1) := ⟨_, rfl⟩
    refine pj_X_eqi hz88.symm ?_
    rw [← hz88, pj_nm_e]
    exact pj_X_rt rfl rfl ⟨_, rfl, hI, hK, pj_i32 _, rfl⟩
theorem fr_65x (G0 : pj_G) (hI : pj_Inv G0) : pj_Inv (F_65x G0).2 ∧ pj_kpt kc_65x G0 (F_65x G0).2 := by
  obtain ⟨v, G', -, y, -, i, j, r, e⟩ := ct_65x G0 hI 
  rw [← e]
  exact ⟨i, j⟩
noncomputable def F_202x (G0 : pj_G) (act : Int32) (a : Int32) (b : Int32) : Int32 := if act.toInt = 0 then (cond (pj_c1 .ge a b) (pj_nm (F_173x G0 (Int32.ofInt 0)) (fun y3 => y3)) (pj_nm (F_173x G0 (Int32.ofInt 1)) (fun y4 => y4))) else (if act.toInt = 1 then (cond (pj_c1 .le a b) (pj_nm (F_173x G0 (Int32.ofInt 0)) (fun y7 => y7)) (pj_nm (F_173x G0 (Int32.ofInt 1)) (fun y8 => y8))) else (if act.toInt = 2 then (cond (pj_c1 .ne a b) (pj_nm (F_173x G0 (Int32.ofInt 0)) (fun y11 => y11)) (pj_nm (F_173x G0 (Int32.ofInt 1)) (fun y12 => y12))) else (if act.toInt = 3 then (pj_nm (a + b) (fun z14 => z14)) else (if act.toInt = 4 then (pj_nm (a - b) (fun z16 => z16)) else (if act.toInt = 5 then (pj_nm (a * b) (fun z18 => z18)) else (cond (pj_c1 .ne b 0) (pj_nm (a / b) (fun z20 => z20)) (Int32.ofInt 0)))))))
theorem F_202x_e (G0 : pj_G) (act : Int32) (a : Int32) (b : Int32) : F_202x G0 act a b = if act.toInt = 0 then (cond (pj_c1 .ge a b) (pj_nm (F_173x G0 (Int32.ofInt 0)) (fun y3 => y3)) (pj_nm (F_173x G0 (Int32.ofInt 1)) (fun y4 => y4))) else (if act.toInt = 1 then (cond (pj_c1 .le a b) (pj_nm (F_173x G0 (Int32.ofInt 0)) (fun y7 => y7)) (pj_nm (F_173x G0 (Int32.ofInt 1)) (fun y8 => y8))) else (if act.toInt = 2 then (cond (pj_c1 .ne a b) (pj_nm (F_173x G0 (Int32.ofInt 0)) (fun y11 => y11)) (pj_nm (F_173x G0 (Int32.ofInt 1)) (fun y12 => y12))) else (if act.toInt = 3 then (pj_nm (a + b) (fun z14 => z14)) else (if act.toInt = 4 then (pj_nm (a - b) (fun z16 => z16)) else (if act.toInt = 5 then (pj_nm (a * b) (fun z18 => z18)) else (cond (pj_c1 .ne b 0) (pj_nm (a / b) (fun z20 => z20)) (Int32.ofInt 0))))))) := rfl
theorem ct_201x (G0 : pj_G) (hI : pj_Inv G0) (act : Int32) (a : Int32) (b : Int32) : pj_Y 2 201 [.int act, .int a, .int b] G0 (fun v' G' => ∃ y : Int32, v' = some (.int y) ∧ G0 = G' ∧ ((-2147483648 : Int) ≤ y.toInt ∧ y.toInt ≤ 2147483647) ∧ (y = F_202x G0 act a b)) := by
  have c0_ : (Int32.ofInt 0).toInt = 0 := by decide
  have c1_ : (Int32.ofInt 1).toInt = 1 := by decide
  refine pj_Y_X (M := pj_m201) rfl rfl (Nat.le_of_ble_eq_true rfl) ?_
  have hK : pj_kpt ([], [], []) G0 G0 := pj_kpt_r _ _
  show pj_X _ _ G0 0 [(0, .int act), (1, .int a), (2, .int b)] [] _
  rw [F_202x_e]
  refine pj_X_of (fun r h => pj_R_to (G0, 1, [(0, .int act), (1, .int a), (2, .int b)], [.int act], 0, 0) 1 2 (fun _ => rfl) h) ?_
  by_cases t1 : act.toInt = 0
  · refine pj_X_of (fun r h => pj_R_tw 40 rfl (n := 0) t1 rfl h) ?_
    rw [if_pos t1]
    refine pj_X_of (fun r h => pj_R_to (G0, 42, [(0, .int act), (1, .int a), (2, .int b)], [.int b, .int a], 0, 0) 42 3 (fun _ => rfl) h) ?_
    cases b2 : pj_c1 .ge a b with
    | true =>
      rw [pj_cT]
      have ub2 := pj_u_geT b2
      refine pj_X_of (fun r h => pj_R_icT 49 rfl rfl b2 h) ?_
      refine pj_X_of (fun r h => pj_R_to (G0, 50, [(0, .int act), (1, .int a), (2, .int b)], [.int (Int32.ofInt 0)], 0, 0) 50 2 (fun _ => rfl) h) ?_
      refine pj_X_ca (vs := [.int (Int32.ofInt 0)]) rfl (fun _ => rfl) ⟨Nat.le_of_ble_eq_true rfl, Nat.le_of_ble_eq_true rfl, rfl⟩ ⟨rfl, rfl⟩ (pj_Y_up (by decide) (ct_172x G0 hI (Int32.ofInt 0) ⟨by omega, by omega⟩)) ?_
      rintro _ _ ⟨y3, rfl, rfl, ry3, ey3, fy3⟩
      rw [← fy3, pj_nm_e]
      show pj_X _ _ G0 53 [(0, .int act), (1, .int a), (2, .int b)] [.int y3] _
      exact pj_X_rt rfl rfl ⟨_, rfl, rfl, pj_i32 _, rfl⟩
    | false =>
      rw [pj_cF]
      have ub2 := pj_u_geF b2
      refine pj_X_of (fun r h => pj_R_icF rfl b2 h) ?_
      refine pj_X_of (fun r h => pj_R_to (G0, 50, [(0, .int act), (1, .int a), (2, .int b)], [.int (Int32.ofInt 1)], 0, 0) 50 3 (fun _ => rfl) h) ?_
      refine pj_X_ca (vs := [.int (Int32.ofInt 1)]) rfl (fun _ => rfl) ⟨Nat.le_of_ble_eq_true rfl, Nat.le_of_ble_eq_true rfl, rfl⟩ ⟨rfl, rfl⟩ (pj_Y_up (by decide) (ct_172x G0 hI (Int32.ofInt 1) ⟨by omega, by omega⟩)) ?_
      rintro _ _ ⟨y4, rfl, rfl, ry4, ey4, fy4⟩
      rw [← fy4, pj_nm_e]
      show pj_X _ _ G0 53 [(0, .int act), (1, .int a), (2, .int b)] [.int y4] _
      exact pj_X_rt rfl rfl ⟨_, rfl, rfl, pj_i32 _, rfl⟩
  rw [if_neg t1]
  by_cases t5 : act.toInt = 1
  · refine pj_X_of (fun r h => pj_R_tw 54 rfl (n := 1) t5 rfl h) ?_
    rw [if_pos t5]
    refine pj_X_of (fun r h => pj_R_to (G0, 56, [(0, .int act), (1, .int a), (2, .int b)], [.int b, .int a], 0, 0) 56 3 (fun _ => rfl) h) ?_
    cases b6 : pj_c1 .le a b with
    | true =>
      rw [pj_cT]
      have ub6 := pj_u_leT b6
      refine pj_X_of (fun r h => pj_R_icT 63 rfl rfl b6 h) ?_
      refine pj_X_of (fun r h => pj_R_to (G0, 64, [(0, .int act), (1, .int a), (2, .int b)], [.int (Int32.ofInt 0)], 0, 0) 64 2 (fun _ => rfl) h) ?_
      refine pj_X_ca (vs := [.int (Int32.ofInt 0)]) rfl (fun _ => rfl) ⟨Nat.le_of_ble_eq_true rfl, Nat.le_of_ble_eq_true rfl, rfl⟩ ⟨rfl, rfl⟩ (pj_Y_up (by decide) (ct_172x G0 hI (Int32.ofInt 0) ⟨by omega, by omega⟩)) ?_
      rintro _ _ ⟨y7, rfl, rfl, ry7, ey7, fy7⟩
      rw [← fy7, pj_nm_e]
      show pj_X _ _ G0 67 [(0, .int act), (1, .int a), (2, .int b)] [.int y7] _
      exact pj_X_rt rfl rfl ⟨_, rfl, rfl, pj_i32 _, rfl⟩
    | false =>
      rw [pj_cF]
      have ub6 := pj_u_leF b6
      refine pj_X_of (fun r h => pj_R_icF rfl b6 h) ?_
      refine pj_X_of (fun r h => pj_R_to (G0, 64, [(0, .int act), (1, .int a), (2, .int b)], [.int (Int32.ofInt 1)], 0, 0) 64 3 (fun _ => rfl) h) ?_
      refine pj_X_ca (vs := [.int (Int32.ofInt 1)]) rfl (fun _ => rfl) ⟨Nat.le_of_ble_eq_true rfl, Nat.le_of_ble_eq_true rfl, rfl⟩ ⟨rfl, rfl⟩ (pj_Y_up (by decide) (ct_172x G0 hI (Int32.ofInt 1) ⟨by omega, by omega⟩)) ?_
      rintro _ _ ⟨y8, rfl, rfl, ry8, ey8, fy8⟩
      rw [← fy8, pj_nm_e]
      show pj_X _ _ G0 67 [(0, .int act), (1, .int a), (2, .int b)] [.int y8] _
      exact pj_X_rt rfl rfl ⟨_, rfl, rfl, pj_i32 _, rfl⟩
  rw [if_neg t5]
  by_cases t9 : act.toInt = 2
  · refine pj_X_of (fun r h => pj_R_tw 68 rfl (n := 2) t9 rfl h) ?_
    rw [if_pos t9]
    refine pj_X_of (fun r h => pj_R_to (G0, 70, [(0, .int act), (1, .int a), (2, .int b)], [.int b, .int a], 0, 0) 70 3 (fun _ => rfl) h) ?_
    cases b10 : pj_c1 .ne a b with
    | true =>
      rw [pj_cT]
      have ub10 := pj_u_neT b10
      refine pj_X_of (fun r h => pj_R_icT 77 rfl rfl b10 h) ?_
      refine pj_X_of (fun r h => pj_R_to (G0, 78, [(0, .int act), (1, .int a), (2, .int b)], [.int (Int32.ofInt 0)], 0, 0) 78 2 (fun _ => rfl) h) ?_
      refine pj_X_ca (vs := [.int (Int32.ofInt 0)]) rfl (fun _ => rfl) ⟨Nat.le_of_ble_eq_true rfl, Nat.le_of_ble_eq_true rfl, rfl⟩ ⟨rfl, rfl⟩ (pj_Y_up (by decide) (ct_172x G0 hI (Int32.ofInt 0) ⟨by omega, by omega⟩)) ?_
      rintro _ _ ⟨y11, rfl, rfl, ry11, ey11, fy11⟩
      rw [← fy11, pj_nm_e]
      show pj_X _ _ G0 81 [(0, .int act), (1, .int a), (2, .int b)] [.int y11] _
      exact pj_X_rt rfl rfl ⟨_, rfl, rfl, pj_i32 _, rfl⟩
    | false =>
      rw [pj_cF]
      have ub10 := pj_u_neF b10
      refine pj_X_of (fun r h => pj_R_icF rfl b10 h) ?_
      refine pj_X_of (fun r h => pj_R_to (G0, 78, [(0, .int act), (1, .int a), (2, .int b)], [.int (Int32.ofInt 1)], 0, 0) 78 3 (fun _ => rfl) h) ?_
      refine pj_X_ca (vs := [.int (Int32.ofInt 1)]) rfl (fun _ => rfl) ⟨Nat.le_of_ble_eq_true rfl, Nat.le_of_ble_eq_true rfl, rfl⟩ ⟨rfl, rfl⟩ (pj_Y_up (by decide) (ct_172x G0 hI (Int32.ofInt 1) ⟨by omega, by omega⟩)) ?_
      rintro _ _ ⟨y12, rfl, rfl, ry12, ey12, fy12⟩
      rw [← fy12, pj_nm_e]
      show pj_X _ _ G0 81 [(0, .int act), (1, .int a), (2, .int b)] [.int y12] _
      exact pj_X_rt rfl rfl ⟨_, rfl, rfl, pj_i32 _, rfl⟩
  rw [if_neg t9]
  by_cases t13 : act.toInt = 3
  · refine pj_X_of (fun r h => pj_R_tw 82 rfl (n := 3) t13 rfl h) ?_
    rw [if_pos t13]
    refine pj_X_of (fun r h => pj_R_to (G0, 85, [(0, .int act), (1, .int a), (2, .int b)], [.int (a + b)], 0, 0) 85 4 (fun _ => rfl) h) ?_
    obtain ⟨z14, hz14⟩ : ∃ z : Int32, z = a + b := ⟨_, rfl⟩
    refine pj_X_eqi hz14.symm ?_
    rw [← hz14, pj_nm_e]
    exact pj_X_rt rfl rfl ⟨_, rfl, rfl, pj_i32 _, rfl⟩
  rw [if_neg t13]
  by_cases t15 : act.toInt = 4
  · refine pj_X_of (fun r h => pj_R_tw 86 rfl (n := 4) t15 rfl h) ?_
    rw [if_pos t15]
    refine pj_X_of (fun r h => pj_R_to (G0, 89, [(0, .int act), (1, .int a), (2, .int b)], [.int (a - b)], 0, 0) 89 4 (fun _ => rfl) h) ?_
    obtain ⟨z16, hz16⟩ : ∃ z : Int32, z = a - b := ⟨_, rfl⟩
    refine pj_X_eqi hz16.symm ?_
    rw [← hz16, pj_nm_e]
    exact pj_X_rt rfl rfl ⟨_, rfl, rfl, pj_i32 _, rfl⟩
  rw [if_neg t15]
  by_cases t17 : act.toInt = 5
  · refine pj_X_of (fun r h => pj_R_tw 90 rfl (n := 5) t17 rfl h) ?_
    rw [if_pos t17]
    refine pj_X_of (fun r h => pj_R_to (G0, 93, [(0, .int act), (1, .int a), (2, .int b)], [.int (a * b)], 0, 0) 93 4 (fun _ => rfl) h) ?_
    obtain ⟨z18, hz18⟩ : ∃ z : Int32, z = a * b := ⟨_, rfl⟩
    refine pj_X_eqi hz18.symm ?_
    rw [← hz18, pj_nm_e]
    exact pj_X_rt rfl rfl ⟨_, rfl, rfl, pj_i32 _, rfl⟩
  rw [if_neg t17]
  refine pj_X_of (fun r h => pj_R_td 94 rfl (by omega) rfl h) ?_
  refine pj_X_of (fun r h => pj_R_to (G0, 95, [(0, .int act), (1, .int a), (2, .int b)], [.int b], 0, 0) 95 2 (fun _ => rfl) h) ?_
  cases b19 : pj_c1 .ne b 0 with
  | true =>
    rw [pj_cT]
    have ub19 := pj_u0_neT b19
    refine pj_X_of (fun r h => pj_R_ifT 102 rfl rfl b19 h) ?_
    refine pj_X_of (fun r h => pj_R_to (G0, 104, [(0, .int act), (1, .int a), (2, .int b)], [.int b, .int a], 0, 0) 104 3 (fun _ => rfl) h) ?_
    refine pj_X_of (fun r h => pj_R_dv rfl (pj_nz (by omega)) h) ?_
    show pj_X _ _ G0 105 [(0, .int act), (1, .int a), (2, .int b)] [.int (a / b)] _
    obtain ⟨z20, hz20⟩ : ∃ z : Int32, z = a / b := ⟨_, rfl⟩
    refine pj_X_eqi hz20.symm ?_
    rw [← hz20, pj_nm_e]
    exact pj_X_rt rfl rfl ⟨_, rfl, rfl, pj_i32 _, rfl⟩
  | false =>
    rw [pj_cF]
    have ub19 := pj_u0_neF b19
    refine pj_X_of (fun r h => pj_R_ifF rfl b19 h) ?_
    refine pj_X_of (fun r h => pj_R_to (G0, 105, [(0, .int act), (1, .int a), (2, .int b)], [.int (Int32.ofInt 0)], 0, 0) 105 3 (fun _ => rfl) h) ?_
    exact pj_X_rt rfl rfl ⟨_, rfl, rfl, pj_i32 _, rfl⟩
def kc_202x : pj_KT := ([], [184], [184])
noncomputable def L_203x (G0 : pj_G) (fu : Nat) : Int32 → Int32 → pj_G → Int32 × pj_G := Nat.rec (motive := fun _ => Int32 → Int32 → pj_G → Int32 × pj_G) (fun _ _ G => (0, G)) (fun _ ih v1 v2 G => pj_nm (pj_fi G 171 26) (fun y1 => cond (pj_c1 .ge v2 y1) (cond (pj_c1 .ne y1 0) (pj_nm (pj_ai G 184 (Int32.ofInt 0).toInt.toNat) (fun z4 => pj_nm ((if z4 < ((Int8.ofInt 99).toInt32) then z4 else ((Int8.ofInt 99).toInt32))) (fun z5 => pj_nm ((if (Int32.ofInt 1) < z5 then z5 else (Int32.ofInt 1))) (fun z6 => (z6, G))))) (pj_nm (pj_ai G 185 (Int32.ofInt 0).toInt.toNat) (fun z8 => pj_nm (z8 / ((Int8.ofInt 9).toInt32)) (fun z9 => pj_nm (pj_ai G 185 (Int32.ofInt 1).toInt.toNat) (fun z10 => pj_nm ((Int32.ofInt 2) * z10) (fun z11 => pj_nm (z9 + z11) (fun z12 => pj_nm (z12 + (Int32.ofInt 1)) (fun z13 => pj_nm ((if z13 < ((Int8.ofInt 99).toInt32) then z13 else ((Int8.ofInt 99).toInt32))) (fun z14 => pj_nm ((if (Int32.ofInt 1) < z14 then z14 else (Int32.ofInt 1))) (fun z15 => (z15, G))))))))))) (pj_nm (pj_ai G 182 v2.toInt.toNat) (fun z17 => cond (pj_c1 .ne z17 ((Int16.ofInt 3000).toInt32)) (cond (pj_c1 .lt z17 ((Int16.ofInt 2000).toInt32)) (cond (pj_c1 .lt z17 ((Int16.ofInt 1000).toInt32)) (pj_nm (pj_wa G 184 v1.toInt.toNat z17) (fun G21 => pj_nm (v1 + Int32.ofInt 1) (fun z22 => pj_nm (v2 + Int32.ofInt 1) (fun z23 => ih z22 z23 G21)))) (pj_nm (z17 - ((Int16.ofInt 1000).toInt32)) (fun z25 => pj_nm (pj_ai G 185 z25.toInt.toNat) (fun z26 => pj_nm (pj_wa G 184 v1.toInt.toNat z26) (fun G27 => pj_nm (v1 + Int32.ofInt 1) (fun z28 => pj_nm (v2 + Int32.ofInt 1) (fun z29 => ih z28 z29 G27))))))) (pj_nm (v1 + Int32.ofInt (-1)) (fun z31 => pj_nm (z31 - (Int32.ofInt 1)) (fun z32 => pj_nm (z17 - ((Int16.ofInt 2000).toInt32)) (fun z33 => pj_nm (pj_ai G 184 z32.toInt.toNat) (fun z34 => pj_nm (pj_ai G 184 z31.toInt.toNat) (fun z35 => pj_nm (F_202x G z33 z34 z35) (fun y37 => pj_nm (pj_wa G 184 z32.toInt.toNat y37) (fun G38 => pj_nm (v2 + Int32.ofInt 1) (fun z39 => ih z31 z39 G38)))))))))) (pj_nm (v1 - (Int32.ofInt 1)) (fun z41 => pj_nm (pj_ai G 184 z41.toInt.toNat) (fun z42 => pj_nm (-z42) (fun z43 => pj_nm (pj_wa G 184 z41.toInt.toNat z43) (fun G44 => pj_nm (v2 + Int32.ofInt 1) (fun z45 => ih v1 z45 G44)))))))))) fu
theorem L_203x_s0 (G0 : pj_G) (fu : Nat) (v1 : Int32) (v2 : Int32) (G : pj_G) : L_203x G0 (fu + 1) v1 v2 G = pj_nm (pj_fi G 171 26) (fun y1 => cond (pj_c1 .ge v2 y1) (cond (pj_c1 .ne y1 0) (pj_nm (pj_ai G 184 (Int32.ofInt 0).toInt.toNat) (fun z4 => pj_nm ((if z4 < ((Int8.ofInt 99).toInt32) then z4 else ((Int8.ofInt 99).toInt32))) (fun z5 => pj_nm ((if (Int32.ofInt 1) < z5 then z5 else (Int32.ofInt 1))) (fun z6 => (z6, G))))) (pj_nm (pj_ai G 185 (Int32.ofInt 0).toInt.toNat) (fun z8 => pj_nm (z8 / ((Int8.ofInt 9).toInt32)) (fun z9 => pj_nm (pj_ai G 185 (Int32.ofInt 1).toInt.toNat) (fun z10 => pj_nm ((Int32.ofInt 2) * z10) (fun z11 => pj_nm (z9 + z11) (fun z12 => pj_nm (z12 + (Int32.ofInt 1)) (fun z13 => pj_nm ((if z13 < ((Int8.ofInt 99).toInt32) then z13 else ((Int8.ofInt 99).toInt32))) (fun z14 => pj_nm ((if (Int32.ofInt 1) < z14 then z14 else (Int32.ofInt 1))) (fun z15 => (z15, G))))))))))) (pj_nm (pj_ai G 182 v2.toInt.toNat) (fun z17 => cond (pj_c1 .ne z17 ((Int16.ofInt 3000).toInt32)) (cond (pj_c1 .lt z17 ((Int16.ofInt 2000).toInt32)) (cond (pj_c1 .lt z17 ((Int16.ofInt 1000).toInt32)) (pj_nm (pj_wa G 184 v1.toInt.toNat z17) (fun G21 => pj_nm (v1 + Int32.ofInt 1) (fun z22 => pj_nm (v2 + Int32.ofInt 1) (fun z23 => L_203x G0 fu z22 z23 G21)))) (pj_nm (z17 - ((Int16.ofInt 1000).toInt32)) (fun z25 => pj_nm (pj_ai G 185 z25.toInt.toNat) (fun z26 => pj_nm (pj_wa G 184 v1.toInt.toNat z26) (fun G27 => pj_nm (v1 + Int32.ofInt 1) (fun z28 => pj_nm (v2 + Int32.ofInt 1) (fun z29 => L_203x G0 fu z28 z29 G27))))))) (pj_nm (v1 + Int32.ofInt (-1)) (fun z31 => pj_nm (z31 - (Int32.ofInt 1)) (fun z32 => pj_nm (z17 - ((Int16.ofInt 2000).toInt32)) (fun z33 => pj_nm (pj_ai G 184 z32.toInt.toNat) (fun z34 => pj_nm (pj_ai G 184 z31.toInt.toNat) (fun z35 => pj_nm (F_202x G z33 z34 z35) (fun y37 => pj_nm (pj_wa G 184 z32.toInt.toNat y37) (fun G38 => pj_nm (v2 + Int32.ofInt 1) (fun z39 => L_203x G0 fu z31 z39 G38)))))))))) (pj_nm (v1 - (Int32.ofInt 1)) (fun z41 => pj_nm (pj_ai G 184 z41.toInt.toNat) (fun z42 => pj_nm (-z42) (fun z43 => pj_nm (pj_wa G 184 z41.toInt.toNat z43) (fun G44 => pj_nm (v2 + Int32.ofInt 1) (fun z45 => L_203x G0 fu v1 z45 G44))))))))) := rfl
noncomputable def F_203x (G0 : pj_G) : Int32 × pj_G := L_203x G0 81 (Int32.ofInt 0) (Int32.ofInt 0) G0
theorem F_203x_e (G0 : pj_G) : F_203x G0 = L_203x G0 81 (Int32.ofInt 0) (Int32.ofInt 0) G0 := rfl
theorem lp_ct_202x (G0 : pj_G) (hI0 : pj_Inv G0) (p0_ : pj_RI G0) : ∀ mn : Nat, (∀ (G : pj_G) (hI : pj_Inv G) (hK : pj_kpt kc_202x G0 G) (v1 : Int32) (v2 : Int32), ((0 : Int) ≤ v1.toInt ∧ v1.toInt ≤ 80) → ((0 : Int) ≤ v2.toInt ∧ v2.toInt ≤ 80) → (pj_vq G0 v2 v1) → (v1.toInt ≤ v2.toInt) → 80 - v2.toInt < (mn : Int) → pj_X 2 pj_m202 G 4 [(0, .ref 171), (1, .int v1), (2, .int v2)] [] (fun v' G' => ∃ y : Int32, v' = some (.int y) ∧ pj_Inv G' ∧ pj_kpt kc_202x G0 G' ∧ ((1 : Int) ≤ y.toInt ∧ y.toInt ≤ 99) ∧ ((y, G') = L_203x G0 mn v1 v2 G))) := by
  have c0_ : ((Int16.ofInt 1000).toInt32).toInt = 1000 := by decide
  have c1_ : ((Int16.ofInt 2000).toInt32).toInt = 2000 := by decide
  have c2_ : ((Int16.ofInt 3000).toInt32).toInt = 3000 := by decide
  have c3_ : ((Int8.ofInt 9).toInt32).toInt = 9 := by decide
  have c4_ : ((Int8.ofInt 99).toInt32).toInt = 99 := by decide
  have c5_ : (Int32.ofInt (-1)).toInt = -1 := by decide
  have c6_ : (Int32.ofInt 0).toInt = 0 := by decide
  have c7_ : (Int32.ofInt 1).toInt = 1 := by decide
  have c8_ : (Int32.ofInt 2).toInt = 2 := by decide
  intro mn
  induction mn with
  | zero =>
    intro G hI hK v1 v2 rv1 rv2 x0_ x1_ hm
    exfalso
    omega
  | succ mn ih =>
    intro G hI hK v1 v2 rv1 rv2 x0_ x1_ hm
    rw [L_203x_s0]
    obtain ⟨y1, hy1⟩ : ∃ z : Int32, z = pj_fi G 171 26 := ⟨_, rfl⟩
    have ey1 : (pj_fi G 171 26).toInt = y1.toInt := by rw [hy1]
    have ry1 : (0 : Int) ≤ y1.toInt ∧ y1.toInt ≤ 80 := by rw [hy1]; exact hI.2.1 171 26 (0, 80) rfl
    refine pj_X_of (fun r h => pj_R_to (G, 6, [(0, .ref 171), (1, .int v1), (2, .int v2)], [.ref 171, .int v2], 0, 0) 6 3 (fun _ => rfl) h) ?_
    refine pj_X_of (fun r h => pj_T_gi hI rfl rfl h) ?_
    show pj_X _ _ G 9 [(0, .ref 171), (1, .int v1), (2, .int v2)] [.int (pj_fi G 171 26), .int v2] _
    rw [← hy1, pj_nm_e]
    cases b2 : pj_c1 .ge v2 y1 with
    | true =>
      rw [pj_cT]
      have ub2 := pj_u_geT b2
      refine pj_X_of (fun r h => pj_R_icT 125 rfl rfl b2 h) ?_
      refine pj_X_of (fun r h => pj_R_to (G, 126, [(0, .ref 171), (1, .int v1), (2, .int v2)], [.ref 171], 0, 0) 126 2 (fun _ => rfl) h) ?_
      refine pj_X_of (fun r h => pj_T_gi hI rfl rfl h) ?_
      show pj_X _ _ G 129 [(0, .ref 171), (1, .int v1), (2, .int v2)] [.int (pj_fi G 171 26)] _
      refine pj_X_eqi (show pj_fi G 171 26 = y1 from hy1.symm) ?_
      cases b3 : pj_c1 .ne y1 0 with
      | true =>
        rw [pj_cT]
        have ub3 := pj_u0_neT b3
        refine pj_X_of (fun r h => pj_R_ifT 155 rfl rfl b3 h) ?_
        refine pj_X_of (fun r h => pj_R_to (G, 156, [(0, .ref 171), (1, .int v1), (2, .int v2)], [.ref 171], 0, 0) 156 2 (fun _ => rfl) h) ?_
        refine pj_X_of (fun r h => pj_T_gr hI rfl rfl rfl h) ?_
        refine pj_X_of (fun r h => pj_R_to (G, 160, [(0, .ref 171), (1, .int v1), (2, .int v2)], [.int (Int32.ofInt 0), .ref 184], 0, 0) 160 2 (fun _ => rfl) h) ?_
        refine pj_X_of (fun r h => pj_T_il hI rfl rfl (by omega) (by omega) h) ?_
        show pj_X _ _ G 161 [(0, .ref 171), (1, .int v1), (2, .int v2)] [.int (pj_ai G 184 (Int32.ofInt 0).toInt.toNat)] _
        obtain ⟨z4, hz4⟩ : ∃ z : Int32, z = pj_ai G 184 (Int32.ofInt 0).toInt.toNat := ⟨_, rfl⟩
        refine pj_X_eqi hz4.symm ?_
        rw [← hz4, pj_nm_e]
        have ez4 : (pj_ai G 184 (Int32.ofInt 0).toInt.toNat).toInt = z4.toInt := by rw [hz4]
        refine pj_X_of (fun r h => pj_R_to (G, 166, [(2, .int z4), (0, .ref 171), (1, .int v1)], [.int z4, .int ((Int8.ofInt 99).toInt32), .int (Int32.ofInt 1)], 0, 0) 166 5 (fun _ => rfl) h) ?_
        refine pj_X_of (fun r h => pj_R_mn (v := (if z4 < ((Int8.ofInt 99).toInt32) then z4 else ((Int8.ofInt 99).toInt32))) rfl rfl rfl (Nat.le_of_ble_eq_true rfl) h) ?_
        show pj_X _ _ G 169 [(2, .int z4), (0, .ref 171), (1, .int v1)] [.int (if z4 < ((Int8.ofInt 99).toInt32) then z4 else ((Int8.ofInt 99).toInt32)), .int (Int32.ofInt 1)] _
        obtain ⟨z5, hz5⟩ : ∃ z : Int32, z = (if z4 < ((Int8.ofInt 99).toInt32) then z4 else ((Int8.ofInt 99).toInt32)) := ⟨_, rfl⟩
        refine pj_X_eqi hz5.symm ?_
        rw [← hz5, pj_nm_e]
        have fz5_0 : z5.toInt ≤ ((Int8.ofInt 99).toInt32).toInt ∧ z5.toInt ≤ z4.toInt ∧ (z5.toInt = ((Int8.ofInt 99).toInt32).toInt ∨ z5.toInt = z4.toInt) := by rw [hz5]; exact pj_minI
        refine pj_X_of (fun r h => pj_R_mx (v := (if (Int32.ofInt 1) < z5 then z5 else (Int32.ofInt 1))) rfl rfl rfl (Nat.le_of_ble_eq_true rfl) h) ?_
        show pj_X _ _ G 172 [(2, .int z4), (0, .ref 171), (1, .int v1)] [.int (if (Int32.ofInt 1) < z5 then z5 else (Int32.ofInt 1))] _
        obtain ⟨z6, hz6⟩ : ∃ z : Int32, z = (if (Int32.ofInt 1) < z5 then z5 else (Int32.ofInt 1)) := ⟨_, rfl⟩
        refine pj_X_eqi hz6.symm ?_
        rw [← hz6, pj_nm_e]
        have fz6_0 : (Int32.ofInt 1).toInt ≤ z6.toInt ∧ z5.toInt ≤ z6.toInt ∧ (z6.toInt = (Int32.ofInt 1).toInt ∨ z6.toInt = z5.toInt) := by rw [hz6]; exact pj_maxI
        have q7 : (pj_fi G 171 26).toInt = y1.toInt := by rw [show pj_fi G 171 26 = y1 from hy1.symm]
        exact pj_X_rt rfl rfl ⟨_, rfl, hI, hK, ⟨by omega, by omega⟩, rfl⟩
      | false =>
        rw [pj_cF]
        have ub3 := pj_u0_neF b3
        refine pj_X_of (fun r h => pj_R_ifF rfl b3 h) ?_
        refine pj_X_of (fun r h => pj_R_to (G, 133, [(0, .ref 171), (1, .int v1), (2, .int v2)], [.ref 171], 0, 0) 133 2 (fun _ => rfl) h) ?_
        refine pj_X_of (fun r h => pj_T_gr hI rfl rfl rfl h) ?_
        refine pj_X_of (fun r h => pj_R_to (G, 137, [(0, .ref 171), (1, .int v1), (2, .int v2)], [.int (Int32.ofInt 0), .ref 185], 0, 0) 137 2 (fun _ => rfl) h) ?_
        refine pj_X_of (fun r h => pj_T_il hI rfl rfl (by omega) (by omega) h) ?_
        show pj_X _ _ G 138 [(0, .ref 171), (1, .int v1), (2, .int v2)] [.int (pj_ai G 185 (Int32.ofInt 0).toInt.toNat)] _
        obtain ⟨z8, hz8⟩ : ∃ z : Int32, z = pj_ai G 185 (Int32.ofInt 0).toInt.toNat := ⟨_, rfl⟩
        refine pj_X_eqi hz8.symm ?_
        rw [← hz8, pj_nm_e]
        have ez8 : (pj_ai G 185 (Int32.ofInt 0).toInt.toNat).toInt = z8.toInt := by rw [hz8]
        refine pj_X_of (fun r h => pj_R_to (G, 140, [(0, .ref 171), (1, .int v1), (2, .int v2)], [.int ((Int8.ofInt 9).toInt32), .int z8], 0, 0) 140 2 (fun _ => rfl) h) ?_
        refine pj_X_of (fun r h => pj_R_dv rfl (pj_nz (by omega)) h) ?_
        show pj_X _ _ G 141 [(0, .ref 171), (1, .int v1), (2, .int v2)] [.int (z8 / ((Int8.ofInt 9).toInt32))] _
        obtain ⟨z9, hz9⟩ : ∃ z : Int32, z = z8 / ((Int8.ofInt 9).toInt32) := ⟨_, rfl⟩
        refine pj_X_eqi hz9.symm ?_
        rw [← hz9, pj_nm_e]
        refine pj_X_of (fun r h => pj_R_to (G, 143, [(0, .ref 171), (1, .int v1), (2, .int v2)], [.ref 171, .int (Int32.ofInt 2), .int z9], 0, 0) 143 3 (fun _ => rfl) h) ?_
        refine pj_X_of (fun r h => pj_T_gr hI rfl rfl rfl h) ?_
        refine pj_X_of (fun r h => pj_R_to (G, 147, [(0, .ref 171), (1, .int v1), (2, .int v2)], [.int (Int32.ofInt 1), .ref 185, .int (Int32.ofInt 2), .int z9], 0, 0) 147 2 (fun _ => rfl) h) ?_
        refine pj_X_of (fun r h => pj_T_il hI rfl rfl (by omega) (by omega) h) ?_
        show pj_X _ _ G 148 [(0, .ref 171), (1, .int v1), (2, .int v2)] [.int (pj_ai G 185 (Int32.ofInt 1).toInt.toNat), .int (Int32.ofInt 2), .int z9] _
        obtain ⟨z10, hz10⟩ : ∃ z : Int32, z = pj_ai G 185 (Int32.ofInt 1).toInt.toNat := ⟨_, rfl⟩
        refine pj_X_eqi hz10.symm ?_
        rw [← hz10, pj_nm_e]
        have ez10 : (pj_ai G 185 (Int32.ofInt 1).toInt.toNat).toInt = z10.toInt := by rw [hz10]
        refine pj_X_of (fun r h => pj_R_to (G, 149, [(0, .ref 171), (1, .int v1), (2, .int v2)], [.int ((Int32.ofInt 2) * z10), .int z9], 0, 0) 149 2 (fun _ => rfl) h) ?_
        obtain ⟨z11, hz11⟩ : ∃ z : Int32, z = (Int32.ofInt 2) * z10 := ⟨_, rfl⟩
        refine pj_X_eqi hz11.symm ?_
        rw [← hz11, pj_nm_e]
        refine pj_X_of (fun r h => pj_R_to (G, 150, [(0, .ref 171), (1, .int v1), (2, .int v2)], [.int (z9 + z11)], 0, 0) 150 2 (fun _ => rfl) h) ?_
        obtain ⟨z12, hz12⟩ : ∃ z : Int32, z = z9 + z11 := ⟨_, rfl⟩
        refine pj_X_eqi hz12.symm ?_
        rw [← hz12, pj_nm_e]
        refine pj_X_of (fun r h => pj_R_to (G, 152, [(0, .ref 171), (1, .int v1), (2, .int v2)], [.int (z12 + (Int32.ofInt 1))], 0, 0) 152 3 (fun _ => rfl) h) ?_
        obtain ⟨z13, hz13⟩ : ∃ z : Int32, z = z12 + (Int32.ofInt 1) := ⟨_, rfl⟩
        refine pj_X_eqi hz13.symm ?_
        rw [← hz13, pj_nm_e]
        refine pj_X_of (fun r h => pj_R_to (G, 166, [(2, .int z13), (0, .ref 171), (1, .int v1)], [.int z13, .int ((Int8.ofInt 99).toInt32), .int (Int32.ofInt 1)], 0, 0) 166 6 (fun _ => rfl) h) ?_
        refine pj_X_of (fun r h => pj_R_mn (v := (if z13 < ((Int8.ofInt 99).toInt32) then z13 else ((Int8.ofInt 99).toInt32))) rfl rfl rfl (Nat.le_of_ble_eq_true rfl) h) ?_
        show pj_X _ _ G 169 [(2, .int z13), (0, .ref 171), (1, .int v1)] [.int (if z13 < ((Int8.ofInt 99).toInt32) then z13 else ((Int8.ofInt 99).toInt32)), .int (Int32.ofInt 1)] _
        obtain ⟨z14, hz14⟩ : ∃ z : Int32, z = (if z13 < ((Int8.ofInt 99).toInt32) then z13 else ((Int8.ofInt 99).toInt32)) := ⟨_, rfl⟩
        refine pj_X_eqi hz14.symm ?_
        rw [← hz14, pj_nm_e]
        have fz14_0 : z14.toInt ≤ ((Int8.ofInt 99).toInt32).toInt ∧ z14.toInt ≤ z13.toInt ∧ (z14.toInt = ((Int8.ofInt 99).toInt32).toInt ∨ z14.toInt = z13.toInt) := by rw [hz14]; exact pj_minI
        refine pj_X_of (fun r h => pj_R_mx (v := (if (Int32.ofInt 1) < z14 then z14 else (Int32.ofInt 1))) rfl rfl rfl (Nat.le_of_ble_eq_true rfl) h) ?_
        show pj_X _ _ G 172 [(2, .int z13), (0, .ref 171), (1, .int v1)] [.int (if (Int32.ofInt 1) < z14 then z14 else (Int32.ofInt 1))] _
        obtain ⟨z15, hz15⟩ : ∃ z : Int32, z = (if (Int32.ofInt 1) < z14 then z14 else (Int32.ofInt 1)) := ⟨_, rfl⟩
        refine pj_X_eqi hz15.symm ?_
        rw [← hz15, pj_nm_e]
        have fz15_0 : (Int32.ofInt 1).toInt ≤ z15.toInt ∧ z14.toInt ≤ z15.toInt ∧ (z15.toInt = (Int32.ofInt 1).toInt ∨ z15.toInt = z14.toInt) := by rw [hz15]; exact pj_maxI
        have q16 : (pj_fi G 171 26).toInt = y1.toInt := by rw [show pj_fi G 171 26 = y1 from hy1.symm]
        exact pj_X_rt rfl rfl ⟨_, rfl, hI, hK, ⟨by omega, by omega⟩, rfl⟩
    | false =>
      rw [pj_cF]
      have ub2 := pj_u_geF b2
      refine pj_X_of (fun r h => pj_R_icF rfl b2 h) ?_
      refine pj_X_of (fun r h => pj_R_to (G, 13, [(0, .ref 171), (1, .int v1), (2, .int v2)], [.ref 171], 0, 0) 13 2 (fun _ => rfl) h) ?_
      refine pj_X_of (fun r h => pj_T_gr hI rfl rfl rfl h) ?_
      refine pj_X_of (fun r h => pj_R_to (G, 17, [(0, .ref 171), (1, .int v1), (2, .int v2)], [.int v2, .ref 182], 0, 0) 17 2 (fun _ => rfl) h) ?_
      refine pj_X_of (fun r h => pj_T_il hI rfl rfl (by omega) (by omega) h) ?_
      show pj_X _ _ G 18 [(0, .ref 171), (1, .int v1), (2, .int v2)] [.int (pj_ai G 182 v2.toInt.toNat)] _
      obtain ⟨z17, hz17⟩ : ∃ z : Int32, z = pj_ai G 182 v2.toInt.toNat := ⟨_, rfl⟩
      refine pj_X_eqi hz17.symm ?_
      rw [← hz17, pj_nm_e]
      have ez17 : (pj_ai G 182 v2.toInt.toNat).toInt = z17.toInt := by rw [hz17]
      have fz17_0 : (-1 : Int) ≤ z17.toInt ∧ z17.toInt ≤ 3000 ∧ (z17.toInt ≤ 1006 ∨ 2000 ≤ z17.toInt) := by rw [hz17]; exact hI.2.2.1 182 (80, -1, 3000, 1006, 2000) rfl _ (by show _ < 80; omega)
      refine pj_X_of (fun r h => pj_R_to (G, 19, [(3, .int z17), (0, .ref 171), (1, .int v1), (2, .int v2)], [], 0, 0) 19 2 (fun _ => rfl) h) ?_
      have hc0 : (pj_ai G0 182 v2.toInt.toNat).toInt = z17.toInt := by rw [hz17, hK.2.2 182 (by decide)]
      have hl0 : (pj_fi G0 171 26).toInt = y1.toInt := by rw [hy1, hK.1 (171, 26) (by decide)]
      obtain ⟨hA, hB, hN⟩ := pj_vq_s x0_ (by omega) (by omega) (by omega)
      rw [hc0] at hA hB hN
      refine pj_X_of (fun r h => pj_R_to (G, 23, [(3, .int z17), (0, .ref 171), (1, .int v1), (2, .int v2)], [.int ((Int16.ofInt 3000).toInt32), .int z17], 0, 0) 23 3 (fun _ => rfl) h) ?_
      cases b18 : pj_c1 .ne z17 ((Int16.ofInt 3000).toInt32) with
      | true =>
        rw [pj_cT]
        have ub18 := pj_u_neT b18
        refine pj_X_of (fun r h => pj_R_icT 46 rfl rfl b18 h) ?_
        refine pj_X_of (fun r h => pj_R_to (G, 50, [(3, .int z17), (0, .ref 171), (1, .int v1), (2, .int v2)], [.int ((Int16.ofInt 2000).toInt32), .int z17], 0, 0) 50 3 (fun _ => rfl) h) ?_
        cases b19 : pj_c1 .lt z17 ((Int16.ofInt 2000).toInt32) with
        | true =>
          rw [pj_cT]
          have ub19 := pj_u_ltT b19
          refine pj_X_of (fun r h => pj_R_icT 89 rfl rfl b19 h) ?_
          refine pj_X_of (fun r h => pj_R_to (G, 90, [(3, .int z17), (0, .ref 171), (1, .int v1), (2, .int v2)], [.ref 171], 0, 0) 90 2 (fun _ => rfl) h) ?_
          refine pj_X_of (fun r h => pj_T_gr hI rfl rfl rfl h) ?_
          refine pj_X_of (fun r h => pj_R_to (G, 98, [(3, .int z17), (0, .ref 171), (1, .int v1), (2, .int v2)], [.int ((Int16.ofInt 1000).toInt32), .int z17, .int v1, .ref 184], 0, 0) 98 4 (fun _ => rfl) h) ?_
          cases b20 : pj_c1 .lt z17 ((Int16.ofInt 1000).toInt32) with
          | true =>
            rw [pj_cT]
            have ub20 := pj_u_ltT b20
            refine pj_X_of (fun r h => pj_R_icT 114 rfl rfl b20 h) ?_
            refine pj_X_of (fun r h => pj_R_to (G, 115, [(3, .int z17), (0, .ref 171), (1, .int v1), (2, .int v2)], [.int z17, .int v1, .ref 184], 0, 0) 115 2 (fun _ => rfl) h) ?_
            refine pj_X_of (fun r h => pj_T_is hI rfl rfl (by omega) (by omega) h) ?_
            show pj_X _ _ (pj_wa G 184 v1.toInt.toNat z17) 116 [(3, .int z17), (0, .ref 171), (1, .int v1), (2, .int v2)] [] _
            obtain ⟨G21, hG21⟩ : ∃ H, H = pj_wa G 184 v1.toInt.toNat z17 := ⟨_, rfl⟩
            have iG21 : pj_Inv G21 := by rw [hG21]; exact pj_Inv_wa hI rfl (fun q hq => by cases hq) (fun n hn => by cases hn)
            have kG21 : pj_kpt kc_202x G0 G21 := by rw [hG21]; exact pj_kpt_a hK rfl
            rw [← hG21]
            rw [pj_nm_e]
            refine pj_X_of (fun r h => pj_R_to (G21, 119, [(1, .int (v1 + Int32.ofInt 1)), (3, .int z17), (0, .ref 171), (2, .int v2)], [], 0, 0) 119 2 (fun _ => rfl) h) ?_
            obtain ⟨z22, hz22⟩ : ∃ z : Int32, z = v1 + Int32.ofInt 1 := ⟨_, rfl⟩
            rw [← hz22]
            rw [pj_nm_e]
            have fz22_0 : z22.toInt = v1.toInt + (Int32.ofInt 1).toInt := by rw [hz22]; exact pj_addI (by have := pj_i32 v1; have := pj_i32 (Int32.ofInt 1); omega) (by have := pj_i32 v1; have := pj_i32 (Int32.ofInt 1); omega)
            refine pj_X_of (fun r h => pj_R_to (G21, 122, [(2, .int (v2 + Int32.ofInt 1)), (1, .int z22), (3, .int z17), (0, .ref 171)], [], 0, 0) 122 2 (fun _ => rfl) h) ?_
            obtain ⟨z23, hz23⟩ : ∃ z : Int32, z = v2 + Int32.ofInt 1 := ⟨_, rfl⟩
            rw [← hz23]
            rw [pj_nm_e]
            have fz23_0 : z23.toInt = v2.toInt + (Int32.ofInt 1).toInt := by rw [hz23]; exact pj_addI (by have := pj_i32 v2; have := pj_i32 (Int32.ofInt 1); omega) (by have := pj_i32 v2; have := pj_i32 (Int32.ofInt 1); omega)
            refine pj_X_of (fun r h => pj_R_to (G21, 4, [(2, .int z23), (1, .int z22), (3, .int z17), (0, .ref 171)], [], 0, 0) 4 2 (fun _ => rfl) h) ?_
            have q24 : (pj_fi G21 171 26).toInt = y1.toInt := by rw [show pj_fi G21 171 26 = y1 from by rw [hG21, pj_fi_wa]; exact hy1.symm]
            exact pj_X_sub [(0, .ref 171), (1, .int z22), (2, .int z23)] (show List.Nodup [0, 1, 2] by decide) ⟨rfl, rfl, rfl, trivial⟩ (ih G21 iG21 kG21 z22 z23 ⟨by omega, by omega⟩ ⟨by omega, by omega⟩ (hN _ _ (by omega) (by omega)) (by omega) (by omega))
          | false =>
            rw [pj_cF]
            have ub20 := pj_u_ltF b20
            refine pj_X_of (fun r h => pj_R_icF rfl b20 h) ?_
            refine pj_X_of (fun r h => pj_R_to (G, 102, [(3, .int z17), (0, .ref 171), (1, .int v1), (2, .int v2)], [.ref 171, .int v1, .ref 184], 0, 0) 102 2 (fun _ => rfl) h) ?_
            refine pj_X_of (fun r h => pj_T_gr hI rfl rfl rfl h) ?_
            refine pj_X_of (fun r h => pj_R_to (G, 110, [(3, .int z17), (0, .ref 171), (1, .int v1), (2, .int v2)], [.int (z17 - ((Int16.ofInt 1000).toInt32)), .ref 185, .int v1, .ref 184], 0, 0) 110 4 (fun _ => rfl) h) ?_
            obtain ⟨z25, hz25⟩ : ∃ z : Int32, z = z17 - ((Int16.ofInt 1000).toInt32) := ⟨_, rfl⟩
            refine pj_X_eqi hz25.symm ?_
            rw [← hz25, pj_nm_e]
            have fz25_0 : z25.toInt = z17.toInt - ((Int16.ofInt 1000).toInt32).toInt := by rw [hz25]; exact pj_subI (by have := pj_i32 z17; have := pj_i32 ((Int16.ofInt 1000).toInt32); omega) (by have := pj_i32 z17; have := pj_i32 ((Int16.ofInt 1000).toInt32); omega)
            refine pj_X_of (fun r h => pj_T_il hI rfl rfl (by omega) (by omega) h) ?_
            show pj_X _ _ G 111 [(3, .int z17), (0, .ref 171), (1, .int v1), (2, .int v2)] [.int (pj_ai G 185 z25.toInt.toNat), .int v1, .ref 184] _
            obtain ⟨z26, hz26⟩ : ∃ z : Int32, z = pj_ai G 185 z25.toInt.toNat := ⟨_, rfl⟩
            refine pj_X_eqi hz26.symm ?_
            rw [← hz26, pj_nm_e]
            have ez26 : (pj_ai G 185 z25.toInt.toNat).toInt = z26.toInt := by rw [hz26]
            refine pj_X_of (fun r h => pj_R_to (G, 115, [(3, .int z17), (0, .ref 171), (1, .int v1), (2, .int v2)], [.int z26, .int v1, .ref 184], 0, 0) 115 2 (fun _ => rfl) h) ?_
            refine pj_X_of (fun r h => pj_T_is hI rfl rfl (by omega) (by omega) h) ?_
            show pj_X _ _ (pj_wa G 184 v1.toInt.toNat z26) 116 [(3, .int z17), (0, .ref 171), (1, .int v1), (2, .int v2)] [] _
            obtain ⟨G27, hG27⟩ : ∃ H, H = pj_wa G 184 v1.toInt.toNat z26 := ⟨_, rfl⟩
            have iG27 : pj_Inv G27 := by rw [hG27]; exact pj_Inv_wa hI rfl (fun q hq => by cases hq) (fun n hn => by cases hn)
            have kG27 : pj_kpt kc_202x G0 G27 := by rw [hG27]; exact pj_kpt_a hK rfl
            rw [← hG27]
            rw [pj_nm_e]
            refine pj_X_of (fun r h => pj_R_to (G27, 119, [(1, .int (v1 + Int32.ofInt 1)), (3, .int z17), (0, .ref 171), (2, .int v2)], [], 0, 0) 119 2 (fun _ => rfl) h) ?_
            obtain ⟨z28, hz28⟩ : ∃ z : Int32, z = v1 + Int32.ofInt 1 := ⟨_, rfl⟩
            rw [← hz28]
            rw [pj_nm_e]
            have fz28_0 : z28.toInt = v1.toInt + (Int32.ofInt 1).toInt := by rw [hz28]; exact pj_addI (by have := pj_i32 v1; have := pj_i32 (Int32.ofInt 1); omega) (by have := pj_i32 v1; have := pj_i32 (Int32.ofInt 1); omega)
            refine pj_X_of (fun r h => pj_R_to (G27, 122, [(2, .int (v2 + Int32.ofInt 1)), (1, .int z28), (3, .int z17), (0, .ref 171)], [], 0, 0) 122 2 (fun _ => rfl) h) ?_
            obtain ⟨z29, hz29⟩ : ∃ z : Int32, z = v2 + Int32.ofInt 1 := ⟨_, rfl⟩
            rw [← hz29]
            rw [pj_nm_e]
            have fz29_0 : z29.toInt = v2.toInt + (Int32.ofInt 1).toInt := by rw [hz29]; exact pj_addI (by have := pj_i32 v2; have := pj_i32 (Int32.ofInt 1); omega) (by have := pj_i32 v2; have := pj_i32 (Int32.ofInt 1); omega)
            refine pj_X_of (fun r h => pj_R_to (G27, 4, [(2, .int z29), (1, .int z28), (3, .int z17), (0, .ref 171)], [], 0, 0) 4 2 (fun _ => rfl) h) ?_
            have q30 : (pj_fi G27 171 26).toInt = y1.toInt := by rw [show pj_fi G27 171 26 = y1 from by rw [hG27, pj_fi_wa]; exact hy1.symm]
            exact pj_X_sub [(0, .ref 171), (1, .int z28), (2, .int z29)] (show List.Nodup [0, 1, 2] by decide) ⟨rfl, rfl, rfl, trivial⟩ (ih G27 iG27 kG27 z28 z29 ⟨by omega, by omega⟩ ⟨by omega, by omega⟩ (hN _ _ (by omega) (by omega)) (by omega) (by omega))
        | false =>
          rw [pj_cF]
          have ub19 := pj_u_ltF b19
          refine pj_X_of (fun r h => pj_R_icF rfl b19 h) ?_
          refine pj_X_of (fun r h => pj_R_to (G, 56, [(1, .int (v1 + Int32.ofInt (-1))), (3, .int z17), (0, .ref 171), (2, .int v2)], [], 0, 0) 56 2 (fun _ => rfl) h) ?_
          obtain ⟨z31, hz31⟩ : ∃ z : Int32, z = v1 + Int32.ofInt (-1) := ⟨_, rfl⟩
          rw [← hz31]
          rw [pj_nm_e]
          have fz31_0 : z31.toInt = v1.toInt + (Int32.ofInt (-1)).toInt := by rw [hz31]; exact pj_addI (by have := pj_i32 v1; have := pj_i32 (Int32.ofInt (-1)); omega) (by have := pj_i32 v1; have := pj_i32 (Int32.ofInt (-1)); omega)
          refine pj_X_of (fun r h => pj_R_to (G, 57, [(1, .int z31), (3, .int z17), (0, .ref 171), (2, .int v2)], [.ref 171], 0, 0) 57 2 (fun _ => rfl) h) ?_
          refine pj_X_of (fun r h => pj_T_gr hI rfl rfl rfl h) ?_
          refine pj_X_of (fun r h => pj_R_to (G, 63, [(1, .int z31), (3, .int z17), (0, .ref 171), (2, .int v2)], [.int (z31 - (Int32.ofInt 1)), .ref 184], 0, 0) 63 4 (fun _ => rfl) h) ?_
          obtain ⟨z32, hz32⟩ : ∃ z : Int32, z = z31 - (Int32.ofInt 1) := ⟨_, rfl⟩
          refine pj_X_eqi hz32.symm ?_
          rw [← hz32, pj_nm_e]
          have fz32_0 : z32.toInt = z31.toInt - (Int32.ofInt 1).toInt := by rw [hz32]; exact pj_subI (by have := pj_i32 z31; have := pj_i32 (Int32.ofInt 1); omega) (by have := pj_i32 z31; have := pj_i32 (Int32.ofInt 1); omega)
          refine pj_X_of (fun r h => pj_R_to (G, 68, [(1, .int z31), (3, .int z17), (0, .ref 171), (2, .int v2)], [.int (z17 - ((Int16.ofInt 2000).toInt32)), .int z32, .ref 184], 0, 0) 68 4 (fun _ => rfl) h) ?_
          obtain ⟨z33, hz33⟩ : ∃ z : Int32, z = z17 - ((Int16.ofInt 2000).toInt32) := ⟨_, rfl⟩
          refine pj_X_eqi hz33.symm ?_
          rw [← hz33, pj_nm_e]
          have fz33_0 : z33.toInt = z17.toInt - ((Int16.ofInt 2000).toInt32).toInt := by rw [hz33]; exact pj_subI (by have := pj_i32 z17; have := pj_i32 ((Int16.ofInt 2000).toInt32); omega) (by have := pj_i32 z17; have := pj_i32 ((Int16.ofInt 2000).toInt32); omega)
          refine pj_X_of (fun r h => pj_R_to (G, 69, [(1, .int z31), (3, .int z17), (0, .ref 171), (2, .int v2)], [.ref 171, .int z33, .int z32, .ref 184], 0, 0) 69 2 (fun _ => rfl) h) ?_
          refine pj_X_of (fun r h => pj_T_gr hI rfl rfl rfl h) ?_
          refine pj_X_of (fun r h => pj_R_to (G, 75, [(1, .int z31), (3, .int z17), (0, .ref 171), (2, .int v2)], [.int (z31 - (Int32.ofInt 1)), .ref 184, .int z33, .int z32, .ref 184], 0, 0) 75 4 (fun _ => rfl) h) ?_
          refine pj_X_eqi hz32.symm ?_
          refine pj_X_of (fun r h => pj_T_il hI rfl rfl (by omega) (by omega) h) ?_
          show pj_X _ _ G 76 [(1, .int z31), (3, .int z17), (0, .ref 171), (2, .int v2)] [.int (pj_ai G 184 z32.toInt.toNat), .int z33, .int z32, .ref 184] _
          obtain ⟨z34, hz34⟩ : ∃ z : Int32, z = pj_ai G 184 z32.toInt.toNat := ⟨_, rfl⟩
          refine pj_X_eqi hz34.symm ?_
          rw [← hz34, pj_nm_e]
          have ez34 : (pj_ai G 184 z32.toInt.toNat).toInt = z34.toInt := by rw [hz34]
          refine pj_X_of (fun r h => pj_R_to (G, 77, [(1, .int z31), (3, .int z17), (0, .ref 171), (2, .int v2)], [.ref 171, .int z34, .int z33, .int z32, .ref 184], 0, 0) 77 2 (fun _ => rfl) h) ?_
          refine pj_X_of (fun r h => pj_T_gr hI rfl rfl rfl h) ?_
          refine pj_X_of (fun r h => pj_R_to (G, 81, [(1, .int z31), (3, .int z17), (0, .ref 171), (2, .int v2)], [.int z31, .ref 184, .int z34, .int z33, .int z32, .ref 184], 0, 0) 81 2 (fun _ => rfl) h) ?_
          refine pj_X_of (fun r h => pj_T_il hI rfl rfl (by omega) (by omega) h) ?_
          show pj_X _ _ G 82 [(1, .int z31), (3, .int z17), (0, .ref 171), (2, .int v2)] [.int (pj_ai G 184 z31.toInt.toNat), .int z34, .int z33, .int z32, .ref 184] _
          obtain ⟨z35, hz35⟩ : ∃ z : Int32, z = pj_ai G 184 z31.toInt.toNat := ⟨_, rfl⟩
          refine pj_X_eqi hz35.symm ?_
          rw [← hz35, pj_nm_e]
          have ez35 : (pj_ai G 184 z31.toInt.toNat).toInt = z35.toInt := by rw [hz35]
          have q36 : (pj_fi G 171 26).toInt = y1.toInt := by rw [show pj_fi G 171 26 = y1 from hy1.symm]
          refine pj_X_ca (vs := [.int z33, .int z34, .int z35]) rfl (fun _ => rfl) ⟨Nat.le_of_ble_eq_true rfl, Nat.le_of_ble_eq_true rfl, rfl⟩ ⟨rfl, rfl⟩ (pj_Y_up (by decide) (ct_201x G hI z33 z34 z35)) ?_
          rintro _ _ ⟨y37, rfl, rfl, ry37, fy37⟩
          rw [← fy37, pj_nm_e]
          show pj_X _ _ G 85 [(1, .int z31), (3, .int z17), (0, .ref 171), (2, .int v2)] [.int y37, .int z32, .ref 184] _
          refine pj_X_of (fun r h => pj_T_is hI rfl rfl (by omega) (by omega) h) ?_
          show pj_X _ _ (pj_wa G 184 z32.toInt.toNat y37) 86 [(1, .int z31), (3, .int z17), (0, .ref 171), (2, .int v2)] [] _
          obtain ⟨G38, hG38⟩ : ∃ H, H = pj_wa G 184 z32.toInt.toNat y37 := ⟨_, rfl⟩
          have iG38 : pj_Inv G38 := by rw [hG38]; exact pj_Inv_wa hI rfl (fun q hq => by cases hq) (fun n hn => by cases hn)
          have kG38 : pj_kpt kc_202x G0 G38 := by rw [hG38]; exact pj_kpt_a hK rfl
          rw [← hG38]
          rw [pj_nm_e]
          refine pj_X_of (fun r h => pj_R_to (G38, 122, [(2, .int (v2 + Int32.ofInt 1)), (1, .int z31), (3, .int z17), (0, .ref 171)], [], 0, 0) 122 3 (fun _ => rfl) h) ?_
          obtain ⟨z39, hz39⟩ : ∃ z : Int32, z = v2 + Int32.ofInt 1 := ⟨_, rfl⟩
          rw [← hz39]
          rw [pj_nm_e]
          have fz39_0 : z39.toInt = v2.toInt + (Int32.ofInt 1).toInt := by rw [hz39]; exact pj_addI (by have := pj_i32 v2; have := pj_i32 (Int32.ofInt 1); omega) (by have := pj_i32 v2; have := pj_i32 (Int32.ofInt 1); omega)
          refine pj_X_of (fun r h => pj_R_to (G38, 4, [(2, .int z39), (1, .int z31), (3, .int z17), (0, .ref 171)], [], 0, 0) 4 2 (fun _ => rfl) h) ?_
          have q40 : (pj_fi G38 171 26).toInt = y1.toInt := by rw [show pj_fi G38 171 26 = y1 from by rw [hG38, pj_fi_wa]; exact hy1.symm]
          exact pj_X_sub [(0, .ref 171), (1, .int z31), (2, .int z39)] (show List.Nodup [0, 1, 2] by decide) ⟨rfl, rfl, rfl, trivial⟩ (ih G38 iG38 kG38 z31 z39 ⟨by omega, by omega⟩ ⟨by omega, by omega⟩ (hN _ _ (by omega) (by omega)) (by omega) (by omega))
      | false =>
        rw [pj_cF]
        have ub18 := pj_u_neF b18
        refine pj_X_of (fun r h => pj_R_icF rfl b18 h) ?_
        refine pj_X_of (fun r h => pj_R_to (G, 27, [(3, .int z17), (0, .ref 171), (1, .int v1), (2, .int v2)], [.ref 171], 0, 0) 27 2 (fun _ => rfl) h) ?_
        refine pj_X_of (fun r h => pj_T_gr hI rfl rfl rfl h) ?_
        refine pj_X_of (fun r h => pj_R_to (G, 33, [(3, .int z17), (0, .ref 171), (1, .int v1), (2, .int v2)], [.int (v1 - (Int32.ofInt 1)), .ref 184], 0, 0) 33 4 (fun _ => rfl) h) ?_
        obtain ⟨z41, hz41⟩ : ∃ z : Int32, z = v1 - (Int32.ofInt 1) := ⟨_, rfl⟩
        refine pj_X_eqi hz41.symm ?_
        rw [← hz41, pj_nm_e]
        have fz41_0 : z41.toInt = v1.toInt - (Int32.ofInt 1).toInt := by rw [hz41]; exact pj_subI (by have := pj_i32 v1; have := pj_i32 (Int32.ofInt 1); omega) (by have := pj_i32 v1; have := pj_i32 (Int32.ofInt 1); omega)
        refine pj_X_of (fun r h => pj_R_to (G, 34, [(3, .int z17), (0, .ref 171), (1, .int v1), (2, .int v2)], [.ref 171, .int z41, .ref 184], 0, 0) 34 2 (fun _ => rfl) h) ?_
        refine pj_X_of (fun r h => pj_T_gr hI rfl rfl rfl h) ?_
        refine pj_X_of (fun r h => pj_R_to (G, 40, [(3, .int z17), (0, .ref 171), (1, .int v1), (2, .int v2)], [.int (v1 - (Int32.ofInt 1)), .ref 184, .int z41, .ref 184], 0, 0) 40 4 (fun _ => rfl) h) ?_
        refine pj_X_eqi hz41.symm ?_
        refine pj_X_of (fun r h => pj_T_il hI rfl rfl (by omega) (by omega) h) ?_
        show pj_X _ _ G 41 [(3, .int z17), (0, .ref 171), (1, .int v1), (2, .int v2)] [.int (pj_ai G 184 z41.toInt.toNat), .int z41, .ref 184] _
        obtain ⟨z42, hz42⟩ : ∃ z : Int32, z = pj_ai G 184 z41.toInt.toNat := ⟨_, rfl⟩
        refine pj_X_eqi hz42.symm ?_
        rw [← hz42, pj_nm_e]
        have ez42 : (pj_ai G 184 z41.toInt.toNat).toInt = z42.toInt := by rw [hz42]
        refine pj_X_of (fun r h => pj_R_to (G, 42, [(3, .int z17), (0, .ref 171), (1, .int v1), (2, .int v2)], [.int (-z42), .int z41, .ref 184], 0, 0) 42 2 (fun _ => rfl) h) ?_
        obtain ⟨z43, hz43⟩ : ∃ z : Int32, z = -z42 := ⟨_, rfl⟩
        refine pj_X_eqi hz43.symm ?_
        rw [← hz43, pj_nm_e]
        refine pj_X_of (fun r h => pj_T_is hI rfl rfl (by omega) (by omega) h) ?_
        show pj_X _ _ (pj_wa G 184 z41.toInt.toNat z43) 43 [(3, .int z17), (0, .ref 171), (1, .int v1), (2, .int v2)] [] _
        obtain ⟨G44, hG44⟩ : ∃ H, H = pj_wa G 184 z41.toInt.toNat z43 := ⟨_, rfl⟩
        have iG44 : pj_Inv G44 := by rw [hG44]; exact pj_Inv_wa hI rfl (fun q hq => by cases hq) (fun n hn => by cases hn)
        have kG44 : pj_kpt kc_202x G0 G44 := by rw [hG44]; exact pj_kpt_a hK rfl
        rw [← hG44]
        rw [pj_nm_e]
        refine pj_X_of (fun r h => pj_R_to (G44, 122, [(2, .int (v2 + Int32.ofInt 1)), (3, .int z17), (0, .ref 171), (1, .int v1)], [], 0, 0) 122 3 (fun _ => rfl) h) ?_
        obtain ⟨z45, hz45⟩ : ∃ z : Int32, z = v2 + Int32.ofInt 1 := ⟨_, rfl⟩
        rw [← hz45]
        rw [pj_nm_e]
        have fz45_0 : z45.toInt = v2.toInt + (Int32.ofInt 1).toInt := by rw [hz45]; exact pj_addI (by have := pj_i32 v2; have := pj_i32 (Int32.ofInt 1); omega) (by have := pj_i32 v2; have := pj_i32 (Int32.ofInt 1); omega)
        refine pj_X_of (fun r h => pj_R_to (G44, 4, [(2, .int z45), (3, .int z17), (0, .ref 171), (1, .int v1)], [], 0, 0) 4 2 (fun _ => rfl) h) ?_
        have q46 : (pj_fi G44 171 26).toInt = y1.toInt := by rw [show pj_fi G44 171 26 = y1 from by rw [hG44, pj_fi_wa]; exact hy1.symm]
        exact pj_X_sub [(0, .ref 171), (1, .int v1), (2, .int z45)] (show List.Nodup [0, 1, 2] by decide) ⟨rfl, rfl, rfl, trivial⟩ (ih G44 iG44 kG44 v1 z45 ⟨by omega, by omega⟩ ⟨by omega, by omega⟩ (hN _ _ (by omega) (by omega)) (by omega) (by omega))
theorem ct_202x (G0 : pj_G) (hI : pj_Inv G0) (p0_ : pj_RI G0) : pj_Y 3 202 [.ref 171] G0 (fun v' G' => ∃ y : Int32, v' = some (.int y) ∧ pj_Inv G' ∧ pj_kpt kc_202x G0 G' ∧ ((1 : Int) ≤ y.toInt ∧ y.toInt ≤ 99) ∧ ((y, G') = F_203x G0)) := by
  have c0_ : ((Int16.ofInt 1000).toInt32).toInt = 1000 := by decide
  have c1_ : ((Int16.ofInt 2000).toInt32).toInt = 2000 := by decide
  have c2_ : ((Int16.ofInt 3000).toInt32).toInt = 3000 := by decide
  have c3_ : ((Int8.ofInt 9).toInt32).toInt = 9 := by decide
  have c4_ : ((Int8.ofInt 99).toInt32).toInt = 99 := by decide
  have c5_ : (Int32.ofInt (-1)).toInt = -1 := by decide
  have c6_ : (Int32.ofInt 0).toInt = 0 := by decide
  have c7_ : (Int32.ofInt 1).toInt = 1 := by decide
  have c8_ : (Int32.ofInt 2).toInt = 2 := by decide
  refine pj_Y_X (M := pj_m202) rfl rfl (Nat.le_of_ble_eq_true rfl) ?_
  have hK : pj_kpt kc_202x G0 G0 := pj_kpt_r _ _
  show pj_X _ _ G0 0 [(0, .ref 171)] [] _
  rw [F_203x_e]
  obtain ⟨y47, hy47⟩ : ∃ z : Int32, z = pj_fi G0 171 26 := ⟨_, rfl⟩
  have ey47 : (pj_fi G0 171 26).toInt = y47.toInt := by rw [hy47]
  have ry47 : (0 : Int) ≤ y47.toInt ∧ y47.toInt ≤ 80 := by rw [hy47]; exact hI.2.1 171 26 (0, 80) rfl
  refine pj_X_of (fun r h => pj_R_to (G0, 4, [(2, .int (Int32.ofInt 0)), (1, .int (Int32.ofInt 0)), (0, .ref 171)], [], 0, 0) 4 5 (fun _ => rfl) h) ?_
  have q48 : (pj_fi G0 171 26).toInt = y47.toInt := by rw [show pj_fi G0 171 26 = y47 from hy47.symm]
  exact pj_X_sub [(0, .ref 171), (1, .int (Int32.ofInt 0)), (2, .int (Int32.ofInt 0))] (show List.Nodup [0, 1, 2] by decide) ⟨rfl, rfl, rfl, trivial⟩ ((lp_ct_202x G0 hI   p0_ 81) G0 hI hK (Int32.ofInt 0) (Int32.ofInt 0) ⟨by omega, by omega⟩ ⟨by omega, by omega⟩ (pj_vq_0 p0_) (by omega) (by omega))
theorem fr_203x (G0 : pj_G) (hI : pj_Inv G0) (p0_ : pj_RI G0) : pj_Inv (F_203x G0).2 ∧ pj_kpt kc_202x G0 (F_203x G0).2 ∧ ((1 : Int) ≤ (F_203x G0).1.toInt ∧ (F_203x G0).1.toInt ≤ 99) := by
  obtain ⟨v, G', -, y, -, i, j, r, e⟩ := ct_202x G0 hI p0_
  rw [← e]
  exact ⟨i, j, r⟩
