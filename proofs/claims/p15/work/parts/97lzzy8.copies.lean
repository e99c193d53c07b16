def kc_217x : pj_KT := ([(171, 0), (171, 30)], [171, 179], [179])
noncomputable def L_218x (G0 : pj_G) (fu : Nat) : Int32 → pj_G → Int32 × pj_G := Nat.rec (motive := fun _ => Int32 → pj_G → Int32 × pj_G) (fun _ G => (0, G)) (fun _ ih v1 G => cond (pj_c1 .ge v1 ((Int8.ofInt 32).toInt32)) (pj_nm (pj_fi G 171 30) (fun y1 => (y1, G))) (pj_nm (pj_fi G 171 30) (fun y1 => pj_nm (((Int8.ofInt 32).toInt32) * y1) (fun z4 => pj_nm (z4 + v1) (fun z5 => pj_nm (pj_ai G 186 z5.toInt.toNat) (fun z6 => pj_nm (pj_wa G 179 v1.toInt.toNat z6) (fun G7 => pj_nm (v1 + Int32.ofInt 1) (fun z8 => ih z8 G7)))))))) fu
theorem L_218x_s0 (G0 : pj_G) (fu : Nat) (v1 : Int32) (G : pj_G) : L_218x G0 (fu + 1) v1 G = cond (pj_c1 .ge v1 ((Int8.ofInt 32).toInt32)) (pj_nm (pj_fi G 171 30) (fun y1 => (y1, G))) (pj_nm (pj_fi G 171 30) (fun y1 => pj_nm (((Int8.ofInt 32).toInt32) * y1) (fun z4 => pj_nm (z4 + v1) (fun z5 => pj_nm (pj_ai G 186 z5.toInt.toNat) (fun z6 => pj_nm (pj_wa G 179 v1.toInt.toNat z6) (fun G7 => pj_nm (v1 + Int32.ofInt 1) (fun z8 => L_218x G0 fu z8 G7))))))) := rfl
noncomputable def F_218x (G0 : pj_G) : Int32 × pj_G := pj_nm (pj_wv G0 171 0 (.int (Int32.ofInt 0))) (fun G11 => pj_nm (pj_fi G0 171 30) (fun y10 => cond (pj_c1 .ne y10 0) (pj_nm (y10 - (Int32.ofInt 1)) (fun z13 => pj_nm (pj_wv G11 171 30 (.int z13)) (fun G14 => L_218x G0 33 (Int32.ofInt 0) G14))) ((Int32.ofInt (-1), G11))))
theorem F_218x_e (G0 : pj_G) : F_218x G0 = pj_nm (pj_wv G0 171 0 (.int (Int32.ofInt 0))) (fun G11 => pj_nm (pj_fi G0 171 30) (fun y10 => cond (pj_c1 .ne y10 0) (pj_nm (y10 - (Int32.ofInt 1)) (fun z13 => pj_nm (pj_wv G11 171 30 (.int z13)) (fun G14 => L_218x G0 33 (Int32.ofInt 0) G14))) ((Int32.ofInt (-1), G11)))) := rfl
theorem lp_ct_217x (G0 : pj_G) (hI0 : pj_Inv G0) (p0_ : (pj_fi G0 171 30).toInt ≤ 15) : ∀ mn : Nat, (∀ (G : pj_G) (hI : pj_Inv G) (hK : pj_kpt kc_217x G0 G) (v1 : Int32), ((0 : Int) ≤ v1.toInt ∧ v1.toInt ≤ 32) → ((pj_fi G 171 30).toInt ≤ 15) → 32 - v1.toInt < (mn : Int) → pj_X 0 pj_m217 G 26 [(0, .ref 171), (1, .int v1)] [] (fun v' G' => ∃ y : Int32, v' = some (.int y) ∧ pj_Inv G' ∧ pj_kpt kc_217x G0 G' ∧ ((-2147483648 : Int) ≤ y.toInt ∧ y.toInt ≤ 2147483647) ∧ ((pj_fi G' 171 30).toInt ≤ 15) ∧ ((y, G') = L_218x G0 mn v1 G))) := by
  have c0_ : ((Int8.ofInt 32).toInt32).toInt = 32 := by decide
  have c1_ : (Int32.ofInt (-1)).toInt = -1 := by decide
  have c2_ : (Int32.ofInt 0).toInt = 0 := by decide
  have c3_ : (Int32.ofInt 1).toInt = 1 := by decide
  intro mn
  induction mn with
  | zero =>
    intro G hI hK v1 rv1 x0_ hm
    exfalso
    omega
  | succ mn ih =>
    intro G hI hK v1 rv1 x0_ hm
    rw [L_218x_s0]
    obtain ⟨y1, hy1⟩ : ∃ z : Int32, z = pj_fi G 171 30 := ⟨_, rfl⟩
    have ey1 : (pj_fi G 171 30).toInt = y1.toInt := by rw [hy1]
    have ry1 : (0 : Int) ≤ y1.toInt ∧ y1.toInt ≤ 16 := by rw [hy1]; exact hI.2.1 171 30 (0, 16) rfl
    refine pj_X_of (fun r h => pj_R_to (G, 29, [(0, .ref 171), (1, .int v1)], [.int ((Int8.ofInt 32).toInt32), .int v1], 0, 0) 29 3 (fun _ => rfl) h) ?_
    cases b2 : pj_c1 .ge v1 ((Int8.ofInt 32).toInt32) with
    | true =>
      rw [pj_cT]
      have ub2 := pj_u_geT b2
      refine pj_X_of (fun r h => pj_R_icT 58 rfl rfl b2 h) ?_
      refine pj_X_of (fun r h => pj_R_to (G, 59, [(0, .ref 171), (1, .int v1)], [.ref 171], 0, 0) 59 2 (fun _ => rfl) h) ?_
      refine pj_X_of (fun r h => pj_T_gi hI rfl rfl h) ?_
      show pj_X _ _ G 62 [(0, .ref 171), (1, .int v1)] [.int (pj_fi G 171 30)] _
      rw [← hy1, pj_nm_e]
      have q3 : (pj_fi G 171 30).toInt = y1.toInt := by rw [show pj_fi G 171 30 = y1 from hy1.symm]
      exact pj_X_rt rfl rfl ⟨_, rfl, hI, hK, pj_i32 _, by omega, rfl⟩
    | false =>
      rw [pj_cF]
      have ub2 := pj_u_geF b2
      refine pj_X_of (fun r h => pj_R_icF rfl b2 h) ?_
      refine pj_X_of (fun r h => pj_R_to (G, 33, [(0, .ref 171), (1, .int v1)], [.ref 171], 0, 0) 33 2 (fun _ => rfl) h) ?_
      refine pj_X_of (fun r h => pj_T_gr hI rfl rfl rfl h) ?_
      refine pj_X_of (fun r h => pj_R_to (G, 38, [(0, .ref 171), (1, .int v1)], [.ref 171, .int v1, .ref 179], 0, 0) 38 3 (fun _ => rfl) h) ?_
      refine pj_X_of (fun r h => pj_T_gr hI rfl rfl rfl h) ?_
      refine pj_X_of (fun r h => pj_R_to (G, 44, [(0, .ref 171), (1, .int v1)], [.ref 171, .int ((Int8.ofInt 32).toInt32), .ref 186, .int v1, .ref 179], 0, 0) 44 3 (fun _ => rfl) h) ?_
      refine pj_X_of (fun r h => pj_T_gi hI rfl rfl h) ?_
      show pj_X _ _ G 47 [(0, .ref 171), (1, .int v1)] [.int (pj_fi G 171 30), .int ((Int8.ofInt 32).toInt32), .ref 186, .int v1, .ref 179] _
      rw [← hy1, pj_nm_e]
      refine pj_X_of (fun r h => pj_R_to (G, 48, [(0, .ref 171), (1, .int v1)], [.int (((Int8.ofInt 32).toInt32) * y1), .ref 186, .int v1, .ref 179], 0, 0) 48 2 (fun _ => rfl) h) ?_
      obtain ⟨z4, hz4⟩ : ∃ z : Int32, z = ((Int8.ofInt 32).toInt32) * y1 := ⟨_, rfl⟩
      refine pj_X_eqi hz4.symm ?_
      rw [← hz4, pj_nm_e]
      have fz4_0 : z4.toInt = 32 * y1.toInt := by rw [hz4]; exact pj_mulL (by decide) (by omega) (by omega)
      refine pj_X_of (fun r h => pj_R_to (G, 50, [(0, .ref 171), (1, .int v1)], [.int (z4 + v1), .ref 186, .int v1, .ref 179], 0, 0) 50 3 (fun _ => rfl) h) ?_
      obtain ⟨z5, hz5⟩ : ∃ z : Int32, z = z4 + v1 := ⟨_, rfl⟩
      refine pj_X_eqi hz5.symm ?_
      rw [← hz5, pj_nm_e]
      have fz5_0 : z5.toInt = z4.toInt + v1.toInt := by rw [hz5]; exact pj_addI (by have := pj_i32 z4; have := pj_i32 v1; omega) (by have := pj_i32 z4; have := pj_i32 v1; omega)
      refine pj_X_of (fun r h => pj_T_il hI rfl rfl (by omega) (by omega) h) ?_
      show pj_X _ _ G 51 [(0, .ref 171), (1, .int v1)] [.int (pj_ai G 186 z5.toInt.toNat), .int v1, .ref 179] _
      obtain ⟨z6, hz6⟩ : ∃ z : Int32, z = pj_ai G 186 z5.toInt.toNat := ⟨_, rfl⟩
      refine pj_X_eqi hz6.symm ?_
      rw [← hz6, pj_nm_e]
      have ez6 : (pj_ai G 186 z5.toInt.toNat).toInt = z6.toInt := by rw [hz6]
      have fz6_0 : (z5.toInt.toNat % 32 < 24 → (z5.toInt.toNat % 4 = 0 → -1 ≤ z6.toInt ∧ z6.toInt ≤ 9) ∧ (z5.toInt.toNat % 4 = 1 → 0 ≤ z6.toInt)) ∧ (24 ≤ z5.toInt.toNat % 32 ∧ z5.toInt.toNat % 32 < 30 → 0 ≤ z6.toInt ∧ z6.toInt ≤ 7) := by rw [hz6]; exact hI.2.2.2 186 512 rfl _ (by show _ < 512; omega)
      refine pj_X_of (fun r h => pj_T_is hI rfl rfl (by omega) (by omega) h) ?_
      show pj_X _ _ (pj_wa G 179 v1.toInt.toNat z6) 52 [(0, .ref 171), (1, .int v1)] [] _
      obtain ⟨G7, hG7⟩ : ∃ H, H = pj_wa G 179 v1.toInt.toNat z6 := ⟨_, rfl⟩
      have iG7 : pj_Inv G7 := by rw [hG7]; exact pj_Inv_wa hI rfl (fun q hq => by cases hq) (fun n hn => ⟨fun h1 => ⟨fun h2 => by omega, fun h2 => by omega⟩, fun h1 => by omega⟩)
      have kG7 : pj_kpt kc_217x G0 G7 := by rw [hG7]; exact pj_kpt_a hK rfl
      rw [← hG7]
      rw [pj_nm_e]
      refine pj_X_of (fun r h => pj_R_to (G7, 55, [(1, .int (v1 + Int32.ofInt 1)), (0, .ref 171)], [], 0, 0) 55 2 (fun _ => rfl) h) ?_
      obtain ⟨z8, hz8⟩ : ∃ z : Int32, z = v1 + Int32.ofInt 1 := ⟨_, rfl⟩
      rw [← hz8]
      rw [pj_nm_e]
      have fz8_0 : z8.toInt = v1.toInt + (Int32.ofInt 1).toInt := by rw [hz8]; exact pj_addI (by have := pj_i32 v1; have := pj_i32 (Int32.ofInt 1); omega) (by have := pj_i32 v1; have := pj_i32 (Int32.ofInt 1); omega)
      refine pj_X_of (fun r h => pj_R_to (G7, 26, [(1, .int z8), (0, .ref 171)], [], 0, 0) 26 2 (fun _ => rfl) h) ?_
      have q9 : (pj_fi G7 171 30).toInt = y1.toInt := by rw [show pj_fi G7 171 30 = y1 from by rw [hG7, pj_fi_wa]; exact hy1.symm]
      exact pj_X_sub [(0, .ref 171), (1, .int z8)] (show List.Nodup [0, 1] by decide) ⟨rfl, rfl, trivial⟩ (ih G7 iG7 kG7 z8 ⟨by omega, by omega⟩ (by omega) (by omega))
theorem ct_217x (G0 : pj_G) (hI : pj_Inv G0) (p0_ : (pj_fi G0 171 30).toInt ≤ 15) : pj_Y 1 217 [.ref 171] G0 (fun v' G' => ∃ y : Int32, v' = some (.int y) ∧ pj_Inv G' ∧ pj_kpt kc_217x G0 G' ∧ ((-2147483648 : Int) ≤ y.toInt ∧ y.toInt ≤ 2147483647) ∧ ((pj_fi G' 171 30).toInt ≤ 15) ∧ ((y, G') = F_218x G0)) := by
  have c0_ : ((Int8.ofInt 32).toInt32).toInt = 32 := by decide
  have c1_ : (Int32.ofInt (-1)).toInt = -1 := by decide
  have c2_ : (Int32.ofInt 0).toInt = 0 := by decide
  have c3_ : (Int32.ofInt 1).toInt = 1 := by decide
  refine pj_Y_X (M := pj_m217) rfl rfl (Nat.le_of_ble_eq_true rfl) ?_
  have hK : pj_kpt kc_217x G0 G0 := pj_kpt_r _ _
  show pj_X _ _ G0 0 [(0, .ref 171)] [] _
  rw [F_218x_e]
  obtain ⟨y10, hy10⟩ : ∃ z : Int32, z = pj_fi G0 171 30 := ⟨_, rfl⟩
  have ey10 : (pj_fi G0 171 30).toInt = y10.toInt := by rw [hy10]
  have ry10 : (0 : Int) ≤ y10.toInt ∧ y10.toInt ≤ 16 := by rw [hy10]; exact hI.2.1 171 30 (0, 16) rfl
  refine pj_X_of (fun r h => pj_R_to (G0, 2, [(0, .ref 171)], [.int (Int32.ofInt 0), .ref 171], 0, 0) 2 3 (fun _ => rfl) h) ?_
  refine pj_X_of (fun r h => pj_T_pf hI rfl rfl rfl h) ?_
  show pj_X _ _ (pj_wv G0 171 0 (.int (Int32.ofInt 0))) 5 [(0, .ref 171)] [] _
  obtain ⟨G11, hG11⟩ : ∃ H, H = pj_wv G0 171 0 (.int (Int32.ofInt 0)) := ⟨_, rfl⟩
  have iG11 : pj_Inv G11 := by rw [hG11]; exact pj_Inv_wi hI (ci := 12) rfl (fun q hq => by cases hq)
  have kG11 : pj_kpt kc_217x G0 G11 := by rw [hG11]; exact pj_kpt_v hK rfl
  rw [← hG11]
  rw [pj_nm_e]
  refine pj_X_of (fun r h => pj_R_to (G11, 6, [(0, .ref 171)], [.ref 171], 0, 0) 6 2 (fun _ => rfl) h) ?_
  refine pj_X_of (fun r h => pj_T_gi iG11 rfl rfl h) ?_
  show pj_X _ _ G11 9 [(0, .ref 171)] [.int (pj_fi G11 171 30)] _
  rw [← hy10, pj_nm_e]
  refine pj_X_eqi (show pj_fi G11 171 30 = y10 from by rw [hG11, pj_fi_wv_ne _ _ _ _ _ _ (by decide)]; exact hy10.symm) ?_
  cases b12 : pj_c1 .ne y10 0 with
  | true =>
    rw [pj_cT]
    have ub12 := pj_u0_neT b12
    refine pj_X_of (fun r h => pj_R_ifT 14 rfl rfl b12 h) ?_
    refine pj_X_of (fun r h => pj_R_to (G11, 16, [(0, .ref 171)], [.ref 171, .ref 171], 0, 0) 16 3 (fun _ => rfl) h) ?_
    refine pj_X_of (fun r h => pj_T_gi iG11 rfl rfl h) ?_
    show pj_X _ _ G11 19 [(0, .ref 171)] [.int (pj_fi G11 171 30), .ref 171] _
    refine pj_X_eqi (show pj_fi G11 171 30 = y10 from by rw [hG11, pj_fi_wv_ne _ _ _ _ _ _ (by decide)]; exact hy10.symm) ?_
    refine pj_X_of (fun r h => pj_R_to (G11, 21, [(0, .ref 171)], [.int (y10 - (Int32.ofInt 1)), .ref 171], 0, 0) 21 3 (fun _ => rfl) h) ?_
    obtain ⟨z13, hz13⟩ : ∃ z : Int32, z = y10 - (Int32.ofInt 1) := ⟨_, rfl⟩
    refine pj_X_eqi hz13.symm ?_
    rw [← hz13, pj_nm_e]
    have fz13_0 : z13.toInt = y10.toInt - (Int32.ofInt 1).toInt := by rw [hz13]; exact pj_subI (by have := pj_i32 y10; have := pj_i32 (Int32.ofInt 1); omega) (by have := pj_i32 y10; have := pj_i32 (Int32.ofInt 1); omega)
    refine pj_X_of (fun r h => pj_T_pf iG11 rfl rfl rfl h) ?_
    show pj_X _ _ (pj_wv G11 171 30 (.int z13)) 24 [(0, .ref 171)] [] _
    obtain ⟨G14, hG14⟩ : ∃ H, H = pj_wv G11 171 30 (.int z13) := ⟨_, rfl⟩
    have iG14 : pj_Inv G14 := by rw [hG14]; exact pj_Inv_wi iG11 (ci := 12) rfl (fun q hq => by cases hq; exact ⟨by show (0 : Int) ≤ _; omega, by show _ ≤ (16 : Int); omega⟩)
    have kG14 : pj_kpt kc_217x G0 G14 := by rw [hG14]; exact pj_kpt_v kG11 rfl
    rw [← hG14]
    rw [pj_nm_e]
    refine pj_X_of (fun r h => pj_R_to (G14, 26, [(1, .int (Int32.ofInt 0)), (0, .ref 171)], [], 0, 0) 26 3 (fun _ => rfl) h) ?_
    have q15 : (pj_fi G14 171 30).toInt = z13.toInt := by rw [show pj_fi G14 171 30 = z13 from by rw [hG14]; exact pj_fi_wi iG11.1 (ci := 12) rfl _]
    exact pj_X_sub [(0, .ref 171), (1, .int (Int32.ofInt 0))] (show List.Nodup [0, 1] by decide) ⟨rfl, rfl, trivial⟩ ((lp_ct_217x G0 hI   p0_ 33) G14 iG14 kG14 (Int32.ofInt 0) ⟨by omega, by omega⟩ (by omega) (by omega))
  | false =>
    rw [pj_cF]
    have ub12 := pj_u0_neF b12
    refine pj_X_of (fun r h => pj_R_ifF rfl b12 h) ?_
    refine pj_X_of (fun r h => pj_R_to (G11, 13, [(0, .ref 171)], [.int (Int32.ofInt (-1))], 0, 0) 13 2 (fun _ => rfl) h) ?_
    have q16 : (pj_fi G11 171 30).toInt = y10.toInt := by rw [show pj_fi G11 171 30 = y10 from by rw [hG11, pj_fi_wv_ne _ _ _ _ _ _ (by decide)]; exact hy10.symm]
    exact pj_X_rt rfl rfl ⟨_, rfl, iG11, kG11, pj_i32 _, by omega, rfl⟩
theorem fr_218x (G0 : pj_G) (hI : pj_Inv G0) (p0_ : (pj_fi G0 171 30).toInt ≤ 15) : pj_Inv (F_218x G0).2 ∧ pj_kpt kc_217x G0 (F_218x G0).2 ∧ ((pj_fi (F_218x G0).2 171 30).toInt ≤ 15) := by
  obtain ⟨v, G', -, y, -, i, j, r, x, e⟩ := ct_217x G0 hI p0_
  rw [← e]
  exact ⟨i, j, x⟩
theorem mr_us (R0 : pj_G) (fu : Nat) (v : Int32) (G : pj_G) : L_215x R0 (fu + 1) v G = cond (pj_c1 .ge v ((Int8.ofInt 32).toInt32)) (G) (L_215x R0 fu (v + Int32.ofInt 1) (pj_wa G 186 (((Int8.ofInt 32).toInt32) * pj_fi G 171 30 + v).toInt.toNat (pj_ai G 179 (v).toInt.toNat))) := by
  rw [L_215x_s0]
  simp only [pj_nm_x]
theorem mr_usl (R0 : pj_G) (D S : Nat) : ∀ (m fu : Nat) (v : Int32) (G : pj_G), pj_coks pj_tb G.1 = true → ((pj_fi G 171 30).toInt * 32 = (D : Int) ∧ (S : Int) = 0 ∧ (pj_fi G 171 30).toInt ≤ 15) → 0 ≤ v.toInt → v.toInt ≤ 32 → 32 - v.toInt ≤ m → m < fu → ∃ V : pj_G, L_215x R0 fu v G = (V) ∧ pj_coks pj_tb V.1 = true ∧ (∀ a k, pj_fi V a k = pj_fi G a k) ∧ (∀ a j, a ≠ 186 → pj_ai V a j = pj_ai G a j) ∧ (∀ k : Nat, v.toInt ≤ (k : Int) → k < 32 → pj_ai V 186 (D + k) = pj_ai G 179 (S + k)) ∧ (∀ j : Nat, (j : Int) < D + v.toInt ∨ D + 32 ≤ j → pj_ai V 186 j = pj_ai G 186 j) := by
  have k1 : (Int32.ofInt 1).toInt = 1 := by decide
  have k32 : (((Int8.ofInt 32).toInt32)).toInt = 32 := by decide
  intro m
  induction m with
  | zero =>
    intro fu v G hS hb h0 h1 hm hf
    obtain ⟨g, rfl⟩ : ∃ q, fu = q + 1 := ⟨fu - 1, by omega⟩
    rw [mr_us, pj_b_geT (show (((Int8.ofInt 32).toInt32)).toInt ≤ v.toInt by omega), pj_cT]
    exact ⟨G, rfl, hS, fun _ _ => rfl, fun _ _ _ => rfl, fun k h2 h3 => absurd h3 (by omega), fun _ _ => rfl⟩
  | succ m ih =>
    intro fu v G hS hb h0 h1 hm hf
    obtain ⟨g, rfl⟩ : ∃ q, fu = q + 1 := ⟨fu - 1, by omega⟩
    rw [mr_us]
    by_cases q : 32 ≤ v.toInt
    · rw [pj_b_geT (show (((Int8.ofInt 32).toInt32)).toInt ≤ v.toInt by omega), pj_cT]
      exact ⟨G, rfl, hS, fun _ _ => rfl, fun _ _ _ => rfl, fun k h2 h3 => absurd h3 (by omega), fun _ _ => rfl⟩
    · rw [pj_b_geF (show v.toInt < (((Int8.ofInt 32).toInt32)).toInt by omega), pj_cF]
      have s : (v + Int32.ofInt 1).toInt = v.toInt + 1 := by rw [pj_addI (by omega) (by omega), k1]
      obtain ⟨n, hn⟩ : ∃ n : Nat, (n : Int) = v.toInt := ⟨v.toInt.toNat, by omega⟩
      obtain ⟨b1, b2, b3⟩ := hb
      have eD : (((Int8.ofInt 32).toInt32) * pj_fi G 171 30 + v).toInt.toNat = D + n := by rw [pj_addI (by rw [pj_mulL k32 (by omega) (by omega)]; omega) (by rw [pj_mulL k32 (by omega) (by omega)]; omega), pj_mulL k32 (by omega) (by omega)]; omega
      have eS : (v).toInt.toNat = S + n := by omega
      rw [eD, eS]
      obtain ⟨V, z1, z2, z3, z4, z5, z6⟩ := ih g (v + Int32.ofInt 1) (pj_wa G 186 (D + n) (pj_ai G 179 (S + n))) (mr_sa hS rfl _ _) (by rw [pj_fi_wa]; exact ⟨b1, b2, b3⟩) (by omega) (by omega) (by omega) (by omega)
      refine ⟨V, z1, z2, fun a k => (z3 a k).trans (pj_fi_wa _ _ _ _ _ _), fun a j h => (z4 a j h).trans (pj_ai_wa_ne _ _ _ _ _ _ h), fun k h2 h3 => ?_, fun j hj => (z6 j (by omega)).trans (pj_ai_wa_nj _ _ _ _ _ (by omega))⟩
      by_cases qk : k = n
      · subst qk
        exact (z6 _ (by omega)).trans (pj_ai_wa_eq hS rfl)
      · exact (z5 k (by omega) h3).trans (pj_ai_wa_ne _ _ _ _ _ _ (by decide))
theorem mr_bs (R0 : pj_G) (fu : Nat) (v : Int32) (G : pj_G) : L_218x R0 (fu + 1) v G = cond (pj_c1 .ge v ((Int8.ofInt 32).toInt32)) ((pj_fi G 171 30, G)) (L_218x R0 fu (v + Int32.ofInt 1) (pj_wa G 179 (v).toInt.toNat (pj_ai G 186 (((Int8.ofInt 32).toInt32) * pj_fi G 171 30 + v).toInt.toNat))) := by
  rw [L_218x_s0]
  simp only [pj_nm_x]
theorem mr_bsl (R0 : pj_G) (D S : Nat) : ∀ (m fu : Nat) (v : Int32) (G : pj_G), pj_coks pj_tb G.1 = true → ((pj_fi G 171 30).toInt * 32 = (S : Int) ∧ (D : Int) = 0 ∧ (pj_fi G 171 30).toInt ≤ 15) → 0 ≤ v.toInt → v.toInt ≤ 32 → 32 - v.toInt ≤ m → m < fu → ∃ V : pj_G, L_218x R0 fu v G = ((pj_fi V 171 30, V)) ∧ pj_coks pj_tb V.1 = true ∧ (∀ a k, pj_fi V a k = pj_fi G a k) ∧ (∀ a j, a ≠ 179 → pj_ai V a j = pj_ai G a j) ∧ (∀ k : Nat, v.toInt ≤ (k : Int) → k < 32 → pj_ai V 179 (D + k) = pj_ai G 186 (S + k)) ∧ (∀ j : Nat, (j : Int) < D + v.toInt ∨ D + 32 ≤ j → pj_ai V 179 j = pj_ai G 179 j) := by
  have k1 : (Int32.ofInt 1).toInt = 1 := by decide
  have k32 : (((Int8.ofInt 32).toInt32)).toInt = 32 := by decide
  intro m
  induction m with
  | zero =>
    intro fu v G hS hb h0 h1 hm hf
    obtain ⟨g, rfl⟩ : ∃ q, fu = q + 1 := ⟨fu - 1, by omega⟩
    rw [mr_bs, pj_b_geT (show (((Int8.ofInt 32).toInt32)).toInt ≤ v.toInt by omega), pj_cT]
    exact ⟨G, rfl, hS, fun _ _ => rfl, fun _ _ _ => rfl, fun k h2 h3 => absurd h3 (by omega), fun _ _ => rfl⟩
  | succ m ih =>
    intro fu v G hS hb h0 h1 hm hf
    obtain ⟨g, rfl⟩ : ∃ q, fu = q + 1 := ⟨fu - 1, by omega⟩
    rw [mr_bs]
    by_cases q : 32 ≤ v.toInt
    · rw [pj_b_geT (show (((Int8.ofInt 32).toInt32)).toInt ≤ v.toInt by omega), pj_cT]
      exact ⟨G, rfl, hS, fun _ _ => rfl, fun _ _ _ => rfl, fun k h2 h3 => absurd h3 (by omega), fun _ _ => rfl⟩
    · rw [pj_b_geF (show v.toInt < (((Int8.ofInt 32).toInt32)).toInt by omega), pj_cF]
      have s : (v + Int32.ofInt 1).toInt = v.toInt + 1 := by rw [pj_addI (by omega) (by omega), k1]
      obtain ⟨n, hn⟩ : ∃ n : Nat, (n : Int) = v.toInt := ⟨v.toInt.toNat, by omega⟩
      obtain ⟨b1, b2, b3⟩ := hb
      have eD : (v).toInt.toNat = D + n := by omega
      have eS : (((Int8.ofInt 32).toInt32) * pj_fi G 171 30 + v).toInt.toNat = S + n := by rw [pj_addI (by rw [pj_mulL k32 (by omega) (by omega)]; omega) (by rw [pj_mulL k32 (by omega) (by omega)]; omega), pj_mulL k32 (by omega) (by omega)]; omega
      rw [eD, eS]
      obtain ⟨V, z1, z2, z3, z4, z5, z6⟩ := ih g (v + Int32.ofInt 1) (pj_wa G 179 (D + n) (pj_ai G 186 (S + n))) (mr_sa hS rfl _ _) (by rw [pj_fi_wa]; exact ⟨b1, b2, b3⟩) (by omega) (by omega) (by omega) (by omega)
      refine ⟨V, z1, z2, fun a k => (z3 a k).trans (pj_fi_wa _ _ _ _ _ _), fun a j h => (z4 a j h).trans (pj_ai_wa_ne _ _ _ _ _ _ h), fun k h2 h3 => ?_, fun j hj => (z6 j (by omega)).trans (pj_ai_wa_nj _ _ _ _ _ (by omega))⟩
      by_cases qk : k = n
      · subst qk
        exact (z6 _ (by omega)).trans (pj_ai_wa_eq hS rfl)
      · exact (z5 k (by omega) h3).trans (pj_ai_wa_ne _ _ _ _ _ _ (by decide))
theorem mr_qs (R0 : pj_G) (i : Int32) (fu : Nat) (v : Int32) (G : pj_G) : L_282x R0 i (fu + 1) v G = cond (pj_c1 .ge v ((Int8.ofInt 32).toInt32)) ((Int32.ofInt 1, G)) (L_282x R0 i fu (v + Int32.ofInt 1) (pj_wa G 202 (((Int8.ofInt 32).toInt32) * i + v).toInt.toNat (pj_ai G 179 (v).toInt.toNat))) := by
  rw [L_282x_s0]
  simp only [pj_nm_x]
theorem mr_qsl (R0 : pj_G) (i : Int32) (D S : Nat) : ∀ (m fu : Nat) (v : Int32) (G : pj_G), pj_coks pj_tb G.1 = true → (i.toInt * 32 = (D : Int) ∧ (S : Int) = 0 ∧ i.toInt ≤ 2) → 0 ≤ v.toInt → v.toInt ≤ 32 → 32 - v.toInt ≤ m → m < fu → ∃ V : pj_G, L_282x R0 i fu v G = ((Int32.ofInt 1, V)) ∧ pj_coks pj_tb V.1 = true ∧ (∀ a k, pj_fi V a k = pj_fi G a k) ∧ (∀ a j, a ≠ 202 → pj_ai V a j = pj_ai G a j) ∧ (∀ k : Nat, v.toInt ≤ (k : Int) → k < 32 → pj_ai V 202 (D + k) = pj_ai G 179 (S + k)) ∧ (∀ j : Nat, (j : Int) < D + v.toInt ∨ D + 32 ≤ j → pj_ai V 202 j = pj_ai G 202 j) := by
  have k1 : (Int32.ofInt 1).toInt = 1 := by decide
  have k32 : (((Int8.ofInt 32).toInt32)).toInt = 32 := by decide
  intro m
  induction m with
  | zero =>
    intro fu v G hS hb h0 h1 hm hf
    obtain ⟨g, rfl⟩ : ∃ q, fu = q + 1 := ⟨fu - 1, by omega⟩
    rw [mr_qs, pj_b_geT (show (((Int8.ofInt 32).toInt32)).toInt ≤ v.toInt by omega), pj_cT]
    exact ⟨G, rfl, hS, fun _ _ => rfl, fun _ _ _ => rfl, fun k h2 h3 => absurd h3 (by omega), fun _ _ => rfl⟩
  | succ m ih =>
    intro fu v G hS hb h0 h1 hm hf
    obtain ⟨g, rfl⟩ : ∃ q, fu = q + 1 := ⟨fu - 1, by omega⟩
    rw [mr_qs]
    by_cases q : 32 ≤ v.toInt
    · rw [pj_b_geT (show (((Int8.ofInt 32).toInt32)).toInt ≤ v.toInt by omega), pj_cT]
      exact ⟨G, rfl, hS, fun _ _ => rfl, fun _ _ _ => rfl, fun k h2 h3 => absurd h3 (by omega), fun _ _ => rfl⟩
    · rw [pj_b_geF (show v.toInt < (((Int8.ofInt 32).toInt32)).toInt by omega), pj_cF]
      have s : (v + Int32.ofInt 1).toInt = v.toInt + 1 := by rw [pj_addI (by omega) (by omega), k1]
      obtain ⟨n, hn⟩ : ∃ n : Nat, (n : Int) = v.toInt := ⟨v.toInt.toNat, by omega⟩
      obtain ⟨b1, b2, b3⟩ := hb
      have eD : (((Int8.ofInt 32).toInt32) * i + v).toInt.toNat = D + n := by rw [pj_addI (by rw [pj_mulL k32 (by omega) (by omega)]; omega) (by rw [pj_mulL k32 (by omega) (by omega)]; omega), pj_mulL k32 (by omega) (by omega)]; omega
      have eS : (v).toInt.toNat = S + n := by omega
      rw [eD, eS]
      obtain ⟨V, z1, z2, z3, z4, z5, z6⟩ := ih g (v + Int32.ofInt 1) (pj_wa G 202 (D + n) (pj_ai G 179 (S + n))) (mr_sa hS rfl _ _) (by exact ⟨b1, b2, b3⟩) (by omega) (by omega) (by omega) (by omega)
      refine ⟨V, z1, z2, fun a k => (z3 a k).trans (pj_fi_wa _ _ _ _ _ _), fun a j h => (z4 a j h).trans (pj_ai_wa_ne _ _ _ _ _ _ h), fun k h2 h3 => ?_, fun j hj => (z6 j (by omega)).trans (pj_ai_wa_nj _ _ _ _ _ (by omega))⟩
      by_cases qk : k = n
      · subst qk
        exact (z6 _ (by omega)).trans (pj_ai_wa_eq hS rfl)
      · exact (z5 k (by omega) h3).trans (pj_ai_wa_ne _ _ _ _ _ _ (by decide))
theorem mr_ws (R0 : pj_G) (i : Int32) (fu : Nat) (v : Int32) (G : pj_G) : L_283x R0 i (fu + 1) v G = cond (pj_c1 .ge v ((Int8.ofInt 32).toInt32)) ((Int32.ofInt 1, pj_wv G 171 30 (.int (Int32.ofInt 0)))) (L_283x R0 i fu (v + Int32.ofInt 1) (pj_wa G 179 (v).toInt.toNat (pj_ai G 202 (((Int8.ofInt 32).toInt32) * i + v).toInt.toNat))) := by
  rw [L_283x_s0]
  simp only [pj_nm_x]
theorem mr_wsl (R0 : pj_G) (i : Int32) (D S : Nat) : ∀ (m fu : Nat) (v : Int32) (G : pj_G), pj_coks pj_tb G.1 = true → (i.toInt * 32 = (S : Int) ∧ (D : Int) = 0 ∧ i.toInt ≤ 2) → 0 ≤ v.toInt → v.toInt ≤ 32 → 32 - v.toInt ≤ m → m < fu → ∃ V : pj_G, L_283x R0 i fu v G = ((Int32.ofInt 1, pj_wv V 171 30 (.int (Int32.ofInt 0)))) ∧ pj_coks pj_tb V.1 = true ∧ (∀ a k, pj_fi V a k = pj_fi G a k) ∧ (∀ a j, a ≠ 179 → pj_ai V a j = pj_ai G a j) ∧ (∀ k : Nat, v.toInt ≤ (k : Int) → k < 32 → pj_ai V 179 (D + k) = pj_ai G 202 (S + k)) ∧ (∀ j : Nat, (j : Int) < D + v.toInt ∨ D + 32 ≤ j → pj_ai V 179 j = pj_ai G 179 j) := by
  have k1 : (Int32.ofInt 1).toInt = 1 := by decide
  have k32 : (((Int8.ofInt 32).toInt32)).toInt = 32 := by decide
  intro m
  induction m with
  | zero =>
    intro fu v G hS hb h0 h1 hm hf
    obtain ⟨g, rfl⟩ : ∃ q, fu = q + 1 := ⟨fu - 1, by omega⟩
    rw [mr_ws, pj_b_geT (show (((Int8.ofInt 32).toInt32)).toInt ≤ v.toInt by omega), pj_cT]
    exact ⟨G, rfl, hS, fun _ _ => rfl, fun _ _ _ => rfl, fun k h2 h3 => absurd h3 (by omega), fun _ _ => rfl⟩
  | succ m ih =>
    intro fu v G hS hb h0 h1 hm hf
    obtain ⟨g, rfl⟩ : ∃ q, fu = q + 1 := ⟨fu - 1, by omega⟩
    rw [mr_ws]
    by_cases q : 32 ≤ v.toInt
    · rw [pj_b_geT (show (((Int8.ofInt 32).toInt32)).toInt ≤ v.toInt by omega), pj_cT]
      exact ⟨G, rfl, hS, fun _ _ => rfl, fun _ _ _ => rfl, fun k h2 h3 => absurd h3 (by omega), fun _ _ => rfl⟩
    · rw [pj_b_geF (show v.toInt < (((Int8.ofInt 32).toInt32)).toInt by omega), pj_cF]
      have s : (v + Int32.ofInt 1).toInt = v.toInt + 1 := by rw [pj_addI (by omega) (by omega), k1]
      obtain ⟨n, hn⟩ : ∃ n : Nat, (n : Int) = v.toInt := ⟨v.toInt.toNat, by omega⟩
      obtain ⟨b1, b2, b3⟩ := hb
      have eD : (v).toInt.toNat = D + n := by omega
      have eS : (((Int8.ofInt 32).toInt32) * i + v).toInt.toNat = S + n := by rw [pj_addI (by rw [pj_mulL k32 (by omega) (by omega)]; omega) (by rw [pj_mulL k32 (by omega) (by omega)]; omega), pj_mulL k32 (by omega) (by omega)]; omega
      rw [eD, eS]
      obtain ⟨V, z1, z2, z3, z4, z5, z6⟩ := ih g (v + Int32.ofInt 1) (pj_wa G 179 (D + n) (pj_ai G 202 (S + n))) (mr_sa hS rfl _ _) (by exact ⟨b1, b2, b3⟩) (by omega) (by omega) (by omega) (by omega)
      refine ⟨V, z1, z2, fun a k => (z3 a k).trans (pj_fi_wa _ _ _ _ _ _), fun a j h => (z4 a j h).trans (pj_ai_wa_ne _ _ _ _ _ _ h), fun k h2 h3 => ?_, fun j hj => (z6 j (by omega)).trans (pj_ai_wa_nj _ _ _ _ _ (by omega))⟩
      by_cases qk : k = n
      · subst qk
        exact (z6 _ (by omega)).trans (pj_ai_wa_eq hS rfl)
      · exact (z5 k (by omega) h3).trans (pj_ai_wa_ne _ _ _ _ _ _ (by decide))
theorem mr_bq_57_21 (G : pj_G) : F_68_57_21x G = mr_bec 57 21 G := by
  rw [F_68_57_21x_e]
  unfold mr_bec mr_b7 mr_b6 mr_b5
  simp only [pj_nm_x]
theorem mr_bq_63_21 (G : pj_G) : F_68_63_21x G = mr_bec 63 21 G := by
  rw [F_68_63_21x_e]
  unfold mr_bec mr_b7 mr_b6 mr_b5
  simp only [pj_nm_x]
theorem mr_bq_69_21 (G : pj_G) : F_68_69_21x G = mr_bec 69 21 G := by
  rw [F_68_69_21x_e]
  unfold mr_bec mr_b7 mr_b6 mr_b5
  simp only [pj_nm_x]
theorem mr_bq_75_21 (G : pj_G) : F_68_75_21x G = mr_bec 75 21 G := by
  rw [F_68_75_21x_e]
  unfold mr_bec mr_b7 mr_b6 mr_b5
  simp only [pj_nm_x]
theorem mr_bq_81_21 (G : pj_G) : F_68_81_21x G = mr_bec 81 21 G := by
  rw [F_68_81_21x_e]
  unfold mr_bec mr_b7 mr_b6 mr_b5
  simp only [pj_nm_x]
theorem mr_bq_87_21 (G : pj_G) : F_68_87_21x G = mr_bec 87 21 G := by
  rw [F_68_87_21x_e]
  unfold mr_bec mr_b7 mr_b6 mr_b5
  simp only [pj_nm_x]
theorem mr_bq_93_21 (G : pj_G) : F_68_93_21x G = mr_bec 93 21 G := by
  rw [F_68_93_21x_e]
  unfold mr_bec mr_b7 mr_b6 mr_b5
  simp only [pj_nm_x]
theorem mr_bq_99_21 (G : pj_G) : F_68_99_21x G = mr_bec 99 21 G := by
  rw [F_68_99_21x_e]
  unfold mr_bec mr_b7 mr_b6 mr_b5
  simp only [pj_nm_x]
theorem mr_bq_105_21 (G : pj_G) : F_68_105_21x G = mr_bec 105 21 G := by
  rw [F_68_105_21x_e]
  unfold mr_bec mr_b7 mr_b6 mr_b5
  simp only [pj_nm_x]
theorem mr_bq_111_21 (G : pj_G) : F_68_111_21x G = mr_bec 111 21 G := by
  rw [F_68_111_21x_e]
  unfold mr_bec mr_b7 mr_b6 mr_b5
  simp only [pj_nm_x]
theorem mr_bq_117_21 (G : pj_G) : F_68_117_21x G = mr_bec 117 21 G := by
  rw [F_68_117_21x_e]
  unfold mr_bec mr_b7 mr_b6 mr_b5
  simp only [pj_nm_x]
theorem mr_bq_123_21 (G : pj_G) : F_68_123_21x G = mr_bec 123 21 G := by
  rw [F_68_123_21x_e]
  unfold mr_bec mr_b7 mr_b6 mr_b5
  simp only [pj_nm_x]
theorem mr_bq_129_21 (G : pj_G) : F_68_129_21x G = mr_bec 129 21 G := by
  rw [F_68_129_21x_e]
  unfold mr_bec mr_b7 mr_b6 mr_b5
  simp only [pj_nm_x]
theorem mr_bq_135_21 (G : pj_G) : F_68_135_21x G = mr_bec 135 21 G := by
  rw [F_68_135_21x_e]
  unfold mr_bec mr_b7 mr_b6 mr_b5
  simp only [pj_nm_x]
theorem mr_bq_141_21 (G : pj_G) : F_68_141_21x G = mr_bec 141 21 G := by
  rw [F_68_141_21x_e]
  unfold mr_bec mr_b7 mr_b6 mr_b5
  simp only [pj_nm_x]
theorem mr_bq_147_21 (G : pj_G) : F_68_147_21x G = mr_bec 147 21 G := by
  rw [F_68_147_21x_e]
  unfold mr_bec mr_b7 mr_b6 mr_b5
  simp only [pj_nm_x]
theorem mr_bq_153_21 (G : pj_G) : F_68_153_21x G = mr_bec 153 21 G := by
  rw [F_68_153_21x_e]
  unfold mr_bec mr_b7 mr_b6 mr_b5
  simp only [pj_nm_x]
theorem mr_bq_159_21 (G : pj_G) : F_68_159_21x G = mr_bec 159 21 G := by
  rw [F_68_159_21x_e]
  unfold mr_bec mr_b7 mr_b6 mr_b5
  simp only [pj_nm_x]
theorem mr_bq_165_21 (G : pj_G) : F_68_165_21x G = mr_bec 165 21 G := by
  rw [F_68_165_21x_e]
  unfold mr_bec mr_b7 mr_b6 mr_b5
  simp only [pj_nm_x]
theorem mr_bq_21_57 (G : pj_G) : F_68_21_57x G = mr_bec 21 57 G := by
  rw [F_68_21_57x_e]
  unfold mr_bec mr_b7 mr_b6 mr_b5
  simp only [pj_nm_x]
theorem mr_bq_21_63 (G : pj_G) : F_68_21_63x G = mr_bec 21 63 G := by
  rw [F_68_21_63x_e]
  unfold mr_bec mr_b7 mr_b6 mr_b5
  simp only [pj_nm_x]
theorem mr_bq_21_69 (G : pj_G) : F_68_21_69x G = mr_bec 21 69 G := by
  rw [F_68_21_69x_e]
  unfold mr_bec mr_b7 mr_b6 mr_b5
  simp only [pj_nm_x]
theorem mr_bq_21_75 (G : pj_G) : F_68_21_75x G = mr_bec 21 75 G := by
  rw [F_68_21_75x_e]
  unfold mr_bec mr_b7 mr_b6 mr_b5
  simp only [pj_nm_x]
theorem mr_bq_21_81 (G : pj_G) : F_68_21_81x G = mr_bec 21 81 G := by
  rw [F_68_21_81x_e]
  unfold mr_bec mr_b7 mr_b6 mr_b5
  simp only [pj_nm_x]
theorem mr_bq_21_87 (G : pj_G) : F_68_21_87x G = mr_bec 21 87 G := by
  rw [F_68_21_87x_e]
  unfold mr_bec mr_b7 mr_b6 mr_b5
  simp only [pj_nm_x]
theorem mr_bq_21_93 (G : pj_G) : F_68_21_93x G = mr_bec 21 93 G := by
  rw [F_68_21_93x_e]
  unfold mr_bec mr_b7 mr_b6 mr_b5
  simp only [pj_nm_x]
theorem mr_bq_21_99 (G : pj_G) : F_68_21_99x G = mr_bec 21 99 G := by
  rw [F_68_21_99x_e]
  unfold mr_bec mr_b7 mr_b6 mr_b5
  simp only [pj_nm_x]
theorem mr_bq_21_105 (G : pj_G) : F_68_21_105x G = mr_bec 21 105 G := by
  rw [F_68_21_105x_e]
  unfold mr_bec mr_b7 mr_b6 mr_b5
  simp only [pj_nm_x]
theorem mr_bq_21_111 (G : pj_G) : F_68_21_111x G = mr_bec 21 111 G := by
  rw [F_68_21_111x_e]
  unfold mr_bec mr_b7 mr_b6 mr_b5
  simp only [pj_nm_x]
theorem mr_bq_21_117 (G : pj_G) : F_68_21_117x G = mr_bec 21 117 G := by
  rw [F_68_21_117x_e]
  unfold mr_bec mr_b7 mr_b6 mr_b5
  simp only [pj_nm_x]
theorem mr_bq_21_123 (G : pj_G) : F_68_21_123x G = mr_bec 21 123 G := by
  rw [F_68_21_123x_e]
  unfold mr_bec mr_b7 mr_b6 mr_b5
  simp only [pj_nm_x]
theorem mr_bq_21_129 (G : pj_G) : F_68_21_129x G = mr_bec 21 129 G := by
  rw [F_68_21_129x_e]
  unfold mr_bec mr_b7 mr_b6 mr_b5
  simp only [pj_nm_x]
theorem mr_bq_21_135 (G : pj_G) : F_68_21_135x G = mr_bec 21 135 G := by
  rw [F_68_21_135x_e]
  unfold mr_bec mr_b7 mr_b6 mr_b5
  simp only [pj_nm_x]
theorem mr_bq_21_141 (G : pj_G) : F_68_21_141x G = mr_bec 21 141 G := by
  rw [F_68_21_141x_e]
  unfold mr_bec mr_b7 mr_b6 mr_b5
  simp only [pj_nm_x]
theorem mr_bq_21_147 (G : pj_G) : F_68_21_147x G = mr_bec 21 147 G := by
  rw [F_68_21_147x_e]
  unfold mr_bec mr_b7 mr_b6 mr_b5
  simp only [pj_nm_x]
theorem mr_bq_21_153 (G : pj_G) : F_68_21_153x G = mr_bec 21 153 G := by
  rw [F_68_21_153x_e]
  unfold mr_bec mr_b7 mr_b6 mr_b5
  simp only [pj_nm_x]
theorem mr_bq_21_159 (G : pj_G) : F_68_21_159x G = mr_bec 21 159 G := by
  rw [F_68_21_159x_e]
  unfold mr_bec mr_b7 mr_b6 mr_b5
  simp only [pj_nm_x]
theorem mr_bq_21_165 (G : pj_G) : F_68_21_165x G = mr_bec 21 165 G := by
  rw [F_68_21_165x_e]
  unfold mr_bec mr_b7 mr_b6 mr_b5
  simp only [pj_nm_x]
theorem mr_note {G : pj_G} (k : Nat) (hk : k < 16) (hn : (pj_fi G 53 1).toInt = (k : Int)) : F_33nx G = mr_bec (57 + 6 * k) 21 G := by
  rw [F_33nx_e]
  simp only [pj_nm_x]
  rcases (show k = 0 ∨ k = 1 ∨ k = 2 ∨ k = 3 ∨ k = 4 ∨ k = 5 ∨ k = 6 ∨ k = 7 ∨ k = 8 ∨ k = 9 ∨ k = 10 ∨ k = 11 ∨ k = 12 ∨ k = 13 ∨ k = 14 ∨ k = 15 by omega) with rfl | rfl | rfl | rfl | rfl | rfl | rfl | rfl | rfl | rfl | rfl | rfl | rfl | rfl | rfl | rfl
  · rw [if_pos (show (pj_fi G 53 1).toInt = 0 by omega)]
    exact mr_bq_57_21 G
  · rw [if_neg (show ¬ (pj_fi G 53 1).toInt = 0 by omega), if_pos (show (pj_fi G 53 1).toInt = 1 by omega)]
    exact mr_bq_63_21 G
  · rw [if_neg (show ¬ (pj_fi G 53 1).toInt = 0 by omega), if_neg (show ¬ (pj_fi G 53 1).toInt = 1 by omega), if_pos (show (pj_fi G 53 1).toInt = 2 by omega)]
    exact mr_bq_69_21 G
  · rw [if_neg (show ¬ (pj_fi G 53 1).toInt = 0 by omega), if_neg (show ¬ (pj_fi G 53 1).toInt = 1 by omega), if_neg (show ¬ (pj_fi G 53 1).toInt = 2 by omega), if_pos (show (pj_fi G 53 1).toInt = 3 by omega)]
    exact mr_bq_75_21 G
  · rw [if_neg (show ¬ (pj_fi G 53 1).toInt = 0 by omega), if_neg (show ¬ (pj_fi G 53 1).toInt = 1 by omega), if_neg (show ¬ (pj_fi G 53 1).toInt = 2 by omega), if_neg (show ¬ (pj_fi G 53 1).toInt = 3 by omega), if_pos (show (pj_fi G 53 1).toInt = 4 by omega)]
    exact mr_bq_81_21 G
  · rw [if_neg (show ¬ (pj_fi G 53 1).toInt = 0 by omega), if_neg (show ¬ (pj_fi G 53 1).toInt = 1 by omega), if_neg (show ¬ (pj_fi G 53 1).toInt = 2 by omega), if_neg (show ¬ (pj_fi G 53 1).toInt = 3 by omega), if_neg (show ¬ (pj_fi G 53 1).toInt = 4 by omega), if_pos (show (pj_fi G 53 1).toInt = 5 by omega)]
    exact mr_bq_87_21 G
  · rw [if_neg (show ¬ (pj_fi G 53 1).toInt = 0 by omega), if_neg (show ¬ (pj_fi G 53 1).toInt = 1 by omega), if_neg (show ¬ (pj_fi G 53 1).toInt = 2 by omega), if_neg (show ¬ (pj_fi G 53 1).toInt = 3 by omega), if_neg (show ¬ (pj_fi G 53 1).toInt = 4 by omega), if_neg (show ¬ (pj_fi G 53 1).toInt = 5 by omega), if_pos (show (pj_fi G 53 1).toInt = 6 by omega)]
    exact mr_bq_93_21 G
  · rw [if_neg (show ¬ (pj_fi G 53 1).toInt = 0 by omega), if_neg (show ¬ (pj_fi G 53 1).toInt = 1 by omega), if_neg (show ¬ (pj_fi G 53 1).toInt = 2 by omega), if_neg (show ¬ (pj_fi G 53 1).toInt = 3 by omega), if_neg (show ¬ (pj_fi G 53 1).toInt = 4 by omega), if_neg (show ¬ (pj_fi G 53 1).toInt = 5 by omega), if_neg (show ¬ (pj_fi G 53 1).toInt = 6 by omega), if_pos (show (pj_fi G 53 1).toInt = 7 by omega)]
    exact mr_bq_99_21 G
  · rw [if_neg (show ¬ (pj_fi G 53 1).toInt = 0 by omega), if_neg (show ¬ (pj_fi G 53 1).toInt = 1 by omega), if_neg (show ¬ (pj_fi G 53 1).toInt = 2 by omega), if_neg (show ¬ (pj_fi G 53 1).toInt = 3 by omega), if_neg (show ¬ (pj_fi G 53 1).toInt = 4 by omega), if_neg (show ¬ (pj_fi G 53 1).toInt = 5 by omega), if_neg (show ¬ (pj_fi G 53 1).toInt = 6 by omega), if_neg (show ¬ (pj_fi G 53 1).toInt = 7 by omega), if_pos (show (pj_fi G 53 1).toInt = 8 by omega)]
    exact mr_bq_105_21 G
  · rw [if_neg (show ¬ (pj_fi G 53 1).toInt = 0 by omega), if_neg (show ¬ (pj_fi G 53 1).toInt = 1 by omega), if_neg (show ¬ (pj_fi G 53 1).toInt = 2 by omega), if_neg (show ¬ (pj_fi G 53 1).toInt = 3 by omega), if_neg (show ¬ (pj_fi G 53 1).toInt = 4 by omega), if_neg (show ¬ (pj_fi G 53 1).toInt = 5 by omega), if_neg (show ¬ (pj_fi G 53 1).toInt = 6 by omega), if_neg (show ¬ (pj_fi G 53 1).toInt = 7 by omega), if_neg (show ¬ (pj_fi G 53 1).toInt = 8 by omega), if_pos (show (pj_fi G 53 1).toInt = 9 by omega)]
    exact mr_bq_111_21 G
  · rw [if_neg (show ¬ (pj_fi G 53 1).toInt = 0 by omega), if_neg (show ¬ (pj_fi G 53 1).toInt = 1 by omega), if_neg (show ¬ (pj_fi G 53 1).toInt = 2 by omega), if_neg (show ¬ (pj_fi G 53 1).toInt = 3 by omega), if_neg (show ¬ (pj_fi G 53 1).toInt = 4 by omega), if_neg (show ¬ (pj_fi G 53 1).toInt = 5 by omega), if_neg (show ¬ (pj_fi G 53 1).toInt = 6 by omega), if_neg (show ¬ (pj_fi G 53 1).toInt = 7 by omega), if_neg (show ¬ (pj_fi G 53 1).toInt = 8 by omega), if_neg (show ¬ (pj_fi G 53 1).toInt = 9 by omega), if_pos (show (pj_fi G 53 1).toInt = 10 by omega)]
    exact mr_bq_117_21 G
  · rw [if_neg (show ¬ (pj_fi G 53 1).toInt = 0 by omega), if_neg (show ¬ (pj_fi G 53 1).toInt = 1 by omega), if_neg (show ¬ (pj_fi G 53 1).toInt = 2 by omega), if_neg (show ¬ (pj_fi G 53 1).toInt = 3 by omega), if_neg (show ¬ (pj_fi G 53 1).toInt = 4 by omega), if_neg (show ¬ (pj_fi G 53 1).toInt = 5 by omega), if_neg (show ¬ (pj_fi G 53 1).toInt = 6 by omega), if_neg (show ¬ (pj_fi G 53 1).toInt = 7 by omega), if_neg (show ¬ (pj_fi G 53 1).toInt = 8 by omega), if_neg (show ¬ (pj_fi G 53 1).toInt = 9 by omega), if_neg (show ¬ (pj_fi G 53 1).toInt = 10 by omega), if_pos (show (pj_fi G 53 1).toInt = 11 by omega)]
    exact mr_bq_123_21 G
  · rw [if_neg (show ¬ (pj_fi G 53 1).toInt = 0 by omega), if_neg (show ¬ (pj_fi G 53 1).toInt = 1 by omega), if_neg (show ¬ (pj_fi G 53 1).toInt = 2 by omega), if_neg (show ¬ (pj_fi G 53 1).toInt = 3 by omega), if_neg (show ¬ (pj_fi G 53 1).toInt = 4 by omega), if_neg (show ¬ (pj_fi G 53 1).toInt = 5 by omega), if_neg (show ¬ (pj_fi G 53 1).toInt = 6 by omega), if_neg (show ¬ (pj_fi G 53 1).toInt = 7 by omega), if_neg (show ¬ (pj_fi G 53 1).toInt = 8 by omega), if_neg (show ¬ (pj_fi G 53 1).toInt = 9 by omega), if_neg (show ¬ (pj_fi G 53 1).toInt = 10 by omega), if_neg (show ¬ (pj_fi G 53 1).toInt = 11 by omega), if_pos (show (pj_fi G 53 1).toInt = 12 by omega)]
    exact mr_bq_129_21 G
  · rw [if_neg (show ¬ (pj_fi G 53 1).toInt = 0 by omega), if_neg (show ¬ (pj_fi G 53 1).toInt = 1 by omega), if_neg (show ¬ (pj_fi G 53 1).toInt = 2 by omega), if_neg (show ¬ (pj_fi G 53 1).toInt = 3 by omega), if_neg (show ¬ (pj_fi G 53 1).toInt = 4 by omega), if_neg (show ¬ (pj_fi G 53 1).toInt = 5 by omega), if_neg (show ¬ (pj_fi G 53 1).toInt = 6 by omega), if_neg (show ¬ (pj_fi G 53 1).toInt = 7 by omega), if_neg (show ¬ (pj_fi G 53 1).toInt = 8 by omega), if_neg (show ¬ (pj_fi G 53 1).toInt = 9 by omega), if_neg (show ¬ (pj_fi G 53 1).toInt = 10 by omega), if_neg (show ¬ (pj_fi G 53 1).toInt = 11 by omega), if_neg (show ¬ (pj_fi G 53 1).toInt = 12 by omega), if_pos (show (pj_fi G 53 1).toInt = 13 by omega)]
    exact mr_bq_135_21 G
  · rw [if_neg (show ¬ (pj_fi G 53 1).toInt = 0 by omega), if_neg (show ¬ (pj_fi G 53 1).toInt = 1 by omega), if_neg (show ¬ (pj_fi G 53 1).toInt = 2 by omega), if_neg (show ¬ (pj_fi G 53 1).toInt = 3 by omega), if_neg (show ¬ (pj_fi G 53 1).toInt = 4 by omega), if_neg (show ¬ (pj_fi G 53 1).toInt = 5 by omega), if_neg (show ¬ (pj_fi G 53 1).toInt = 6 by omega), if_neg (show ¬ (pj_fi G 53 1).toInt = 7 by omega), if_neg (show ¬ (pj_fi G 53 1).toInt = 8 by omega), if_neg (show ¬ (pj_fi G 53 1).toInt = 9 by omega), if_neg (show ¬ (pj_fi G 53 1).toInt = 10 by omega), if_neg (show ¬ (pj_fi G 53 1).toInt = 11 by omega), if_neg (show ¬ (pj_fi G 53 1).toInt = 12 by omega), if_neg (show ¬ (pj_fi G 53 1).toInt = 13 by omega), if_pos (show (pj_fi G 53 1).toInt = 14 by omega)]
    exact mr_bq_141_21 G
  · rw [if_neg (show ¬ (pj_fi G 53 1).toInt = 0 by omega), if_neg (show ¬ (pj_fi G 53 1).toInt = 1 by omega), if_neg (show ¬ (pj_fi G 53 1).toInt = 2 by omega), if_neg (show ¬ (pj_fi G 53 1).toInt = 3 by omega), if_neg (show ¬ (pj_fi G 53 1).toInt = 4 by omega), if_neg (show ¬ (pj_fi G 53 1).toInt = 5 by omega), if_neg (show ¬ (pj_fi G 53 1).toInt = 6 by omega), if_neg (show ¬ (pj_fi G 53 1).toInt = 7 by omega), if_neg (show ¬ (pj_fi G 53 1).toInt = 8 by omega), if_neg (show ¬ (pj_fi G 53 1).toInt = 9 by omega), if_neg (show ¬ (pj_fi G 53 1).toInt = 10 by omega), if_neg (show ¬ (pj_fi G 53 1).toInt = 11 by omega), if_neg (show ¬ (pj_fi G 53 1).toInt = 12 by omega), if_neg (show ¬ (pj_fi G 53 1).toInt = 13 by omega), if_neg (show ¬ (pj_fi G 53 1).toInt = 14 by omega)]
    exact mr_bq_147_21 G
