theorem pj_us16 {x : Int32} : 0 ≤ ((x.toUInt32 >>> (((Int8.ofInt 16).toInt32).toUInt32 &&& Int32.toUInt32 31)).toInt32).toInt ∧ ((x.toUInt32 >>> (((Int8.ofInt 16).toInt32).toUInt32 &&& Int32.toUInt32 31)).toInt32).toInt ≤ 65535 := by
  have e : (((Int8.ofInt 16).toInt32).toUInt32 &&& Int32.toUInt32 31) = 16 := by decide
  rw [e]
  have h : (x.toUInt32 >>> 16).toInt32.toBitVec.toNat < 65536 := by
    show (x.toUInt32 >>> 16).toNat < 65536
    rw [UInt32.toNat_shiftRight]
    have h1 : x.toUInt32.toNat < 4294967296 := x.toUInt32.toNat_lt
    have h2 : (16 : UInt32).toNat % 32 = 16 := by decide
    rw [h2, Nat.shiftRight_eq_div_pow]
    omega
  rw [pj_t31 (by omega)]
  omega
noncomputable def F_163x (G0 : pj_G) (w : Int32) (j : Int32) : Int32 := pj_nm (w >>> (j &&& 31)) (fun z1 => pj_nm (z1 &&& (Int32.ofInt 1)) (fun z2 => cond (pj_c1 .ne z2 (Int32.ofInt 1)) (Int32.ofInt 0) (Int32.ofInt 1)))
theorem F_163x_e (G0 : pj_G) (w : Int32) (j : Int32) : F_163x G0 w j = pj_nm (w >>> (j &&& 31)) (fun z1 => pj_nm (z1 &&& (Int32.ofInt 1)) (fun z2 => cond (pj_c1 .ne z2 (Int32.ofInt 1)) (Int32.ofInt 0) (Int32.ofInt 1))) := rfl
theorem ct_163x (G0 : pj_G) (hI : pj_Inv G0) (w : Int32) (j : Int32) : pj_Y 1 163 [.int w, .int j] G0 (fun v' G' => ∃ y : Int32, v' = some (.int y) ∧ G0 = G' ∧ ((0 : Int) ≤ y.toInt ∧ y.toInt ≤ 1) ∧ (y = F_163x G0 w j)) := by
  have c0_ : (Int32.ofInt 0).toInt = 0 := by decide
  have c1_ : (Int32.ofInt 1).toInt = 1 := by decide
  refine pj_Y_X (M := pj_m163) rfl rfl (Nat.le_of_ble_eq_true rfl) ?_
  have hK : pj_kpt ([], [], []) G0 G0 := pj_kpt_r _ _
  show pj_X _ _ G0 0 [(0, .int w), (1, .int j)] [] _
  rw [F_163x_e]
  refine pj_X_of (fun r h => pj_R_to (G0, 3, [(0, .int w), (1, .int j)], [.int (w >>> (j &&& 31))], 0, 0) 3 4 (fun _ => rfl) h) ?_
  obtain ⟨z1, hz1⟩ : ∃ z : Int32, z = w >>> (j &&& 31) := ⟨_, rfl⟩
  rw [← hz1]
  rw [pj_nm_e]
  refine pj_X_of (fun r h => pj_R_to (G0, 5, [(0, .int w), (1, .int j)], [.int (z1 &&& (Int32.ofInt 1))], 0, 0) 5 3 (fun _ => rfl) h) ?_
  obtain ⟨z2, hz2⟩ : ∃ z : Int32, z = z1 &&& (Int32.ofInt 1) := ⟨_, rfl⟩
  rw [← hz2]
  rw [pj_nm_e]
  have fz2_0 : 0 ≤ z2.toInt ∧ z2.toInt ≤ (Int32.ofInt 1).toInt := by rw [hz2]; exact pj_andI (by omega)
  refine pj_X_of (fun r h => pj_R_to (G0, 6, [(0, .int w), (1, .int j)], [.int (Int32.ofInt 1), .int z2], 0, 0) 6 2 (fun _ => rfl) h) ?_
  cases b3 : pj_c1 .ne z2 (Int32.ofInt 1) with
  | true =>
    rw [pj_cT]
    have ub3 := pj_u_neT b3
    refine pj_X_of (fun r h => pj_R_icT 13 rfl rfl b3 h) ?_
    refine pj_X_of (fun r h => pj_R_to (G0, 14, [(0, .int w), (1, .int j)], [.int (Int32.ofInt 0)], 0, 0) 14 2 (fun _ => rfl) h) ?_
    exact pj_X_rt rfl rfl ⟨_, rfl, rfl, ⟨by omega, by omega⟩, rfl⟩
  | false =>
    rw [pj_cF]
    have ub3 := pj_u_neF b3
    refine pj_X_of (fun r h => pj_R_icF rfl b3 h) ?_
    refine pj_X_of (fun r h => pj_R_to (G0, 14, [(0, .int w), (1, .int j)], [.int (Int32.ofInt 1)], 0, 0) 14 3 (fun _ => rfl) h) ?_
    exact pj_X_rt rfl rfl ⟨_, rfl, rfl, ⟨by omega, by omega⟩, rfl⟩
theorem fr_163x (G0 : pj_G) (hI : pj_Inv G0) (w : Int32) (j : Int32) : ((0 : Int) ≤ (F_163x G0 w j).toInt ∧ (F_163x G0 w j).toInt ≤ 1) := by
  obtain ⟨v, G', -, y, -, rfl, r, e⟩ := ct_163x G0 hI w j
  rw [← e]
  exact r
theorem ct_287 (G0 : pj_G) (hI : pj_Inv G0) (w : Int32) : pj_Y 1 287 [.int w] G0 (fun v G' => ∃ y : Int32, v = some (.int y) ∧ G0 = G' ∧ ((-2147483648 : Int) ≤ y.toInt ∧ y.toInt ≤ 2147483647)) := by
  have c0_ : ((Int8.ofInt 16).toInt32).toInt = 16 := by decide
  have c1_ : ((Int8.ofInt 63).toInt32).toInt = 63 := by decide
  have c2_ : ((Int8.ofInt 8).toInt32).toInt = 8 := by decide
  have c3_ : (Int32.ofInt 1).toInt = 1 := by decide
  have c4_ : (Int32.ofInt 1431655765).toInt = 1431655765 := by decide
  have c5_ : (Int32.ofInt 2).toInt = 2 := by decide
  have c6_ : (Int32.ofInt 252645135).toInt = 252645135 := by decide
  have c7_ : (Int32.ofInt 4).toInt = 4 := by decide
  have c8_ : (Int32.ofInt 858993459).toInt = 858993459 := by decide
  refine pj_Y_X (M := pj_m287) rfl rfl (Nat.le_of_ble_eq_true rfl) ?_
  have hK : pj_kpt ([], [], []) G0 G0 := pj_kpt_r _ _
  show pj_X _ _ G0 0 [(0, .int w)] [] _
  refine pj_X_of (fun r h => pj_R_to (G0, 4, [(0, .int w)], [.int ((w.toUInt32 >>> ((Int32.ofInt 1).toUInt32 &&& Int32.toUInt32 31)).toInt32), .int w], 0, 0) 4 5 (fun _ => rfl) h) ?_
  obtain ⟨z1, hz1⟩ : ∃ z : Int32, z = (w.toUInt32 >>> ((Int32.ofInt 1).toUInt32 &&& Int32.toUInt32 31)).toInt32 := ⟨_, rfl⟩
  rw [← hz1]
  refine pj_X_of (fun r h => pj_R_to (G0, 8, [(0, .int w)], [.int (z1 &&& (Int32.ofInt 1431655765)), .int w], 0, 0) 8 3 (fun _ => rfl) h) ?_
  obtain ⟨z2, hz2⟩ : ∃ z : Int32, z = z1 &&& (Int32.ofInt 1431655765) := ⟨_, rfl⟩
  rw [← hz2]
  have fz2_0 : 0 ≤ z2.toInt ∧ z2.toInt ≤ (Int32.ofInt 1431655765).toInt := by rw [hz2]; exact pj_andI (by omega)
  refine pj_X_of (fun r h => pj_R_to (G0, 9, [(0, .int w)], [.int (w - z2)], 0, 0) 9 2 (fun _ => rfl) h) ?_
  obtain ⟨z3, hz3⟩ : ∃ z : Int32, z = w - z2 := ⟨_, rfl⟩
  rw [← hz3]
  refine pj_X_of (fun r h => pj_R_to (G0, 15, [(0, .int z3)], [.int (z3 &&& (Int32.ofInt 858993459))], 0, 0) 15 5 (fun _ => rfl) h) ?_
  obtain ⟨z4, hz4⟩ : ∃ z : Int32, z = z3 &&& (Int32.ofInt 858993459) := ⟨_, rfl⟩
  rw [← hz4]
  have fz4_0 : 0 ≤ z4.toInt ∧ z4.toInt ≤ (Int32.ofInt 858993459).toInt := by rw [hz4]; exact pj_andI (by omega)
  refine pj_X_of (fun r h => pj_R_to (G0, 18, [(0, .int z3)], [.int ((z3.toUInt32 >>> ((Int32.ofInt 2).toUInt32 &&& Int32.toUInt32 31)).toInt32), .int z4], 0, 0) 18 4 (fun _ => rfl) h) ?_
  obtain ⟨z5, hz5⟩ : ∃ z : Int32, z = (z3.toUInt32 >>> ((Int32.ofInt 2).toUInt32 &&& Int32.toUInt32 31)).toInt32 := ⟨_, rfl⟩
  rw [← hz5]
  refine pj_X_of (fun r h => pj_R_to (G0, 22, [(0, .int z3)], [.int (z5 &&& (Int32.ofInt 858993459)), .int z4], 0, 0) 22 3 (fun _ => rfl) h) ?_
  obtain ⟨z6, hz6⟩ : ∃ z : Int32, z = z5 &&& (Int32.ofInt 858993459) := ⟨_, rfl⟩
  rw [← hz6]
  have fz6_0 : 0 ≤ z6.toInt ∧ z6.toInt ≤ (Int32.ofInt 858993459).toInt := by rw [hz6]; exact pj_andI (by omega)
  refine pj_X_of (fun r h => pj_R_to (G0, 23, [(0, .int z3)], [.int (z4 + z6)], 0, 0) 23 2 (fun _ => rfl) h) ?_
  obtain ⟨z7, hz7⟩ : ∃ z : Int32, z = z4 + z6 := ⟨_, rfl⟩
  rw [← hz7]
  have fz7_0 : z7.toInt = z4.toInt + z6.toInt := by rw [hz7]; exact pj_addI (by have := pj_i32 z4; have := pj_i32 z6; omega) (by have := pj_i32 z4; have := pj_i32 z6; omega)
  refine pj_X_of (fun r h => pj_R_to (G0, 28, [(0, .int z7)], [.int ((z7.toUInt32 >>> ((Int32.ofInt 4).toUInt32 &&& Int32.toUInt32 31)).toInt32), .int z7], 0, 0) 28 6 (fun _ => rfl) h) ?_
  obtain ⟨z8, hz8⟩ : ∃ z : Int32, z = (z7.toUInt32 >>> ((Int32.ofInt 4).toUInt32 &&& Int32.toUInt32 31)).toInt32 := ⟨_, rfl⟩
  rw [← hz8]
  refine pj_X_of (fun r h => pj_R_to (G0, 29, [(0, .int z7)], [.int (z7 + z8)], 0, 0) 29 2 (fun _ => rfl) h) ?_
  obtain ⟨z9, hz9⟩ : ∃ z : Int32, z = z7 + z8 := ⟨_, rfl⟩
  rw [← hz9]
  refine pj_X_of (fun r h => pj_R_to (G0, 33, [(0, .int z7)], [.int (z9 &&& (Int32.ofInt 252645135))], 0, 0) 33 3 (fun _ => rfl) h) ?_
  obtain ⟨z10, hz10⟩ : ∃ z : Int32, z = z9 &&& (Int32.ofInt 252645135) := ⟨_, rfl⟩
  rw [← hz10]
  have fz10_0 : 0 ≤ z10.toInt ∧ z10.toInt ≤ (Int32.ofInt 252645135).toInt := by rw [hz10]; exact pj_andI (by omega)
  refine pj_X_of (fun r h => pj_R_to (G0, 39, [(0, .int z10)], [.int ((z10.toUInt32 >>> (((Int8.ofInt 8).toInt32).toUInt32 &&& Int32.toUInt32 31)).toInt32), .int z10], 0, 0) 39 6 (fun _ => rfl) h) ?_
  obtain ⟨z11, hz11⟩ : ∃ z : Int32, z = (z10.toUInt32 >>> (((Int8.ofInt 8).toInt32).toUInt32 &&& Int32.toUInt32 31)).toInt32 := ⟨_, rfl⟩
  rw [← hz11]
  refine pj_X_of (fun r h => pj_R_to (G0, 40, [(0, .int z10)], [.int (z10 + z11)], 0, 0) 40 2 (fun _ => rfl) h) ?_
  obtain ⟨z12, hz12⟩ : ∃ z : Int32, z = z10 + z11 := ⟨_, rfl⟩
  rw [← hz12]
  refine pj_X_of (fun r h => pj_R_to (G0, 46, [(0, .int z12)], [.int ((z12.toUInt32 >>> (((Int8.ofInt 16).toInt32).toUInt32 &&& Int32.toUInt32 31)).toInt32), .int z12], 0, 0) 46 6 (fun _ => rfl) h) ?_
  obtain ⟨z13, hz13⟩ : ∃ z : Int32, z = (z12.toUInt32 >>> (((Int8.ofInt 16).toInt32).toUInt32 &&& Int32.toUInt32 31)).toInt32 := ⟨_, rfl⟩
  rw [← hz13]
  have fz13_0 : 0 ≤ z13.toInt ∧ z13.toInt ≤ 65535 := by rw [hz13]; exact pj_us16
  refine pj_X_of (fun r h => pj_R_to (G0, 47, [(0, .int z12)], [.int (z12 + z13)], 0, 0) 47 2 (fun _ => rfl) h) ?_
  obtain ⟨z14, hz14⟩ : ∃ z : Int32, z = z12 + z13 := ⟨_, rfl⟩
  rw [← hz14]
  refine pj_X_of (fun r h => pj_R_to (G0, 52, [(0, .int z14)], [.int (z14 &&& ((Int8.ofInt 63).toInt32))], 0, 0) 52 5 (fun _ => rfl) h) ?_
  obtain ⟨z15, hz15⟩ : ∃ z : Int32, z = z14 &&& ((Int8.ofInt 63).toInt32) := ⟨_, rfl⟩
  rw [← hz15]
  have fz15_0 : 0 ≤ z15.toInt ∧ z15.toInt ≤ ((Int8.ofInt 63).toInt32).toInt := by rw [hz15]; exact pj_andI (by omega)
  exact pj_X_rt rfl rfl ⟨_, rfl, rfl, pj_i32 _⟩
theorem ct_286 (G0 : pj_G) (hI : pj_Inv G0) (w : Int32) : pj_Y 1 286 [.int w] G0 (fun v G' => ∃ y : Int32, v = some (.int y) ∧ G0 = G' ∧ ((-2147483648 : Int) ≤ y.toInt ∧ y.toInt ≤ 2147483647)) := by
  have c0_ : ((Int16.ofInt 256).toInt32).toInt = 256 := by decide
  have c1_ : ((Int8.ofInt 16).toInt32).toInt = 16 := by decide
  have c2_ : ((Int8.ofInt 32).toInt32).toInt = 32 := by decide
  have c3_ : ((Int8.ofInt 8).toInt32).toInt = 8 := by decide
  have c4_ : (Int32.ofInt (-1)).toInt = -1 := by decide
  have c5_ : (Int32.ofInt 1).toInt = 1 := by decide
  have c6_ : (Int32.ofInt 16).toInt = 16 := by decide
  have c7_ : (Int32.ofInt 2).toInt = 2 := by decide
  have c8_ : (Int32.ofInt 4).toInt = 4 := by decide
  have c9_ : (Int32.ofInt 65536).toInt = 65536 := by decide
  have c10_ : (Int32.ofInt 8).toInt = 8 := by decide
  refine pj_Y_X (M := pj_m286) rfl rfl (Nat.le_of_ble_eq_true rfl) ?_
  have hK : pj_kpt ([], [], []) G0 G0 := pj_kpt_r _ _
  show pj_X _ _ G0 0 [(0, .int w)] [] _
  refine pj_X_of (fun r h => pj_R_to (G0, 3, [(0, .int w)], [.int (w ^^^ (Int32.ofInt (-1)))], 0, 0) 3 4 (fun _ => rfl) h) ?_
  obtain ⟨z1, hz1⟩ : ∃ z : Int32, z = w ^^^ (Int32.ofInt (-1)) := ⟨_, rfl⟩
  rw [← hz1]
  refine pj_X_of (fun r h => pj_R_to (G0, 6, [(0, .int w)], [.int (w - (Int32.ofInt 1)), .int z1], 0, 0) 6 4 (fun _ => rfl) h) ?_
  obtain ⟨z2, hz2⟩ : ∃ z : Int32, z = w - (Int32.ofInt 1) := ⟨_, rfl⟩
  rw [← hz2]
  refine pj_X_of (fun r h => pj_R_to (G0, 7, [(0, .int w)], [.int (z1 &&& z2)], 0, 0) 7 2 (fun _ => rfl) h) ?_
  obtain ⟨z3, hz3⟩ : ∃ z : Int32, z = z1 &&& z2 := ⟨_, rfl⟩
  rw [← hz3]
  refine pj_X_of (fun r h => pj_R_to (G0, 9, [(0, .int z3)], [.int z3], 0, 0) 9 3 (fun _ => rfl) h) ?_
  cases b4 : pj_c1 .gt z3 0 with
  | true =>
    have ub4 := pj_u0_gtT b4
    refine pj_X_of (fun r h => pj_R_ifT 17 rfl rfl b4 h) ?_
    refine pj_X_of (fun r h => pj_R_to (G0, 23, [(1, .int (Int32.ofInt 1)), (0, .int z3)], [.int (Int32.ofInt 65536), .int z3], 0, 0) 23 5 (fun _ => rfl) h) ?_
    cases b5 : pj_c1 .le z3 (Int32.ofInt 65536) with
    | true =>
      have ub5 := pj_u_leT b5
      refine pj_X_of (fun r h => pj_R_icT 34 rfl rfl b5 h) ?_
      refine pj_X_of (fun r h => pj_R_to (G0, 38, [(1, .int (Int32.ofInt 1)), (0, .int z3)], [.int ((Int16.ofInt 256).toInt32), .int z3], 0, 0) 38 3 (fun _ => rfl) h) ?_
      cases b6 : pj_c1 .le z3 ((Int16.ofInt 256).toInt32) with
      | true =>
        have ub6 := pj_u_leT b6
        refine pj_X_of (fun r h => pj_R_icT 49 rfl rfl b6 h) ?_
        refine pj_X_of (fun r h => pj_R_to (G0, 52, [(1, .int (Int32.ofInt 1)), (0, .int z3)], [.int ((Int8.ofInt 16).toInt32), .int z3], 0, 0) 52 3 (fun _ => rfl) h) ?_
        cases b7 : pj_c1 .le z3 ((Int8.ofInt 16).toInt32) with
        | true =>
          have ub7 := pj_u_leT b7
          refine pj_X_of (fun r h => pj_R_icT 62 rfl rfl b7 h) ?_
          refine pj_X_of (fun r h => pj_R_to (G0, 64, [(1, .int (Int32.ofInt 1)), (0, .int z3)], [.int (Int32.ofInt 4), .int z3], 0, 0) 64 3 (fun _ => rfl) h) ?_
          cases b8 : pj_c1 .le z3 (Int32.ofInt 4) with
          | true =>
            have ub8 := pj_u_leT b8
            refine pj_X_of (fun r h => pj_R_icT 74 rfl rfl b8 h) ?_
            refine pj_X_of (fun r h => pj_R_to (G0, 78, [(1, .int (Int32.ofInt 1)), (0, .int z3)], [.int ((z3.toUInt32 >>> ((Int32.ofInt 1).toUInt32 &&& Int32.toUInt32 31)).toInt32), .int (Int32.ofInt 1)], 0, 0) 78 5 (fun _ => rfl) h) ?_
            obtain ⟨z9, hz9⟩ : ∃ z : Int32, z = (z3.toUInt32 >>> ((Int32.ofInt 1).toUInt32 &&& Int32.toUInt32 31)).toInt32 := ⟨_, rfl⟩
            rw [← hz9]
            refine pj_X_of (fun r h => pj_R_to (G0, 79, [(1, .int (Int32.ofInt 1)), (0, .int z3)], [.int ((Int32.ofInt 1) + z9)], 0, 0) 79 2 (fun _ => rfl) h) ?_
            obtain ⟨z10, hz10⟩ : ∃ z : Int32, z = (Int32.ofInt 1) + z9 := ⟨_, rfl⟩
            rw [← hz10]
            exact pj_X_rt rfl rfl ⟨_, rfl, rfl, pj_i32 _⟩
          | false =>
            have ub8 := pj_u_leF b8
            refine pj_X_of (fun r h => pj_R_icF rfl b8 h) ?_
            refine pj_X_of (fun r h => pj_R_to (G0, 70, [(1, .int (Int32.ofInt 1 + Int32.ofInt 2)), (0, .int z3)], [], 0, 0) 70 2 (fun _ => rfl) h) ?_
            obtain ⟨z11, hz11⟩ : ∃ z : Int32, z = Int32.ofInt 1 + Int32.ofInt 2 := ⟨_, rfl⟩
            rw [← hz11]
            have fz11_0 : z11.toInt = (Int32.ofInt 1).toInt + (Int32.ofInt 2).toInt := by rw [hz11]; exact pj_addI (by have := pj_i32 (Int32.ofInt 1); have := pj_i32 (Int32.ofInt 2); omega) (by have := pj_i32 (Int32.ofInt 1); have := pj_i32 (Int32.ofInt 2); omega)
            refine pj_X_of (fun r h => pj_R_to (G0, 73, [(1, .int z11), (0, .int z3)], [.int ((z3.toUInt32 >>> ((Int32.ofInt 2).toUInt32 &&& Int32.toUInt32 31)).toInt32)], 0, 0) 73 4 (fun _ => rfl) h) ?_
            obtain ⟨z12, hz12⟩ : ∃ z : Int32, z = (z3.toUInt32 >>> ((Int32.ofInt 2).toUInt32 &&& Int32.toUInt32 31)).toInt32 := ⟨_, rfl⟩
            rw [← hz12]
            refine pj_X_of (fun r h => pj_R_to (G0, 78, [(0, .int z12), (1, .int z11)], [.int ((z12.toUInt32 >>> ((Int32.ofInt 1).toUInt32 &&& Int32.toUInt32 31)).toInt32), .int z11], 0, 0) 78 6 (fun _ => rfl) h) ?_
            obtain ⟨z13, hz13⟩ : ∃ z : Int32, z = (z12.toUInt32 >>> ((Int32.ofInt 1).toUInt32 &&& Int32.toUInt32 31)).toInt32 := ⟨_, rfl⟩
            rw [← hz13]
            refine pj_X_of (fun r h => pj_R_to (G0, 79, [(0, .int z12), (1, .int z11)], [.int (z11 + z13)], 0, 0) 79 2 (fun _ => rfl) h) ?_
            obtain ⟨z14, hz14⟩ : ∃ z : Int32, z = z11 + z13 := ⟨_, rfl⟩
            rw [← hz14]
            exact pj_X_rt rfl rfl ⟨_, rfl, rfl, pj_i32 _⟩
        | false =>
          have ub7 := pj_u_leF b7
          refine pj_X_of (fun r h => pj_R_icF rfl b7 h) ?_
          refine pj_X_of (fun r h => pj_R_to (G0, 58, [(1, .int (Int32.ofInt 1 + Int32.ofInt 4)), (0, .int z3)], [], 0, 0) 58 2 (fun _ => rfl) h) ?_
          obtain ⟨z15, hz15⟩ : ∃ z : Int32, z = Int32.ofInt 1 + Int32.ofInt 4 := ⟨_, rfl⟩
          rw [← hz15]
          have fz15_0 : z15.toInt = (Int32.ofInt 1).toInt + (Int32.ofInt 4).toInt := by rw [hz15]; exact pj_addI (by have := pj_i32 (Int32.ofInt 1); have := pj_i32 (Int32.ofInt 4); omega) (by have := pj_i32 (Int32.ofInt 1); have := pj_i32 (Int32.ofInt 4); omega)
          refine pj_X_of (fun r h => pj_R_to (G0, 61, [(1, .int z15), (0, .int z3)], [.int ((z3.toUInt32 >>> ((Int32.ofInt 4).toUInt32 &&& Int32.toUInt32 31)).toInt32)], 0, 0) 61 4 (fun _ => rfl) h) ?_
          obtain ⟨z16, hz16⟩ : ∃ z : Int32, z = (z3.toUInt32 >>> ((Int32.ofInt 4).toUInt32 &&& Int32.toUInt32 31)).toInt32 := ⟨_, rfl⟩
          rw [← hz16]
          refine pj_X_of (fun r h => pj_R_to (G0, 64, [(0, .int z16), (1, .int z15)], [.int (Int32.ofInt 4), .int z16], 0, 0) 64 4 (fun _ => rfl) h) ?_
          cases b17 : pj_c1 .le z16 (Int32.ofInt 4) with
          | true =>
            have ub17 := pj_u_leT b17
            refine pj_X_of (fun r h => pj_R_icT 74 rfl rfl b17 h) ?_
            refine pj_X_of (fun r h => pj_R_to (G0, 78, [(0, .int z16), (1, .int z15)], [.int ((z16.toUInt32 >>> ((Int32.ofInt 1).toUInt32 &&& Int32.toUInt32 31)).toInt32), .int z15], 0, 0) 78 5 (fun _ => rfl) h) ?_
            obtain ⟨z18, hz18⟩ : ∃ z : Int32, z = (z16.toUInt32 >>> ((Int32.ofInt 1).toUInt32 &&& Int32.toUInt32 31)).toInt32 := ⟨_, rfl⟩
            rw [← hz18]
            refine pj_X_of (fun r h => pj_R_to (G0, 79, [(0, .int z16), (1, .int z15)], [.int (z15 + z18)], 0, 0) 79 2 (fun _ => rfl) h) ?_
            obtain ⟨z19, hz19⟩ : ∃ z : Int32, z = z15 + z18 := ⟨_, rfl⟩
            rw [← hz19]
            exact pj_X_rt rfl rfl ⟨_, rfl, rfl, pj_i32 _⟩
          | false =>
            have ub17 := pj_u_leF b17
            refine pj_X_of (fun r h => pj_R_icF rfl b17 h) ?_
            refine pj_X_of (fun r h => pj_R_to (G0, 70, [(1, .int (z15 + Int32.ofInt 2)), (0, .int z16)], [], 0, 0) 70 2 (fun _ => rfl) h) ?_
            obtain ⟨z20, hz20⟩ : ∃ z : Int32, z = z15 + Int32.ofInt 2 := ⟨_, rfl⟩
            rw [← hz20]
            have fz20_0 : z20.toInt = z15.toInt + (Int32.ofInt 2).toInt := by rw [hz20]; exact pj_addI (by have := pj_i32 z15; have := pj_i32 (Int32.ofInt 2); omega) (by have := pj_i32 z15; have := pj_i32 (Int32.ofInt 2); omega)
            refine pj_X_of (fun r h => pj_R_to (G0, 73, [(1, .int z20), (0, .int z16)], [.int ((z16.toUInt32 >>> ((Int32.ofInt 2).toUInt32 &&& Int32.toUInt32 31)).toInt32)], 0, 0) 73 4 (fun _ => rfl) h) ?_
            obtain ⟨z21, hz21⟩ : ∃ z : Int32, z = (z16.toUInt32 >>> ((Int32.ofInt 2).toUInt32 &&& Int32.toUInt32 31)).toInt32 := ⟨_, rfl⟩
            rw [← hz21]
            refine pj_X_of (fun r h => pj_R_to (G0, 78, [(0, .int z21), (1, .int z20)], [.int ((z21.toUInt32 >>> ((Int32.ofInt 1).toUInt32 &&& Int32.toUInt32 31)).toInt32), .int z20], 0, 0) 78 6 (fun _ => rfl) h) ?_
            obtain ⟨z22, hz22⟩ : ∃ z : Int32, z = (z21.toUInt32 >>> ((Int32.ofInt 1).toUInt32 &&& Int32.toUInt32 31)).toInt32 := ⟨_, rfl⟩
            rw [← hz22]
            refine pj_X_of (fun r h => pj_R_to (G0, 79, [(0, .int z21), (1, .int z20)], [.int (z20 + z22)], 0, 0) 79 2 (fun _ => rfl) h) ?_
            obtain ⟨z23, hz23⟩ : ∃ z : Int32, z = z20 + z22 := ⟨_, rfl⟩
            rw [← hz23]
            exact pj_X_rt rfl rfl ⟨_, rfl, rfl, pj_i32 _⟩
      | false =>
        have ub6 := pj_u_leF b6
        refine pj_X_of (fun r h => pj_R_icF rfl b6 h) ?_
        refine pj_X_of (fun r h => pj_R_to (G0, 44, [(1, .int (Int32.ofInt 1 + Int32.ofInt 8)), (0, .int z3)], [], 0, 0) 44 2 (fun _ => rfl) h) ?_
        obtain ⟨z24, hz24⟩ : ∃ z : Int32, z = Int32.ofInt 1 + Int32.ofInt 8 := ⟨_, rfl⟩
        rw [← hz24]
        have fz24_0 : z24.toInt = (Int32.ofInt 1).toInt + (Int32.ofInt 8).toInt := by rw [hz24]; exact pj_addI (by have := pj_i32 (Int32.ofInt 1); have := pj_i32 (Int32.ofInt 8); omega) (by have := pj_i32 (Int32.ofInt 1); have := pj_i32 (Int32.ofInt 8); omega)
        refine pj_X_of (fun r h => pj_R_to (G0, 48, [(1, .int z24), (0, .int z3)], [.int ((z3.toUInt32 >>> (((Int8.ofInt 8).toInt32).toUInt32 &&& Int32.toUInt32 31)).toInt32)], 0, 0) 48 4 (fun _ => rfl) h) ?_
        obtain ⟨z25, hz25⟩ : ∃ z : Int32, z = (z3.toUInt32 >>> (((Int8.ofInt 8).toInt32).toUInt32 &&& Int32.toUInt32 31)).toInt32 := ⟨_, rfl⟩
        rw [← hz25]
        refine pj_X_of (fun r h => pj_R_to (G0, 52, [(0, .int z25), (1, .int z24)], [.int ((Int8.ofInt 16).toInt32), .int z25], 0, 0) 52 4 (fun _ => rfl) h) ?_
        cases b26 : pj_c1 .le z25 ((Int8.ofInt 16).toInt32) with
        | true =>
          have ub26 := pj_u_leT b26
          refine pj_X_of (fun r h => pj_R_icT 62 rfl rfl b26 h) ?_
          refine pj_X_of (fun r h => pj_R_to (G0, 64, [(0, .int z25), (1, .int z24)], [.int (Int32.ofInt 4), .int z25], 0, 0) 64 3 (fun _ => rfl) h) ?_
          cases b27 : pj_c1 .le z25 (Int32.ofInt 4) with
          | true =>
            have ub27 := pj_u_leT b27
            refine pj_X_of (fun r h => pj_R_icT 74 rfl rfl b27 h) ?_
            refine pj_X_of (fun r h => pj_R_to (G0, 78, [(0, .int z25), (1, .int z24)], [.int ((z25.toUInt32 >>> ((Int32.ofInt 1).toUInt32 &&& Int32.toUInt32 31)).toInt32), .int z24], 0, 0) 78 5 (fun _ => rfl) h) ?_
            obtain ⟨z28, hz28⟩ : ∃ z : Int32, z = (z25.toUInt32 >>> ((Int32.ofInt 1).toUInt32 &&& Int32.toUInt32 31)).toInt32 := ⟨_, rfl⟩
            rw [← hz28]
            refine pj_X_of (fun r h => pj_R_to (G0, 79, [(0, .int z25), (1, .int z24)], [.int (z24 + z28)], 0, 0) 79 2 (fun _ => rfl) h) ?_
            obtain ⟨z29, hz29⟩ : ∃ z : Int32, z = z24 + z28 := ⟨_, rfl⟩
            rw [← hz29]
            exact pj_X_rt rfl rfl ⟨_, rfl, rfl, pj_i32 _⟩
          | false =>
            have ub27 := pj_u_leF b27
            refine pj_X_of (fun r h => pj_R_icF rfl b27 h) ?_
            refine pj_X_of (fun r h => pj_R_to (G0, 70, [(1, .int (z24 + Int32.ofInt 2)), (0, .int z25)], [], 0, 0) 70 2 (fun _ => rfl) h) ?_
            obtain ⟨z30, hz30⟩ : ∃ z : Int32, z = z24 + Int32.ofInt 2 := ⟨_, rfl⟩
            rw [← hz30]
            have fz30_0 : z30.toInt = z24.toInt + (Int32.ofInt 2).toInt := by rw [hz30]; exact pj_addI (by have := pj_i32 z24; have := pj_i32 (Int32.ofInt 2); omega) (by have := pj_i32 z24; have := pj_i32 (Int32.ofInt 2); omega)
            refine pj_X_of (fun r h => pj_R_to (G0, 73, [(1, .int z30), (0, .int z25)], [.int ((z25.toUInt32 >>> ((Int32.ofInt 2).toUInt32 &&& Int32.toUInt32 31)).toInt32)], 0, 0) 73 4 (fun _ => rfl) h) ?_
            obtain ⟨z31, hz31⟩ : ∃ z : Int32, z = (z25.toUInt32 >>> ((Int32.ofInt 2).toUInt32 &&& Int32.toUInt32 31)).toInt32 := ⟨_, rfl⟩
            rw [← hz31]
            refine pj_X_of (fun r h => pj_R_to (G0, 78, [(0, .int z31), (1, .int z30)], [.int ((z31.toUInt32 >>> ((Int32.ofInt 1).toUInt32 &&& Int32.toUInt32 31)).toInt32), .int z30], 0, 0) 78 6 (fun _ => rfl) h) ?_
            obtain ⟨z32, hz32⟩ : ∃ z : Int32, z = (z31.toUInt32 >>> ((Int32.ofInt 1).toUInt32 &&& Int32.toUInt32 31)).toInt32 := ⟨_, rfl⟩
            rw [← hz32]
            refine pj_X_of (fun r h => pj_R_to (G0, 79, [(0, .int z31), (1, .int z30)], [.int (z30 + z32)], 0, 0) 79 2 (fun _ => rfl) h) ?_
            obtain ⟨z33, hz33⟩ : ∃ z : Int32, z = z30 + z32 := ⟨_, rfl⟩
            rw [← hz33]
            exact pj_X_rt rfl rfl ⟨_, rfl, rfl, pj_i32 _⟩
        | false =>
          have ub26 := pj_u_leF b26
          refine pj_X_of (fun r h => pj_R_icF rfl b26 h) ?_
          refine pj_X_of (fun r h => pj_R_to (G0, 58, [(1, .int (z24 + Int32.ofInt 4)), (0, .int z25)], [], 0, 0) 58 2 (fun _ => rfl) h) ?_
          obtain ⟨z34, hz34⟩ : ∃ z : Int32, z = z24 + Int32.ofInt 4 := ⟨_, rfl⟩
          rw [← hz34]
          have fz34_0 : z34.toInt = z24.toInt + (Int32.ofInt 4).toInt := by rw [hz34]; exact pj_addI (by have := pj_i32 z24; have := pj_i32 (Int32.ofInt 4); omega) (by have := pj_i32 z24; have := pj_i32 (Int32.ofInt 4); omega)
          refine pj_X_of (fun r h => pj_R_to (G0, 61, [(1, .int z34), (0, .int z25)], [.int ((z25.toUInt32 >>> ((Int32.ofInt 4).toUInt32 &&& Int32.toUInt32 31)).toInt32)], 0, 0) 61 4 (fun _ => rfl) h) ?_
          obtain ⟨z35, hz35⟩ : ∃ z : Int32, z = (z25.toUInt32 >>> ((Int32.ofInt 4).toUInt32 &&& Int32.toUInt32 31)).toInt32 := ⟨_, rfl⟩
          rw [← hz35]
          refine pj_X_of (fun r h => pj_R_to (G0, 64, [(0, .int z35), (1, .int z34)], [.int (Int32.ofInt 4), .int z35], 0, 0) 64 4 (fun _ => rfl) h) ?_
          cases b36 : pj_c1 .le z35 (Int32.ofInt 4) with
          | true =>
            have ub36 := pj_u_leT b36
            refine pj_X_of (fun r h => pj_R_icT 74 rfl rfl b36 h) ?_
            refine pj_X_of (fun r h => pj_R_to (G0, 78, [(0, .int z35), (1, .int z34)], [.int ((z35.toUInt32 >>> ((Int32.ofInt 1).toUInt32 &&& Int32.toUInt32 31)).toInt32), .int z34], 0, 0) 78 5 (fun _ => rfl) h) ?_
            obtain ⟨z37, hz37⟩ : ∃ z : Int32, z = (z35.toUInt32 >>> ((Int32.ofInt 1).toUInt32 &&& Int32.toUInt32 31)).toInt32 := ⟨_, rfl⟩
            rw [← hz37]
            refine pj_X_of (fun r h => pj_R_to (G0, 79, [(0, .int z35), (1, .int z34)], [.int (z34 + z37)], 0, 0) 79 2 (fun _ => rfl) h) ?_
            obtain ⟨z38, hz38⟩ : ∃ z : Int32, z = z34 + z37 := ⟨_, rfl⟩
            rw [← hz38]
            exact pj_X_rt rfl rfl ⟨_, rfl, rfl, pj_i32 _⟩
          | false =>
            have ub36 := pj_u_leF b36
            refine pj_X_of (fun r h => pj_R_icF rfl b36 h) ?_
            refine pj_X_of (fun r h => pj_R_to (G0, 70, [(1, .int (z34 + Int32.ofInt 2)), (0, .int z35)], [], 0, 0) 70 2 (fun _ => rfl) h) ?_
            obtain ⟨z39, hz39⟩ : ∃ z : Int32, z = z34 + Int32.ofInt 2 := ⟨_, rfl⟩
            rw [← hz39]
            have fz39_0 : z39.toInt = z34.toInt + (Int32.ofInt 2).toInt := by rw [hz39]; exact pj_addI (by have := pj_i32 z34; have := pj_i32 (Int32.ofInt 2); omega) (by have := pj_i32 z34; have := pj_i32 (Int32.ofInt 2); omega)
            refine pj_X_of (fun r h => pj_R_to (G0, 73, [(1, .int z39), (0, .int z35)], [.int ((z35.toUInt32 >>> ((Int32.ofInt 2).toUInt32 &&& Int32.toUInt32 31)).toInt32)], 0, 0) 73 4 (fun _ => rfl) h) ?_
            obtain ⟨z40, hz40⟩ : ∃ z : Int32, z = (z35.toUInt32 >>> ((Int32.ofInt 2).toUInt32 &&& Int32.toUInt32 31)).toInt32 := ⟨_, rfl⟩
            rw [← hz40]
            refine pj_X_of (fun r h => pj_R_to (G0, 78, [(0, .int z40), (1, .int z39)], [.int ((z40.toUInt32 >>> ((Int32.ofInt 1).toUInt32 &&& Int32.toUInt32 31)).toInt32), .int z39], 0, 0) 78 6 (fun _ => rfl) h) ?_
            obtain ⟨z41, hz41⟩ : ∃ z : Int32, z = (z40.toUInt32 >>> ((Int32.ofInt 1).toUInt32 &&& Int32.toUInt32 31)).toInt32 := ⟨_, rfl⟩
            rw [← hz41]
            refine pj_X_of (fun r h => pj_R_to (G0, 79, [(0, .int z40), (1, .int z39)], [.int (z39 + z41)], 0, 0) 79 2 (fun _ => rfl) h) ?_
            obtain ⟨z42, hz42⟩ : ∃ z : Int32, z = z39 + z41 := ⟨_, rfl⟩
            rw [← hz42]
            exact pj_X_rt rfl rfl ⟨_, rfl, rfl, pj_i32 _⟩
    | false =>
      have ub5 := pj_u_leF b5
      refine pj_X_of (fun r h => pj_R_icF rfl b5 h) ?_
      refine pj_X_of (fun r h => pj_R_to (G0, 29, [(1, .int (Int32.ofInt 1 + Int32.ofInt 16)), (0, .int z3)], [], 0, 0) 29 2 (fun _ => rfl) h) ?_
      obtain ⟨z43, hz43⟩ : ∃ z : Int32, z = Int32.ofInt 1 + Int32.ofInt 16 := ⟨_, rfl⟩
      rw [← hz43]
      have fz43_0 : z43.toInt = (Int32.ofInt 1).toInt + (Int32.ofInt 16).toInt := by rw [hz43]; exact pj_addI (by have := pj_i32 (Int32.ofInt 1); have := pj_i32 (Int32.ofInt 16); omega) (by have := pj_i32 (Int32.ofInt 1); have := pj_i32 (Int32.ofInt 16); omega)
      refine pj_X_of (fun r h => pj_R_to (G0, 33, [(1, .int z43), (0, .int z3)], [.int ((z3.toUInt32 >>> (((Int8.ofInt 16).toInt32).toUInt32 &&& Int32.toUInt32 31)).toInt32)], 0, 0) 33 4 (fun _ => rfl) h) ?_
      obtain ⟨z44, hz44⟩ : ∃ z : Int32, z = (z3.toUInt32 >>> (((Int8.ofInt 16).toInt32).toUInt32 &&& Int32.toUInt32 31)).toInt32 := ⟨_, rfl⟩
      rw [← hz44]
      have fz44_0 : 0 ≤ z44.toInt ∧ z44.toInt ≤ 65535 := by rw [hz44]; exact pj_us16
      refine pj_X_of (fun r h => pj_R_to (G0, 38, [(0, .int z44), (1, .int z43)], [.int ((Int16.ofInt 256).toInt32), .int z44], 0, 0) 38 4 (fun _ => rfl) h) ?_
      cases b45 : pj_c1 .le z44 ((Int16.ofInt 256).toInt32) with
      | true =>
        have ub45 := pj_u_leT b45
        refine pj_X_of (fun r h => pj_R_icT 49 rfl rfl b45 h) ?_
        refine pj_X_of (fun r h => pj_R_to (G0, 52, [(0, .int z44), (1, .int z43)], [.int ((Int8.ofInt 16).toInt32), .int z44], 0, 0) 52 3 (fun _ => rfl) h) ?_
        cases b46 : pj_c1 .le z44 ((Int8.ofInt 16).toInt32) with
        | true =>
          have ub46 := pj_u_leT b46
          refine pj_X_of (fun r h => pj_R_icT 62 rfl rfl b46 h) ?_
          refine pj_X_of (fun r h => pj_R_to (G0, 64, [(0, .int z44), (1, .int z43)], [.int (Int32.ofInt 4), .int z44], 0, 0) 64 3 (fun _ => rfl) h) ?_
          cases b47 : pj_c1 .le z44 (Int32.ofInt 4) with
          | true =>
            have ub47 := pj_u_leT b47
            refine pj_X_of (fun r h => pj_R_icT 74 rfl rfl b47 h) ?_
            refine pj_X_of (fun r h => pj_R_to (G0, 78, [(0, .int z44), (1, .int z43)], [.int ((z44.toUInt32 >>> ((Int32.ofInt 1).toUInt32 &&& Int32.toUInt32 31)).toInt32), .int z43], 0, 0) 78 5 (fun _ => rfl) h) ?_
            obtain ⟨z48, hz48⟩ : ∃ z : Int32, z = (z44.toUInt32 >>> ((Int32.ofInt 1).toUInt32 &&& Int32.toUInt32 31)).toInt32 := ⟨_, rfl⟩
            rw [← hz48]
            refine pj_X_of (fun r h => pj_R_to (G0, 79, [(0, .int z44), (1, .int z43)], [.int (z43 + z48)], 0, 0) 79 2 (fun _ => rfl) h) ?_
            obtain ⟨z49, hz49⟩ : ∃ z : Int32, z = z43 + z48 := ⟨_, rfl⟩
            rw [← hz49]
            exact pj_X_rt rfl rfl ⟨_, rfl, rfl, pj_i32 _⟩
          | false =>
            have ub47 := pj_u_leF b47
            refine pj_X_of (fun r h => pj_R_icF rfl b47 h) ?_
            refine pj_X_of (fun r h => pj_R_to (G0, 70, [(1, .int (z43 + Int32.ofInt 2)), (0, .int z44)], [], 0, 0) 70 2 (fun _ => rfl) h) ?_
            obtain ⟨z50, hz50⟩ : ∃ z : Int32, z = z43 + Int32.ofInt 2 := ⟨_, rfl⟩
            rw [← hz50]
            have fz50_0 : z50.toInt = z43.toInt + (Int32.ofInt 2).toInt := by rw [hz50]; exact pj_addI (by have := pj_i32 z43; have := pj_i32 (Int32.ofInt 2); omega) (by have := pj_i32 z43; have := pj_i32 (Int32.ofInt 2); omega)
            refine pj_X_of (fun r h => pj_R_to (G0, 73, [(1, .int z50), (0, .int z44)], [.int ((z44.toUInt32 >>> ((Int32.ofInt 2).toUInt32 &&& Int32.toUInt32 31)).toInt32)], 0, 0) 73 4 (fun _ => rfl) h) ?_
            obtain ⟨z51, hz51⟩ : ∃ z : Int32, z = (z44.toUInt32 >>> ((Int32.ofInt 2).toUInt32 &&& Int32.toUInt32 31)).toInt32 := ⟨_, rfl⟩
            rw [← hz51]
            refine pj_X_of (fun r h => pj_R_to (G0, 78, [(0, .int z51), (1, .int z50)], [.int ((z51.toUInt32 >>> ((Int32.ofInt 1).toUInt32 &&& Int32.toUInt32 31)).toInt32), .int z50], 0, 0) 78 6 (fun _ => rfl) h) ?_
            obtain ⟨z52, hz52⟩ : ∃ z : Int32, z = (z51.toUInt32 >>> ((Int32.ofInt 1).toUInt32 &&& Int32.toUInt32 31)).toInt32 := ⟨_, rfl⟩
            rw [← hz52]
            refine pj_X_of (fun r h => pj_R_to (G0, 79, [(0, .int z51), (1, .int z50)], [.int (z50 + z52)], 0, 0) 79 2 (fun _ => rfl) h) ?_
            obtain ⟨z53, hz53⟩ : ∃ z : Int32, z = z50 + z52 := ⟨_, rfl⟩
            rw [← hz53]
            exact pj_X_rt rfl rfl ⟨_, rfl, rfl, pj_i32 _⟩
        | false =>
          have ub46 := pj_u_leF b46
          refine pj_X_of (fun r h => pj_R_icF rfl b46 h) ?_
          refine pj_X_of (fun r h => pj_R_to (G0, 58, [(1, .int (z43 + Int32.ofInt 4)), (0, .int z44)], [], 0, 0) 58 2 (fun _ => rfl) h) ?_
          obtain ⟨z54, hz54⟩ : ∃ z : Int32, z = z43 + Int32.ofInt 4 := ⟨_, rfl⟩
          rw [← hz54]
          have fz54_0 : z54.toInt = z43.toInt + (Int32.ofInt 4).toInt := by rw [hz54]; exact pj_addI (by have := pj_i32 z43; have := pj_i32 (Int32.ofInt 4); omega) (by have := pj_i32 z43; have := pj_i32 (Int32.ofInt 4); omega)
          refine pj_X_of (fun r h => pj_R_to (G0, 61, [(1, .int z54), (0, .int z44)], [.int ((z44.toUInt32 >>> ((Int32.ofInt 4).toUInt32 &&& Int32.toUInt32 31)).toInt32)], 0, 0) 61 4 (fun _ => rfl) h) ?_
          obtain ⟨z55, hz55⟩ : ∃ z : Int32, z = (z44.toUInt32 >>> ((Int32.ofInt 4).toUInt32 &&& Int32.toUInt32 31)).toInt32 := ⟨_, rfl⟩
          rw [← hz55]
          refine pj_X_of (fun r h => pj_R_to (G0, 64, [(0, .int z55), (1, .int z54)], [.int (Int32.ofInt 4), .int z55], 0, 0) 64 4 (fun _ => rfl) h) ?_
          cases b56 : pj_c1 .le z55 (Int32.ofInt 4) with
          | true =>
            have ub56 := pj_u_leT b56
            refine pj_X_of (fun r h => pj_R_icT 74 rfl rfl b56 h) ?_
            refine pj_X_of (fun r h => pj_R_to (G0, 78, [(0, .int z55), (1, .int z54)], [.int ((z55.toUInt32 >>> ((Int32.ofInt 1).toUInt32 &&& Int32.toUInt32 31)).toInt32), .int z54], 0, 0) 78 5 (fun _ => rfl) h) ?_
            obtain ⟨z57, hz57⟩ : ∃ z : Int32, z = (z55.toUInt32 >>> ((Int32.ofInt 1).toUInt32 &&& Int32.toUInt32 31)).toInt32 := ⟨_, rfl⟩
            rw [← hz57]
            refine pj_X_of (fun r h => pj_R_to (G0, 79, [(0, .int z55), (1, .int z54)], [.int (z54 + z57)], 0, 0) 79 2 (fun _ => rfl) h) ?_
            obtain ⟨z58, hz58⟩ : ∃ z : Int32, z = z54 + z57 := ⟨_, rfl⟩
            rw [← hz58]
            exact pj_X_rt rfl rfl ⟨_, rfl, rfl, pj_i32 _⟩
          | false =>
            have ub56 := pj_u_leF b56
            refine pj_X_of (fun r h => pj_R_icF rfl b56 h) ?_
            refine pj_X_of (fun r h => pj_R_to (G0, 70, [(1, .int (z54 + Int32.ofInt 2)), (0, .int z55)], [], 0, 0) 70 2 (fun _ => rfl) h) ?_
            obtain ⟨z59, hz59⟩ : ∃ z : Int32, z = z54 + Int32.ofInt 2 := ⟨_, rfl⟩
            rw [← hz59]
            have fz59_0 : z59.toInt = z54.toInt + (Int32.ofInt 2).toInt := by rw [hz59]; exact pj_addI (by have := pj_i32 z54; have := pj_i32 (Int32.ofInt 2); omega) (by have := pj_i32 z54; have := pj_i32 (Int32.ofInt 2); omega)
            refine pj_X_of (fun r h => pj_R_to (G0, 73, [(1, .int z59), (0, .int z55)], [.int ((z55.toUInt32 >>> ((Int32.ofInt 2).toUInt32 &&& Int32.toUInt32 31)).toInt32)], 0, 0) 73 4 (fun _ => rfl) h) ?_
            obtain ⟨z60, hz60⟩ : ∃ z : Int32, z = (z55.toUInt32 >>> ((Int32.ofInt 2).toUInt32 &&& Int32.toUInt32 31)).toInt32 := ⟨_, rfl⟩
            rw [← hz60]
            refine pj_X_of (fun r h => pj_R_to (G0, 78, [(0, .int z60), (1, .int z59)], [.int ((z60.toUInt32 >>> ((Int32.ofInt 1).toUInt32 &&& Int32.toUInt32 31)).toInt32), .int z59], 0, 0) 78 6 (fun _ => rfl) h) ?_
            obtain ⟨z61, hz61⟩ : ∃ z : Int32, z = (z60.toUInt32 >>> ((Int32.ofInt 1).toUInt32 &&& Int32.toUInt32 31)).toInt32 := ⟨_, rfl⟩
            rw [← hz61]
            refine pj_X_of (fun r h => pj_R_to (G0, 79, [(0, .int z60), (1, .int z59)], [.int (z59 + z61)], 0, 0) 79 2 (fun _ => rfl) h) ?_
            obtain ⟨z62, hz62⟩ : ∃ z : Int32, z = z59 + z61 := ⟨_, rfl⟩
            rw [← hz62]
            exact pj_X_rt rfl rfl ⟨_, rfl, rfl, pj_i32 _⟩
      | false =>
        have ub45 := pj_u_leF b45
        refine pj_X_of (fun r h => pj_R_icF rfl b45 h) ?_
        refine pj_X_of (fun r h => pj_R_to (G0, 44, [(1, .int (z43 + Int32.ofInt 8)), (0, .int z44)], [], 0, 0) 44 2 (fun _ => rfl) h) ?_
        obtain ⟨z63, hz63⟩ : ∃ z : Int32, z = z43 + Int32.ofInt 8 := ⟨_, rfl⟩
        rw [← hz63]
        have fz63_0 : z63.toInt = z43.toInt + (Int32.ofInt 8).toInt := by rw [hz63]; exact pj_addI (by have := pj_i32 z43; have := pj_i32 (Int32.ofInt 8); omega) (by have := pj_i32 z43; have := pj_i32 (Int32.ofInt 8); omega)
        refine pj_X_of (fun r h => pj_R_to (G0, 48, [(1, .int z63), (0, .int z44)], [.int ((z44.toUInt32 >>> (((Int8.ofInt 8).toInt32).toUInt32 &&& Int32.toUInt32 31)).toInt32)], 0, 0) 48 4 (fun _ => rfl) h) ?_
        obtain ⟨z64, hz64⟩ : ∃ z : Int32, z = (z44.toUInt32 >>> (((Int8.ofInt 8).toInt32).toUInt32 &&& Int32.toUInt32 31)).toInt32 := ⟨_, rfl⟩
        rw [← hz64]
        refine pj_X_of (fun r h => pj_R_to (G0, 52, [(0, .int z64), (1, .int z63)], [.int ((Int8.ofInt 16).toInt32), .int z64], 0, 0) 52 4 (fun _ => rfl) h) ?_
        cases b65 : pj_c1 .le z64 ((Int8.ofInt 16).toInt32) with
        | true =>
          have ub65 := pj_u_leT b65
          refine pj_X_of (fun r h => pj_R_icT 62 rfl rfl b65 h) ?_
          refine pj_X_of (fun r h => pj_R_to (G0, 64, [(0, .int z64), (1, .int z63)], [.int (Int32.ofInt 4), .int z64], 0, 0) 64 3 (fun _ => rfl) h) ?_
          cases b66 : pj_c1 .le z64 (Int32.ofInt 4) with
          | true =>
            have ub66 := pj_u_leT b66
            refine pj_X_of (fun r h => pj_R_icT 74 rfl rfl b66 h) ?_
            refine pj_X_of (fun r h => pj_R_to (G0, 78, [(0, .int z64), (1, .int z63)], [.int ((z64.toUInt32 >>> ((Int32.ofInt 1).toUInt32 &&& Int32.toUInt32 31)).toInt32), .int z63], 0, 0) 78 5 (fun _ => rfl) h) ?_
            obtain ⟨z67, hz67⟩ : ∃ z : Int32, z = (z64.toUInt32 >>> ((Int32.ofInt 1).toUInt32 &&& Int32.toUInt32 31)).toInt32 := ⟨_, rfl⟩
            rw [← hz67]
            refine pj_X_of (fun r h => pj_R_to (G0, 79, [(0, .int z64), (1, .int z63)], [.int (z63 + z67)], 0, 0) 79 2 (fun _ => rfl) h) ?_
            obtain ⟨z68, hz68⟩ : ∃ z : Int32, z = z63 + z67 := ⟨_, rfl⟩
            rw [← hz68]
            exact pj_X_rt rfl rfl ⟨_, rfl, rfl, pj_i32 _⟩
          | false =>
            have ub66 := pj_u_leF b66
            refine pj_X_of (fun r h => pj_R_icF rfl b66 h) ?_
            refine pj_X_of (fun r h => pj_R_to (G0, 70, [(1, .int (z63 + Int32.ofInt 2)), (0, .int z64)], [], 0, 0) 70 2 (fun _ => rfl) h) ?_
            obtain ⟨z69, hz69⟩ : ∃ z : Int32, z = z63 + Int32.ofInt 2 := ⟨_, rfl⟩
            rw [← hz69]
            have fz69_0 : z69.toInt = z63.toInt + (Int32.ofInt 2).toInt := by rw [hz69]; exact pj_addI (by have := pj_i32 z63; have := pj_i32 (Int32.ofInt 2); omega) (by have := pj_i32 z63; have := pj_i32 (Int32.ofInt 2); omega)
            refine pj_X_of (fun r h => pj_R_to (G0, 73, [(1, .int z69), (0, .int z64)], [.int ((z64.toUInt32 >>> ((Int32.ofInt 2).toUInt32 &&& Int32.toUInt32 31)).toInt32)], 0, 0) 73 4 (fun _ => rfl) h) ?_
            obtain ⟨z70, hz70⟩ : ∃ z : Int32, z = (z64.toUInt32 >>> ((Int32.ofInt 2).toUInt32 &&& Int32.toUInt32 31)).toInt32 := ⟨_, rfl⟩
            rw [← hz70]
            refine pj_X_of (fun r h => pj_R_to (G0, 78, [(0, .int z70), (1, .int z69)], [.int ((z70.toUInt32 >>> ((Int32.ofInt 1).toUInt32 &&& Int32.toUInt32 31)).toInt32), .int z69], 0, 0) 78 6 (fun _ => rfl) h) ?_
            obtain ⟨z71, hz71⟩ : ∃ z : Int32, z = (z70.toUInt32 >>> ((Int32.ofInt 1).toUInt32 &&& Int32.toUInt32 31)).toInt32 := ⟨_, rfl⟩
            rw [← hz71]
            refine pj_X_of (fun r h => pj_R_to (G0, 79, [(0, .int z70), (1, .int z69)], [.int (z69 + z71)], 0, 0) 79 2 (fun _ => rfl) h) ?_
            obtain ⟨z72, hz72⟩ : ∃ z : Int32, z = z69 + z71 := ⟨_, rfl⟩
            rw [← hz72]
            exact pj_X_rt rfl rfl ⟨_, rfl, rfl, pj_i32 _⟩
        | false =>
          have ub65 := pj_u_leF b65
          refine pj_X_of (fun r h => pj_R_icF rfl b65 h) ?_
          refine pj_X_of (fun r h => pj_R_to (G0, 58, [(1, .int (z63 + Int32.ofInt 4)), (0, .int z64)], [], 0, 0) 58 2 (fun _ => rfl) h) ?_
          obtain ⟨z73, hz73⟩ : ∃ z : Int32, z = z63 + Int32.ofInt 4 := ⟨_, rfl⟩
          rw [← hz73]
          have fz73_0 : z73.toInt = z63.toInt + (Int32.ofInt 4).toInt := by rw [hz73]; exact pj_addI (by have := pj_i32 z63; have := pj_i32 (Int32.ofInt 4); omega) (by have := pj_i32 z63; have := pj_i32 (Int32.ofInt 4); omega)
          refine pj_X_of (fun r h => pj_R_to (G0, 61, [(1, .int z73), (0, .int z64)], [.int ((z64.toUInt32 >>> ((Int32.ofInt 4).toUInt32 &&& Int32.toUInt32 31)).toInt32)], 0, 0) 61 4 (fun _ => rfl) h) ?_
          obtain ⟨z74, hz74⟩ : ∃ z : Int32, z = (z64.toUInt32 >>> ((Int32.ofInt 4).toUInt32 &&& Int32.toUInt32 31)).toInt32 := ⟨_, rfl⟩
          rw [← hz74]
          refine pj_X_of (fun r h => pj_R_to (G0, 64, [(0, .int z74), (1, .int z73)], [.int (Int32.ofInt 4), .int z74], 0, 0) 64 4 (fun _ => rfl) h) ?_
          cases b75 : pj_c1 .le z74 (Int32.ofInt 4) with
          | true =>
            have ub75 := pj_u_leT b75
            refine pj_X_of (fun r h => pj_R_icT 74 rfl rfl b75 h) ?_
            refine pj_X_of (fun r h => pj_R_to (G0, 78, [(0, .int z74), (1, .int z73)], [.int ((z74.toUInt32 >>> ((Int32.ofInt 1).toUInt32 &&& Int32.toUInt32 31)).toInt32), .int z73], 0, 0) 78 5 (fun _ => rfl) h) ?_
            obtain ⟨z76, hz76⟩ : ∃ z : Int32, z = (z74.toUInt32 >>> ((Int32.ofInt 1).toUInt32 &&& Int32.toUInt32 31)).toInt32 := ⟨_, rfl⟩
            rw [← hz76]
            refine pj_X_of (fun r h => pj_R_to (G0, 79, [(0, .int z74), (1, .int z73)], [.int (z73 + z76)], 0, 0) 79 2 (fun _ => rfl) h) ?_
            obtain ⟨z77, hz77⟩ : ∃ z : Int32, z = z73 + z76 := ⟨_, rfl⟩
            rw [← hz77]
            exact pj_X_rt rfl rfl ⟨_, rfl, rfl, pj_i32 _⟩
          | false =>
            have ub75 := pj_u_leF b75
            refine pj_X_of (fun r h => pj_R_icF rfl b75 h) ?_
            refine pj_X_of (fun r h => pj_R_to (G0, 70, [(1, .int (z73 + Int32.ofInt 2)), (0, .int z74)], [], 0, 0) 70 2 (fun _ => rfl) h) ?_
            obtain ⟨z78, hz78⟩ : ∃ z : Int32, z = z73 + Int32.ofInt 2 := ⟨_, rfl⟩
            rw [← hz78]
            have fz78_0 : z78.toInt = z73.toInt + (Int32.ofInt 2).toInt := by rw [hz78]; exact pj_addI (by have := pj_i32 z73; have := pj_i32 (Int32.ofInt 2); omega) (by have := pj_i32 z73; have := pj_i32 (Int32.ofInt 2); omega)
            refine pj_X_of (fun r h => pj_R_to (G0, 73, [(1, .int z78), (0, .int z74)], [.int ((z74.toUInt32 >>> ((Int32.ofInt 2).toUInt32 &&& Int32.toUInt32 31)).toInt32)], 0, 0) 73 4 (fun _ => rfl) h) ?_
            obtain ⟨z79, hz79⟩ : ∃ z : Int32, z = (z74.toUInt32 >>> ((Int32.ofInt 2).toUInt32 &&& Int32.toUInt32 31)).toInt32 := ⟨_, rfl⟩
            rw [← hz79]
            refine pj_X_of (fun r h => pj_R_to (G0, 78, [(0, .int z79), (1, .int z78)], [.int ((z79.toUInt32 >>> ((Int32.ofInt 1).toUInt32 &&& Int32.toUInt32 31)).toInt32), .int z78], 0, 0) 78 6 (fun _ => rfl) h) ?_
            obtain ⟨z80, hz80⟩ : ∃ z : Int32, z = (z79.toUInt32 >>> ((Int32.ofInt 1).toUInt32 &&& Int32.toUInt32 31)).toInt32 := ⟨_, rfl⟩
            rw [← hz80]
            refine pj_X_of (fun r h => pj_R_to (G0, 79, [(0, .int z79), (1, .int z78)], [.int (z78 + z80)], 0, 0) 79 2 (fun _ => rfl) h) ?_
            obtain ⟨z81, hz81⟩ : ∃ z : Int32, z = z78 + z80 := ⟨_, rfl⟩
            rw [← hz81]
            exact pj_X_rt rfl rfl ⟨_, rfl, rfl, pj_i32 _⟩
  | false =>
    have ub4 := pj_u0_gtF b4
    refine pj_X_of (fun r h => pj_R_ifF rfl b4 h) ?_
    refine pj_X_of (fun r h => pj_R_to (G0, 16, [(0, .int z3)], [.int (z3 &&& ((Int8.ofInt 32).toInt32))], 0, 0) 16 4 (fun _ => rfl) h) ?_
    obtain ⟨z82, hz82⟩ : ∃ z : Int32, z = z3 &&& ((Int8.ofInt 32).toInt32) := ⟨_, rfl⟩
    rw [← hz82]
    have fz82_0 : 0 ≤ z82.toInt ∧ z82.toInt ≤ ((Int8.ofInt 32).toInt32).toInt := by rw [hz82]; exact pj_andI (by omega)
    exact pj_X_rt rfl rfl ⟨_, rfl, rfl, pj_i32 _⟩
theorem ct_162 (G0 : pj_G) (hI : pj_Inv G0) (w : Int32) : pj_Y 1 162 [.int w] G0 (fun v G' => ∃ y : Int32, v = some (.int y) ∧ G0 = G' ∧ ((-2147483648 : Int) ≤ y.toInt ∧ y.toInt ≤ 2147483647)) := by
  have c0_ : (Int32.ofInt (-1)).toInt = -1 := by decide
  refine pj_Y_X (M := pj_m162) rfl rfl (Nat.le_of_ble_eq_true rfl) ?_
  have hK : pj_kpt ([], [], []) G0 G0 := pj_kpt_r _ _
  show pj_X _ _ G0 0 [(0, .int w)] [] _
  refine pj_X_of (fun r h => pj_R_to (G0, 3, [(0, .int w)], [.int ((Int32.ofInt (-1)) - w)], 0, 0) 3 4 (fun _ => rfl) h) ?_
  obtain ⟨z1, hz1⟩ : ∃ z : Int32, z = (Int32.ofInt (-1)) - w := ⟨_, rfl⟩
  rw [← hz1]
  have fz1_0 : z1.toInt = (Int32.ofInt (-1)).toInt - w.toInt := by rw [hz1]; exact pj_subI (by have := pj_i32 (Int32.ofInt (-1)); have := pj_i32 w; omega) (by have := pj_i32 (Int32.ofInt (-1)); have := pj_i32 w; omega)
  exact pj_X_rt rfl rfl ⟨_, rfl, rfl, pj_i32 _⟩
noncomputable def F_164x (G0 : pj_G) (w : Int32) (j : Int32) : Int32 := pj_nm (w >>> (j &&& 31)) (fun z1 => cond (pj_c1 .ne z1 0) (Int32.ofInt 0) (Int32.ofInt 1))
theorem F_164x_e (G0 : pj_G) (w : Int32) (j : Int32) : F_164x G0 w j = pj_nm (w >>> (j &&& 31)) (fun z1 => cond (pj_c1 .ne z1 0) (Int32.ofInt 0) (Int32.ofInt 1)) := rfl
theorem ct_164x (G0 : pj_G) (hI : pj_Inv G0) (w : Int32) (j : Int32) : pj_Y 1 164 [.int w, .int j] G0 (fun v' G' => ∃ y : Int32, v' = some (.int y) ∧ G0 = G' ∧ ((0 : Int) ≤ y.toInt ∧ y.toInt ≤ 1) ∧ (y = F_164x G0 w j)) := by
  have c0_ : (Int32.ofInt 0).toInt = 0 := by decide
  have c1_ : (Int32.ofInt 1).toInt = 1 := by decide
  refine pj_Y_X (M := pj_m164) rfl rfl (Nat.le_of_ble_eq_true rfl) ?_
  have hK : pj_kpt ([], [], []) G0 G0 := pj_kpt_r _ _
  show pj_X _ _ G0 0 [(0, .int w), (1, .int j)] [] _
  rw [F_164x_e]
  refine pj_X_of (fun r h => pj_R_to (G0, 3, [(0, .int w), (1, .int j)], [.int (w >>> (j &&& 31))], 0, 0) 3 4 (fun _ => rfl) h) ?_
  obtain ⟨z1, hz1⟩ : ∃ z : Int32, z = w >>> (j &&& 31) := ⟨_, rfl⟩
  rw [← hz1]
  rw [pj_nm_e]
  cases b2 : pj_c1 .ne z1 0 with
  | true =>
    rw [pj_cT]
    have ub2 := pj_u0_neT b2
    refine pj_X_of (fun r h => pj_R_ifT 10 rfl rfl b2 h) ?_
    refine pj_X_of (fun r h => pj_R_to (G0, 11, [(0, .int w), (1, .int j)], [.int (Int32.ofInt 0)], 0, 0) 11 2 (fun _ => rfl) h) ?_
    exact pj_X_rt rfl rfl ⟨_, rfl, rfl, ⟨by omega, by omega⟩, rfl⟩
  | false =>
    rw [pj_cF]
    have ub2 := pj_u0_neF b2
    refine pj_X_of (fun r h => pj_R_ifF rfl b2 h) ?_
    refine pj_X_of (fun r h => pj_R_to (G0, 11, [(0, .int w), (1, .int j)], [.int (Int32.ofInt 1)], 0, 0) 11 3 (fun _ => rfl) h) ?_
    exact pj_X_rt rfl rfl ⟨_, rfl, rfl, ⟨by omega, by omega⟩, rfl⟩
theorem fr_164x (G0 : pj_G) (hI : pj_Inv G0) (w : Int32) (j : Int32) : ((0 : Int) ≤ (F_164x G0 w j).toInt ∧ (F_164x G0 w j).toInt ≤ 1) := by
  obtain ⟨v, G', -, y, -, rfl, r, e⟩ := ct_164x G0 hI w j
  rw [← e]
  exact r
theorem ct_43_7 (G0 : pj_G) (hI : pj_Inv G0) (c : Int32) (rc : (0 : Int) ≤ c.toInt ∧ c.toInt ≤ 9) : pj_Y 1 43 [.ref 7, .int c] G0 (fun v G' => ∃ y : Int32, v = some (.int y) ∧ G0 = G' ∧ ((-1 : Int) ≤ y.toInt ∧ y.toInt ≤ 9)) := by
  have c0_ : (Int32.ofInt (-1)).toInt = -1 := by decide
  have c1_ : (Int32.ofInt 1).toInt = 1 := by decide
  refine pj_Y_X (M := pj_m43) rfl rfl (Nat.le_of_ble_eq_true rfl) ?_
  have hK : pj_kpt ([], [], []) G0 G0 := pj_kpt_r _ _
  show pj_X _ _ G0 0 [(0, .ref 7), (1, .int c)] [] _
  refine pj_X_of (fun r h => pj_R_to (G0, 1, [(0, .ref 7), (1, .int c)], [.ref 7], 0, 0) 1 2 (fun _ => rfl) h) ?_
  refine pj_X_of (fun r h => pj_T_gr hI rfl rfl rfl h) ?_
  refine pj_X_of (fun r h => pj_R_to (G0, 5, [(0, .ref 7), (1, .int c)], [.int c, .ref 12], 0, 0) 5 2 (fun _ => rfl) h) ?_
  refine pj_X_of (fun r h => pj_T_il hI rfl rfl (by omega) (by omega) h) ?_
  show pj_X _ _ G0 6 [(0, .ref 7), (1, .int c)] [.int (pj_ai G0 12 c.toInt.toNat)] _
  obtain ⟨z1, hz1⟩ : ∃ z : Int32, z = pj_ai G0 12 c.toInt.toNat := ⟨_, rfl⟩
  rw [← hz1]
  have ez1 : (pj_ai G0 12 c.toInt.toNat).toInt = z1.toInt := by rw [hz1]
  have fz1_0 : (0 : Int) ≤ z1.toInt ∧ z1.toInt ≤ 9 ∧ (z1.toInt ≤ 0 ∨ 0 ≤ z1.toInt) := by rw [hz1]; exact hI.2.2.1 12 (10, 0, 9, 0, 0) rfl _ (by show _ < 10; omega)
  refine pj_X_of (fun r h => pj_R_to (G0, 8, [(0, .ref 7), (1, .int c)], [.int (z1 + (Int32.ofInt 1))], 0, 0) 8 3 (fun _ => rfl) h) ?_
  obtain ⟨z2, hz2⟩ : ∃ z : Int32, z = z1 + (Int32.ofInt 1) := ⟨_, rfl⟩
  rw [← hz2]
  have fz2_0 : z2.toInt = z1.toInt + (Int32.ofInt 1).toInt := by rw [hz2]; exact pj_addI (by have := pj_i32 z1; have := pj_i32 (Int32.ofInt 1); omega) (by have := pj_i32 z1; have := pj_i32 (Int32.ofInt 1); omega)
  refine pj_X_of (fun r h => pj_R_to (G0, 9, [(0, .ref 7), (1, .int c)], [.ref 7, .int z2], 0, 0) 9 2 (fun _ => rfl) h) ?_
  refine pj_X_of (fun r h => pj_T_gi hI rfl rfl h) ?_
  show pj_X _ _ G0 12 [(0, .ref 7), (1, .int c)] [.int (pj_fi G0 7 1), .int z2] _
  obtain ⟨y3, hy3⟩ : ∃ z : Int32, z = pj_fi G0 7 1 := ⟨_, rfl⟩
  rw [← hy3]
  have ey3 : (pj_fi G0 7 1).toInt = y3.toInt := by rw [hy3]
  have ry3 : (0 : Int) ≤ y3.toInt ∧ y3.toInt ≤ 10 := by rw [hy3]; exact hI.2.1 7 1 (0, 10) rfl
  cases b4 : pj_c1 .ge z2 y3 with
  | true =>
    have ub4 := pj_u_geT b4
    refine pj_X_of (fun r h => pj_R_icT 31 rfl rfl b4 h) ?_
    refine pj_X_of (fun r h => pj_R_to (G0, 32, [(0, .ref 7), (1, .int c)], [.int (Int32.ofInt (-1))], 0, 0) 32 2 (fun _ => rfl) h) ?_
    exact pj_X_rt rfl rfl ⟨_, rfl, rfl, ⟨by omega, by omega⟩⟩
  | false =>
    have ub4 := pj_u_geF b4
    refine pj_X_of (fun r h => pj_R_icF rfl b4 h) ?_
    refine pj_X_of (fun r h => pj_R_to (G0, 16, [(0, .ref 7), (1, .int c)], [.ref 7], 0, 0) 16 2 (fun _ => rfl) h) ?_
    refine pj_X_of (fun r h => pj_T_gr hI rfl rfl rfl h) ?_
    refine pj_X_of (fun r h => pj_R_to (G0, 20, [(0, .ref 7), (1, .int c)], [.ref 7, .ref 13], 0, 0) 20 2 (fun _ => rfl) h) ?_
    refine pj_X_of (fun r h => pj_T_gr hI rfl rfl rfl h) ?_
    refine pj_X_of (fun r h => pj_R_to (G0, 24, [(0, .ref 7), (1, .int c)], [.int c, .ref 12, .ref 13], 0, 0) 24 2 (fun _ => rfl) h) ?_
    refine pj_X_of (fun r h => pj_T_il hI rfl rfl (by omega) (by omega) h) ?_
    show pj_X _ _ G0 25 [(0, .ref 7), (1, .int c)] [.int (pj_ai G0 12 c.toInt.toNat), .ref 13] _
    rw [← hz1]
    refine pj_X_of (fun r h => pj_R_to (G0, 27, [(0, .ref 7), (1, .int c)], [.int (z1 + (Int32.ofInt 1)), .ref 13], 0, 0) 27 3 (fun _ => rfl) h) ?_
    obtain ⟨z5, hz5⟩ : ∃ z : Int32, z = z1 + (Int32.ofInt 1) := ⟨_, rfl⟩
    rw [← hz5]
    have fz5_0 : z5.toInt = z1.toInt + (Int32.ofInt 1).toInt := by rw [hz5]; exact pj_addI (by have := pj_i32 z1; have := pj_i32 (Int32.ofInt 1); omega) (by have := pj_i32 z1; have := pj_i32 (Int32.ofInt 1); omega)
    refine pj_X_of (fun r h => pj_T_il hI rfl rfl (by omega) (by omega) h) ?_
    show pj_X _ _ G0 28 [(0, .ref 7), (1, .int c)] [.int (pj_ai G0 13 z5.toInt.toNat)] _
    obtain ⟨z6, hz6⟩ : ∃ z : Int32, z = pj_ai G0 13 z5.toInt.toNat := ⟨_, rfl⟩
    rw [← hz6]
    have ez6 : (pj_ai G0 13 z5.toInt.toNat).toInt = z6.toInt := by rw [hz6]
    have fz6_0 : (0 : Int) ≤ z6.toInt ∧ z6.toInt ≤ 9 ∧ (z6.toInt ≤ 0 ∨ 0 ≤ z6.toInt) := by rw [hz6]; exact hI.2.2.1 13 (10, 0, 9, 0, 0) rfl _ (by show _ < 10; omega)
    refine pj_X_of (fun r h => pj_R_to (G0, 32, [(0, .ref 7), (1, .int c)], [.int z6], 0, 0) 32 2 (fun _ => rfl) h) ?_
    exact pj_X_rt rfl rfl ⟨_, rfl, rfl, ⟨by omega, by omega⟩⟩
noncomputable def F_44_7x (G0 : pj_G) (c : Int32) (b : Int32) : Int32 := pj_nm (pj_ai G0 8 c.toInt.toNat) (fun z1 => cond (pj_c1 .ne z1 b) (pj_nm (pj_ai G0 9 c.toInt.toNat) (fun z3 => cond (pj_c1 .ne z3 b) (Int32.ofInt (-1)) (z1))) (pj_nm (pj_ai G0 9 c.toInt.toNat) (fun z5 => z5)))
theorem F_44_7x_e (G0 : pj_G) (c : Int32) (b : Int32) : F_44_7x G0 c b = pj_nm (pj_ai G0 8 c.toInt.toNat) (fun z1 => cond (pj_c1 .ne z1 b) (pj_nm (pj_ai G0 9 c.toInt.toNat) (fun z3 => cond (pj_c1 .ne z3 b) (Int32.ofInt (-1)) (z1))) (pj_nm (pj_ai G0 9 c.toInt.toNat) (fun z5 => z5))) := rfl
theorem ct_44_7x (G0 : pj_G) (hI : pj_Inv G0) (c : Int32) (b : Int32) (rc : (0 : Int) ≤ c.toInt ∧ c.toInt ≤ 9) : pj_Y 1 44 [.ref 7, .int c, .int b] G0 (fun v' G' => ∃ y : Int32, v' = some (.int y) ∧ G0 = G' ∧ ((-1 : Int) ≤ y.toInt ∧ y.toInt ≤ 7) ∧ (y = F_44_7x G0 c b)) := by
  have c0_ : (Int32.ofInt (-1)).toInt = -1 := by decide
  refine pj_Y_X (M := pj_m44) rfl rfl (Nat.le_of_ble_eq_true rfl) ?_
  have hK : pj_kpt ([], [], []) G0 G0 := pj_kpt_r _ _
  show pj_X _ _ G0 0 [(0, .ref 7), (1, .int c), (2, .int b)] [] _
  rw [F_44_7x_e]
  refine pj_X_of (fun r h => pj_R_to (G0, 1, [(0, .ref 7), (1, .int c), (2, .int b)], [.ref 7], 0, 0) 1 2 (fun _ => rfl) h) ?_
  refine pj_X_of (fun r h => pj_T_gr hI rfl rfl rfl h) ?_
  refine pj_X_of (fun r h => pj_R_to (G0, 5, [(0, .ref 7), (1, .int c), (2, .int b)], [.int c, .ref 8], 0, 0) 5 2 (fun _ => rfl) h) ?_
  refine pj_X_of (fun r h => pj_T_il hI rfl rfl (by omega) (by omega) h) ?_
  show pj_X _ _ G0 6 [(0, .ref 7), (1, .int c), (2, .int b)] [.int (pj_ai G0 8 c.toInt.toNat)] _
  obtain ⟨z1, hz1⟩ : ∃ z : Int32, z = pj_ai G0 8 c.toInt.toNat := ⟨_, rfl⟩
  rw [← hz1]
  rw [pj_nm_e]
  have ez1 : (pj_ai G0 8 c.toInt.toNat).toInt = z1.toInt := by rw [hz1]
  have fz1_0 : (0 : Int) ≤ z1.toInt ∧ z1.toInt ≤ 7 ∧ (z1.toInt ≤ 0 ∨ 0 ≤ z1.toInt) := by rw [hz1]; exact hI.2.2.1 8 (10, 0, 7, 0, 0) rfl _ (by show _ < 10; omega)
  refine pj_X_of (fun r h => pj_R_to (G0, 7, [(0, .ref 7), (1, .int c), (2, .int b)], [.int b, .int z1], 0, 0) 7 2 (fun _ => rfl) h) ?_
  cases b2 : pj_c1 .ne z1 b with
  | true =>
    rw [pj_cT]
    have ub2 := pj_u_neT b2
    refine pj_X_of (fun r h => pj_R_icT 17 rfl rfl b2 h) ?_
    refine pj_X_of (fun r h => pj_R_to (G0, 18, [(0, .ref 7), (1, .int c), (2, .int b)], [.ref 7], 0, 0) 18 2 (fun _ => rfl) h) ?_
    refine pj_X_of (fun r h => pj_T_gr hI rfl rfl rfl h) ?_
    refine pj_X_of (fun r h => pj_R_to (G0, 22, [(0, .ref 7), (1, .int c), (2, .int b)], [.int c, .ref 9], 0, 0) 22 2 (fun _ => rfl) h) ?_
    refine pj_X_of (fun r h => pj_T_il hI rfl rfl (by omega) (by omega) h) ?_
    show pj_X _ _ G0 23 [(0, .ref 7), (1, .int c), (2, .int b)] [.int (pj_ai G0 9 c.toInt.toNat)] _
    obtain ⟨z3, hz3⟩ : ∃ z : Int32, z = pj_ai G0 9 c.toInt.toNat := ⟨_, rfl⟩
    rw [← hz3]
    rw [pj_nm_e]
    have ez3 : (pj_ai G0 9 c.toInt.toNat).toInt = z3.toInt := by rw [hz3]
    have fz3_0 : (0 : Int) ≤ z3.toInt ∧ z3.toInt ≤ 7 ∧ (z3.toInt ≤ 0 ∨ 0 ≤ z3.toInt) := by rw [hz3]; exact hI.2.2.1 9 (10, 0, 7, 0, 0) rfl _ (by show _ < 10; omega)
    refine pj_X_of (fun r h => pj_R_to (G0, 24, [(0, .ref 7), (1, .int c), (2, .int b)], [.int b, .int z3], 0, 0) 24 2 (fun _ => rfl) h) ?_
    cases b4 : pj_c1 .ne z3 b with
    | true =>
      rw [pj_cT]
      have ub4 := pj_u_neT b4
      refine pj_X_of (fun r h => pj_R_icT 36 rfl rfl b4 h) ?_
      refine pj_X_of (fun r h => pj_R_to (G0, 37, [(0, .ref 7), (1, .int c), (2, .int b)], [.int (Int32.ofInt (-1))], 0, 0) 37 2 (fun _ => rfl) h) ?_
      exact pj_X_rt rfl rfl ⟨_, rfl, rfl, ⟨by omega, by omega⟩, rfl⟩
    | false =>
      rw [pj_cF]
      have ub4 := pj_u_neF b4
      refine pj_X_of (fun r h => pj_R_icF rfl b4 h) ?_
      refine pj_X_of (fun r h => pj_R_to (G0, 28, [(0, .ref 7), (1, .int c), (2, .int b)], [.ref 7], 0, 0) 28 2 (fun _ => rfl) h) ?_
      refine pj_X_of (fun r h => pj_T_gr hI rfl rfl rfl h) ?_
      refine pj_X_of (fun r h => pj_R_to (G0, 32, [(0, .ref 7), (1, .int c), (2, .int b)], [.int c, .ref 8], 0, 0) 32 2 (fun _ => rfl) h) ?_
      refine pj_X_of (fun r h => pj_T_il hI rfl rfl (by omega) (by omega) h) ?_
      show pj_X _ _ G0 33 [(0, .ref 7), (1, .int c), (2, .int b)] [.int (pj_ai G0 8 c.toInt.toNat)] _
      rw [← hz1]
      refine pj_X_of (fun r h => pj_R_to (G0, 37, [(0, .ref 7), (1, .int c), (2, .int b)], [.int z1], 0, 0) 37 2 (fun _ => rfl) h) ?_
      exact pj_X_rt rfl rfl ⟨_, rfl, rfl, ⟨by omega, by omega⟩, rfl⟩
  | false =>
    rw [pj_cF]
    have ub2 := pj_u_neF b2
    refine pj_X_of (fun r h => pj_R_icF rfl b2 h) ?_
    refine pj_X_of (fun r h => pj_R_to (G0, 11, [(0, .ref 7), (1, .int c), (2, .int b)], [.ref 7], 0, 0) 11 2 (fun _ => rfl) h) ?_
    refine pj_X_of (fun r h => pj_T_gr hI rfl rfl rfl h) ?_
    refine pj_X_of (fun r h => pj_R_to (G0, 15, [(0, .ref 7), (1, .int c), (2, .int b)], [.int c, .ref 9], 0, 0) 15 2 (fun _ => rfl) h) ?_
    refine pj_X_of (fun r h => pj_T_il hI rfl rfl (by omega) (by omega) h) ?_
    show pj_X _ _ G0 16 [(0, .ref 7), (1, .int c), (2, .int b)] [.int (pj_ai G0 9 c.toInt.toNat)] _
    obtain ⟨z5, hz5⟩ : ∃ z : Int32, z = pj_ai G0 9 c.toInt.toNat := ⟨_, rfl⟩
    rw [← hz5]
    rw [pj_nm_e]
    have ez5 : (pj_ai G0 9 c.toInt.toNat).toInt = z5.toInt := by rw [hz5]
    have fz5_0 : (0 : Int) ≤ z5.toInt ∧ z5.toInt ≤ 7 ∧ (z5.toInt ≤ 0 ∨ 0 ≤ z5.toInt) := by rw [hz5]; exact hI.2.2.1 9 (10, 0, 7, 0, 0) rfl _ (by show _ < 10; omega)
    exact pj_X_rt rfl rfl ⟨_, rfl, rfl, ⟨by omega, by omega⟩, rfl⟩
theorem fr_44_7x (G0 : pj_G) (hI : pj_Inv G0) (c : Int32) (b : Int32) (rc : (0 : Int) ≤ c.toInt ∧ c.toInt ≤ 9) : ((-1 : Int) ≤ (F_44_7x G0 c b).toInt ∧ (F_44_7x G0 c b).toInt ≤ 7) := by
  obtain ⟨v, G', -, y, -, rfl, r, e⟩ := ct_44_7x G0 hI c b rc
  rw [← e]
  exact r
theorem lp_ct_45_7 (G0 : pj_G) (hI : pj_Inv G0) (set : Int32) (op : Int32) : ∀ mn : Nat, (∀ (v3 : Int32) (v4 : Int32), ((-2147483648 : Int) ≤ v3.toInt ∧ v3.toInt ≤ 2147483647) → ((0 : Int) ≤ v4.toInt ∧ v4.toInt ≤ 10) → 10 - v4.toInt < (mn : Int) → pj_X 1 pj_m45 G0 5 [(0, .ref 7), (1, .int set), (2, .int op), (3, .int v3), (4, .int v4)] [] (fun v G' => ∃ y : Int32, v = some (.int y) ∧ G0 = G' ∧ ((-2147483648 : Int) ≤ y.toInt ∧ y.toInt ≤ 2147483647))) := by
  have c0_ : (Int32.ofInt 0).toInt = 0 := by decide
  have c1_ : (Int32.ofInt 1).toInt = 1 := by decide
  have hK : pj_kpt ([], [], []) G0 G0 := pj_kpt_r _ _
  intro mn
  induction mn with
  | zero =>
    intro v3 v4 rv3 rv4 hm
    exfalso
    omega
  | succ mn ih =>
    intro v3 v4 rv3 rv4 hm
    refine pj_X_of (fun r h => pj_R_to (G0, 8, [(0, .ref 7), (1, .int set), (2, .int op), (3, .int v3), (4, .int v4)], [.ref 7, .int v4], 0, 0) 8 3 (fun _ => rfl) h) ?_
    refine pj_X_of (fun r h => pj_T_gi hI rfl rfl h) ?_
    show pj_X _ _ G0 11 [(0, .ref 7), (1, .int set), (2, .int op), (3, .int v3), (4, .int v4)] [.int (pj_fi G0 7 1), .int v4] _
    obtain ⟨y1, hy1⟩ : ∃ z : Int32, z = pj_fi G0 7 1 := ⟨_, rfl⟩
    rw [← hy1]
    have ey1 : (pj_fi G0 7 1).toInt = y1.toInt := by rw [hy1]
    have ry1 : (0 : Int) ≤ y1.toInt ∧ y1.toInt ≤ 10 := by rw [hy1]; exact hI.2.1 7 1 (0, 10) rfl
    cases b2 : pj_c1 .ge v4 y1 with
    | true =>
      have ub2 := pj_u_geT b2
      refine pj_X_of (fun r h => pj_R_icT 90 rfl rfl b2 h) ?_
      refine pj_X_of (fun r h => pj_R_to (G0, 91, [(0, .ref 7), (1, .int set), (2, .int op), (3, .int v3), (4, .int v4)], [.int v3], 0, 0) 91 2 (fun _ => rfl) h) ?_
      exact pj_X_rt rfl rfl ⟨_, rfl, rfl, pj_i32 _⟩
    | false =>
      have ub2 := pj_u_geF b2
      refine pj_X_of (fun r h => pj_R_icF rfl b2 h) ?_
      refine pj_X_of (fun r h => pj_R_to (G0, 17, [(0, .ref 7), (1, .int set), (2, .int op), (3, .int v3), (4, .int v4)], [.int v4, .int op], 0, 0) 17 3 (fun _ => rfl) h) ?_
      refine pj_X_ca (vs := [.int op, .int v4]) rfl (fun _ => rfl) ⟨Nat.le_of_ble_eq_true rfl, Nat.le_of_ble_eq_true rfl, rfl⟩ ⟨rfl, rfl⟩ (pj_Y_up (by decide) (ct_163x G0 hI op v4)) ?_
      rintro _ _ ⟨y3, rfl, rfl, ry3, fy3⟩
      show pj_X _ _ G0 20 [(0, .ref 7), (1, .int set), (2, .int op), (3, .int v3), (4, .int v4)] [.int y3] _
      cases b4 : pj_c1 .eq y3 0 with
      | true =>
        have ub4 := pj_u0_eqT b4
        refine pj_X_of (fun r h => pj_R_ifT 49 rfl rfl b4 h) ?_
        refine pj_X_of (fun r h => pj_R_to (G0, 52, [(0, .ref 7), (1, .int set), (2, .int op), (3, .int v3), (4, .int v4)], [.int v4, .int op], 0, 0) 52 3 (fun _ => rfl) h) ?_
        refine pj_X_ca (vs := [.int op, .int v4]) rfl (fun _ => rfl) ⟨Nat.le_of_ble_eq_true rfl, Nat.le_of_ble_eq_true rfl, rfl⟩ ⟨rfl, rfl⟩ (pj_Y_up (by decide) (ct_163x G0 hI op v4)) ?_
        rintro _ _ ⟨y5, rfl, rfl, ry5, fy5⟩
        show pj_X _ _ G0 55 [(0, .ref 7), (1, .int set), (2, .int op), (3, .int v3), (4, .int v4)] [.int y5] _
        cases b6 : pj_c1 .eq y5 0 with
        | true =>
          have ub6 := pj_u0_eqT b6
          refine pj_X_of (fun r h => pj_R_ifT 84 rfl rfl b6 h) ?_
          refine pj_X_of (fun r h => pj_R_to (G0, 87, [(4, .int (v4 + Int32.ofInt 1)), (0, .ref 7), (1, .int set), (2, .int op), (3, .int v3)], [], 0, 0) 87 2 (fun _ => rfl) h) ?_
          obtain ⟨z7, hz7⟩ : ∃ z : Int32, z = v4 + Int32.ofInt 1 := ⟨_, rfl⟩
          rw [← hz7]
          have fz7_0 : z7.toInt = v4.toInt + (Int32.ofInt 1).toInt := by rw [hz7]; exact pj_addI (by have := pj_i32 v4; have := pj_i32 (Int32.ofInt 1); omega) (by have := pj_i32 v4; have := pj_i32 (Int32.ofInt 1); omega)
          refine pj_X_of (fun r h => pj_R_to (G0, 5, [(4, .int z7), (0, .ref 7), (1, .int set), (2, .int op), (3, .int v3)], [], 0, 0) 5 2 (fun _ => rfl) h) ?_
          exact pj_X_sub [(0, .ref 7), (1, .int set), (2, .int op), (3, .int v3), (4, .int z7)] (show List.Nodup [0, 1, 2, 3, 4] by decide) ⟨rfl, rfl, rfl, rfl, rfl, trivial⟩ (ih v3 z7 (pj_i32 _) ⟨by omega, by omega⟩ (by omega))
        | false =>
          have ub6 := pj_u0_eqF b6
          refine pj_X_of (fun r h => pj_R_ifF rfl b6 h) ?_
          refine pj_X_of (fun r h => pj_R_to (G0, 60, [(0, .ref 7), (1, .int set), (2, .int op), (3, .int v3), (4, .int v4)], [.ref 7, .int set], 0, 0) 60 3 (fun _ => rfl) h) ?_
          refine pj_X_of (fun r h => pj_T_gr hI rfl rfl rfl h) ?_
          refine pj_X_of (fun r h => pj_R_to (G0, 65, [(0, .ref 7), (1, .int set), (2, .int op), (3, .int v3), (4, .int v4)], [.int v4, .ref 9, .int set], 0, 0) 65 2 (fun _ => rfl) h) ?_
          refine pj_X_of (fun r h => pj_T_il hI rfl rfl (by omega) (by omega) h) ?_
          show pj_X _ _ G0 66 [(0, .ref 7), (1, .int set), (2, .int op), (3, .int v3), (4, .int v4)] [.int (pj_ai G0 9 v4.toInt.toNat), .int set] _
          obtain ⟨z8, hz8⟩ : ∃ z : Int32, z = pj_ai G0 9 v4.toInt.toNat := ⟨_, rfl⟩
          rw [← hz8]
          have ez8 : (pj_ai G0 9 v4.toInt.toNat).toInt = z8.toInt := by rw [hz8]
          have fz8_0 : (0 : Int) ≤ z8.toInt ∧ z8.toInt ≤ 7 ∧ (z8.toInt ≤ 0 ∨ 0 ≤ z8.toInt) := by rw [hz8]; exact hI.2.2.1 9 (10, 0, 7, 0, 0) rfl _ (by show _ < 10; omega)
          refine pj_X_ca (vs := [.int set, .int z8]) rfl (fun _ => rfl) ⟨Nat.le_of_ble_eq_true rfl, Nat.le_of_ble_eq_true rfl, rfl⟩ ⟨rfl, rfl⟩ (pj_Y_up (by decide) (ct_163x G0 hI set z8)) ?_
          rintro _ _ ⟨y9, rfl, rfl, ry9, fy9⟩
          show pj_X _ _ G0 69 [(0, .ref 7), (1, .int set), (2, .int op), (3, .int v3), (4, .int v4)] [.int y9] _
          cases b10 : pj_c1 .eq y9 0 with
          | true =>
            have ub10 := pj_u0_eqT b10
            refine pj_X_of (fun r h => pj_R_ifT 84 rfl rfl b10 h) ?_
            refine pj_X_of (fun r h => pj_R_to (G0, 87, [(4, .int (v4 + Int32.ofInt 1)), (0, .ref 7), (1, .int set), (2, .int op), (3, .int v3)], [], 0, 0) 87 2 (fun _ => rfl) h) ?_
            obtain ⟨z11, hz11⟩ : ∃ z : Int32, z = v4 + Int32.ofInt 1 := ⟨_, rfl⟩
            rw [← hz11]
            have fz11_0 : z11.toInt = v4.toInt + (Int32.ofInt 1).toInt := by rw [hz11]; exact pj_addI (by have := pj_i32 v4; have := pj_i32 (Int32.ofInt 1); omega) (by have := pj_i32 v4; have := pj_i32 (Int32.ofInt 1); omega)
            refine pj_X_of (fun r h => pj_R_to (G0, 5, [(4, .int z11), (0, .ref 7), (1, .int set), (2, .int op), (3, .int v3)], [], 0, 0) 5 2 (fun _ => rfl) h) ?_
            exact pj_X_sub [(0, .ref 7), (1, .int set), (2, .int op), (3, .int v3), (4, .int z11)] (show List.Nodup [0, 1, 2, 3, 4] by decide) ⟨rfl, rfl, rfl, rfl, rfl, trivial⟩ (ih v3 z11 (pj_i32 _) ⟨by omega, by omega⟩ (by omega))
          | false =>
            have ub10 := pj_u0_eqF b10
            refine pj_X_of (fun r h => pj_R_ifF rfl b10 h) ?_
            refine pj_X_of (fun r h => pj_R_to (G0, 75, [(0, .ref 7), (1, .int set), (2, .int op), (3, .int v3), (4, .int v4)], [.ref 7, .int (Int32.ofInt 1), .int v3], 0, 0) 75 4 (fun _ => rfl) h) ?_
            refine pj_X_of (fun r h => pj_T_gr hI rfl rfl rfl h) ?_
            refine pj_X_of (fun r h => pj_R_to (G0, 80, [(0, .ref 7), (1, .int set), (2, .int op), (3, .int v3), (4, .int v4)], [.int v4, .ref 8, .int (Int32.ofInt 1), .int v3], 0, 0) 80 2 (fun _ => rfl) h) ?_
            refine pj_X_of (fun r h => pj_T_il hI rfl rfl (by omega) (by omega) h) ?_
            show pj_X _ _ G0 81 [(0, .ref 7), (1, .int set), (2, .int op), (3, .int v3), (4, .int v4)] [.int (pj_ai G0 8 v4.toInt.toNat), .int (Int32.ofInt 1), .int v3] _
            obtain ⟨z12, hz12⟩ : ∃ z : Int32, z = pj_ai G0 8 v4.toInt.toNat := ⟨_, rfl⟩
            rw [← hz12]
            have ez12 : (pj_ai G0 8 v4.toInt.toNat).toInt = z12.toInt := by rw [hz12]
            have fz12_0 : (0 : Int) ≤ z12.toInt ∧ z12.toInt ≤ 7 ∧ (z12.toInt ≤ 0 ∨ 0 ≤ z12.toInt) := by rw [hz12]; exact hI.2.2.1 8 (10, 0, 7, 0, 0) rfl _ (by show _ < 10; omega)
            refine pj_X_of (fun r h => pj_R_to (G0, 82, [(0, .ref 7), (1, .int set), (2, .int op), (3, .int v3), (4, .int v4)], [.int ((Int32.ofInt 1) <<< (z12 &&& 31)), .int v3], 0, 0) 82 2 (fun _ => rfl) h) ?_
            obtain ⟨z13, hz13⟩ : ∃ z : Int32, z = (Int32.ofInt 1) <<< (z12 &&& 31) := ⟨_, rfl⟩
            rw [← hz13]
            have fz13_0 : 1 ≤ z13.toInt ∧ z13.toInt ≤ 128 := by rw [hz13]; exact pj_shlI7 (by omega) (by omega)
            refine pj_X_of (fun r h => pj_R_to (G0, 83, [(0, .ref 7), (1, .int set), (2, .int op), (3, .int v3), (4, .int v4)], [.int (v3 ||| z13)], 0, 0) 83 2 (fun _ => rfl) h) ?_
            obtain ⟨z14, hz14⟩ : ∃ z : Int32, z = v3 ||| z13 := ⟨_, rfl⟩
            rw [← hz14]
            refine pj_X_of (fun r h => pj_R_to (G0, 87, [(4, .int (v4 + Int32.ofInt 1)), (3, .int z14), (0, .ref 7), (1, .int set), (2, .int op)], [], 0, 0) 87 3 (fun _ => rfl) h) ?_
            obtain ⟨z15, hz15⟩ : ∃ z : Int32, z = v4 + Int32.ofInt 1 := ⟨_, rfl⟩
            rw [← hz15]
            have fz15_0 : z15.toInt = v4.toInt + (Int32.ofInt 1).toInt := by rw [hz15]; exact pj_addI (by have := pj_i32 v4; have := pj_i32 (Int32.ofInt 1); omega) (by have := pj_i32 v4; have := pj_i32 (Int32.ofInt 1); omega)
            refine pj_X_of (fun r h => pj_R_to (G0, 5, [(4, .int z15), (3, .int z14), (0, .ref 7), (1, .int set), (2, .int op)], [], 0, 0) 5 2 (fun _ => rfl) h) ?_
            exact pj_X_sub [(0, .ref 7), (1, .int set), (2, .int op), (3, .int z14), (4, .int z15)] (show List.Nodup [0, 1, 2, 3, 4] by decide) ⟨rfl, rfl, rfl, rfl, rfl, trivial⟩ (ih z14 z15 (pj_i32 _) ⟨by omega, by omega⟩ (by omega))
      | false =>
        have ub4 := pj_u0_eqF b4
        refine pj_X_of (fun r h => pj_R_ifF rfl b4 h) ?_
        refine pj_X_of (fun r h => pj_R_to (G0, 25, [(0, .ref 7), (1, .int set), (2, .int op), (3, .int v3), (4, .int v4)], [.ref 7, .int set], 0, 0) 25 3 (fun _ => rfl) h) ?_
        refine pj_X_of (fun r h => pj_T_gr hI rfl rfl rfl h) ?_
        refine pj_X_of (fun r h => pj_R_to (G0, 30, [(0, .ref 7), (1, .int set), (2, .int op), (3, .int v3), (4, .int v4)], [.int v4, .ref 8, .int set], 0, 0) 30 2 (fun _ => rfl) h) ?_
        refine pj_X_of (fun r h => pj_T_il hI rfl rfl (by omega) (by omega) h) ?_
        show pj_X _ _ G0 31 [(0, .ref 7), (1, .int set), (2, .int op), (3, .int v3), (4, .int v4)] [.int (pj_ai G0 8 v4.toInt.toNat), .int set] _
        obtain ⟨z16, hz16⟩ : ∃ z : Int32, z = pj_ai G0 8 v4.toInt.toNat := ⟨_, rfl⟩
        rw [← hz16]
        have ez16 : (pj_ai G0 8 v4.toInt.toNat).toInt = z16.toInt := by rw [hz16]
        have fz16_0 : (0 : Int) ≤ z16.toInt ∧ z16.toInt ≤ 7 ∧ (z16.toInt ≤ 0 ∨ 0 ≤ z16.toInt) := by rw [hz16]; exact hI.2.2.1 8 (10, 0, 7, 0, 0) rfl _ (by show _ < 10; omega)
        refine pj_X_ca (vs := [.int set, .int z16]) rfl (fun _ => rfl) ⟨Nat.le_of_ble_eq_true rfl, Nat.le_of_ble_eq_true rfl, rfl⟩ ⟨rfl, rfl⟩ (pj_Y_up (by decide) (ct_163x G0 hI set z16)) ?_
        rintro _ _ ⟨y17, rfl, rfl, ry17, fy17⟩
        show pj_X _ _ G0 34 [(0, .ref 7), (1, .int set), (2, .int op), (3, .int v3), (4, .int v4)] [.int y17] _
        cases b18 : pj_c1 .eq y17 0 with
        | true =>
          have ub18 := pj_u0_eqT b18
          refine pj_X_of (fun r h => pj_R_ifT 49 rfl rfl b18 h) ?_
          refine pj_X_of (fun r h => pj_R_to (G0, 52, [(0, .ref 7), (1, .int set), (2, .int op), (3, .int v3), (4, .int v4)], [.int v4, .int op], 0, 0) 52 3 (fun _ => rfl) h) ?_
          refine pj_X_ca (vs := [.int op, .int v4]) rfl (fun _ => rfl) ⟨Nat.le_of_ble_eq_true rfl, Nat.le_of_ble_eq_true rfl, rfl⟩ ⟨rfl, rfl⟩ (pj_Y_up (by decide) (ct_163x G0 hI op v4)) ?_
          rintro _ _ ⟨y19, rfl, rfl, ry19, fy19⟩
          show pj_X _ _ G0 55 [(0, .ref 7), (1, .int set), (2, .int op), (3, .int v3), (4, .int v4)] [.int y19] _
          cases b20 : pj_c1 .eq y19 0 with
          | true =>
            have ub20 := pj_u0_eqT b20
            refine pj_X_of (fun r h => pj_R_ifT 84 rfl rfl b20 h) ?_
            refine pj_X_of (fun r h => pj_R_to (G0, 87, [(4, .int (v4 + Int32.ofInt 1)), (0, .ref 7), (1, .int set), (2, .int op), (3, .int v3)], [], 0, 0) 87 2 (fun _ => rfl) h) ?_
            obtain ⟨z21, hz21⟩ : ∃ z : Int32, z = v4 + Int32.ofInt 1 := ⟨_, rfl⟩
            rw [← hz21]
            have fz21_0 : z21.toInt = v4.toInt + (Int32.ofInt 1).toInt := by rw [hz21]; exact pj_addI (by have := pj_i32 v4; have := pj_i32 (Int32.ofInt 1); omega) (by have := pj_i32 v4; have := pj_i32 (Int32.ofInt 1); omega)
            refine pj_X_of (fun r h => pj_R_to (G0, 5, [(4, .int z21), (0, .ref 7), (1, .int set), (2, .int op), (3, .int v3)], [], 0, 0) 5 2 (fun _ => rfl) h) ?_
            exact pj_X_sub [(0, .ref 7), (1, .int set), (2, .int op), (3, .int v3), (4, .int z21)] (show List.Nodup [0, 1, 2, 3, 4] by decide) ⟨rfl, rfl, rfl, rfl, rfl, trivial⟩ (ih v3 z21 (pj_i32 _) ⟨by omega, by omega⟩ (by omega))
          | false =>
            have ub20 := pj_u0_eqF b20
            refine pj_X_of (fun r h => pj_R_ifF rfl b20 h) ?_
            refine pj_X_of (fun r h => pj_R_to (G0, 60, [(0, .ref 7), (1, .int set), (2, .int op), (3, .int v3), (4, .int v4)], [.ref 7, .int set], 0, 0) 60 3 (fun _ => rfl) h) ?_
            refine pj_X_of (fun r h => pj_T_gr hI rfl rfl rfl h) ?_
            refine pj_X_of (fun r h => pj_R_to (G0, 65, [(0, .ref 7), (1, .int set), (2, .int op), (3, .int v3), (4, .int v4)], [.int v4, .ref 9, .int set], 0, 0) 65 2 (fun _ => rfl) h) ?_
            refine pj_X_of (fun r h => pj_T_il hI rfl rfl (by omega) (by omega) h) ?_
            show pj_X _ _ G0 66 [(0, .ref 7), (1, .int set), (2, .int op), (3, .int v3), (4, .int v4)] [.int (pj_ai G0 9 v4.toInt.toNat), .int set] _
            obtain ⟨z22, hz22⟩ : ∃ z : Int32, z = pj_ai G0 9 v4.toInt.toNat := ⟨_, rfl⟩
            rw [← hz22]
            have ez22 : (pj_ai G0 9 v4.toInt.toNat).toInt = z22.toInt := by rw [hz22]
            have fz22_0 : (0 : Int) ≤ z22.toInt ∧ z22.toInt ≤ 7 ∧ (z22.toInt ≤ 0 ∨ 0 ≤ z22.toInt) := by rw [hz22]; exact hI.2.2.1 9 (10, 0, 7, 0, 0) rfl _ (by show _ < 10; omega)
            refine pj_X_ca (vs := [.int set, .int z22]) rfl (fun _ => rfl) ⟨Nat.le_of_ble_eq_true rfl, Nat.le_of_ble_eq_true rfl, rfl⟩ ⟨rfl, rfl⟩ (pj_Y_up (by decide) (ct_163x G0 hI set z22)) ?_
            rintro _ _ ⟨y23, rfl, rfl, ry23, fy23⟩
            show pj_X _ _ G0 69 [(0, .ref 7), (1, .int set), (2, .int op), (3, .int v3), (4, .int v4)] [.int y23] _
            cases b24 : pj_c1 .eq y23 0 with
            | true =>
              have ub24 := pj_u0_eqT b24
              refine pj_X_of (fun r h => pj_R_ifT 84 rfl rfl b24 h) ?_
              refine pj_X_of (fun r h => pj_R_to (G0, 87, [(4, .int (v4 + Int32.ofInt 1)), (0, .ref 7), (1, .int set), (2, .int op), (3, .int v3)], [], 0, 0) 87 2 (fun _ => rfl) h) ?_
              obtain ⟨z25, hz25⟩ : ∃ z : Int32, z = v4 + Int32.ofInt 1 := ⟨_, rfl⟩
              rw [← hz25]
              have fz25_0 : z25.toInt = v4.toInt + (Int32.ofInt 1).toInt := by rw [hz25]; exact pj_addI (by have := pj_i32 v4; have := pj_i32 (Int32.ofInt 1); omega) (by have := pj_i32 v4; have := pj_i32 (Int32.ofInt 1); omega)
              refine pj_X_of (fun r h => pj_R_to (G0, 5, [(4, .int z25), (0, .ref 7), (1, .int set), (2, .int op), (3, .int v3)], [], 0, 0) 5 2 (fun _ => rfl) h) ?_
              exact pj_X_sub [(0, .ref 7), (1, .int set), (2, .int op), (3, .int v3), (4, .int z25)] (show List.Nodup [0, 1, 2, 3, 4] by decide) ⟨rfl, rfl, rfl, rfl, rfl, trivial⟩ (ih v3 z25 (pj_i32 _) ⟨by omega, by omega⟩ (by omega))
            | false =>
              have ub24 := pj_u0_eqF b24
              refine pj_X_of (fun r h => pj_R_ifF rfl b24 h) ?_
              refine pj_X_of (fun r h => pj_R_to (G0, 75, [(0, .ref 7), (1, .int set), (2, .int op), (3, .int v3), (4, .int v4)], [.ref 7, .int (Int32.ofInt 1), .int v3], 0, 0) 75 4 (fun _ => rfl) h) ?_
              refine pj_X_of (fun r h => pj_T_gr hI rfl rfl rfl h) ?_
              refine pj_X_of (fun r h => pj_R_to (G0, 80, [(0, .ref 7), (1, .int set), (2, .int op), (3, .int v3), (4, .int v4)], [.int v4, .ref 8, .int (Int32.ofInt 1), .int v3], 0, 0) 80 2 (fun _ => rfl) h) ?_
              refine pj_X_of (fun r h => pj_T_il hI rfl rfl (by omega) (by omega) h) ?_
              show pj_X _ _ G0 81 [(0, .ref 7), (1, .int set), (2, .int op), (3, .int v3), (4, .int v4)] [.int (pj_ai G0 8 v4.toInt.toNat), .int (Int32.ofInt 1), .int v3] _
              rw [← hz16]
              refine pj_X_of (fun r h => pj_R_to (G0, 82, [(0, .ref 7), (1, .int set), (2, .int op), (3, .int v3), (4, .int v4)], [.int ((Int32.ofInt 1) <<< (z16 &&& 31)), .int v3], 0, 0) 82 2 (fun _ => rfl) h) ?_
              obtain ⟨z26, hz26⟩ : ∃ z : Int32, z = (Int32.ofInt 1) <<< (z16 &&& 31) := ⟨_, rfl⟩
              rw [← hz26]
              have fz26_0 : 1 ≤ z26.toInt ∧ z26.toInt ≤ 128 := by rw [hz26]; exact pj_shlI7 (by omega) (by omega)
              refine pj_X_of (fun r h => pj_R_to (G0, 83, [(0, .ref 7), (1, .int set), (2, .int op), (3, .int v3), (4, .int v4)], [.int (v3 ||| z26)], 0, 0) 83 2 (fun _ => rfl) h) ?_
              obtain ⟨z27, hz27⟩ : ∃ z : Int32, z = v3 ||| z26 := ⟨_, rfl⟩
              rw [← hz27]
              refine pj_X_of (fun r h => pj_R_to (G0, 87, [(4, .int (v4 + Int32.ofInt 1)), (3, .int z27), (0, .ref 7), (1, .int set), (2, .int op)], [], 0, 0) 87 3 (fun _ => rfl) h) ?_
              obtain ⟨z28, hz28⟩ : ∃ z : Int32, z = v4 + Int32.ofInt 1 := ⟨_, rfl⟩
              rw [← hz28]
              have fz28_0 : z28.toInt = v4.toInt + (Int32.ofInt 1).toInt := by rw [hz28]; exact pj_addI (by have := pj_i32 v4; have := pj_i32 (Int32.ofInt 1); omega) (by have := pj_i32 v4; have := pj_i32 (Int32.ofInt 1); omega)
              refine pj_X_of (fun r h => pj_R_to (G0, 5, [(4, .int z28), (3, .int z27), (0, .ref 7), (1, .int set), (2, .int op)], [], 0, 0) 5 2 (fun _ => rfl) h) ?_
              exact pj_X_sub [(0, .ref 7), (1, .int set), (2, .int op), (3, .int z27), (4, .int z28)] (show List.Nodup [0, 1, 2, 3, 4] by decide) ⟨rfl, rfl, rfl, rfl, rfl, trivial⟩ (ih z27 z28 (pj_i32 _) ⟨by omega, by omega⟩ (by omega))
        | false =>
          have ub18 := pj_u0_eqF b18
          refine pj_X_of (fun r h => pj_R_ifF rfl b18 h) ?_
          refine pj_X_of (fun r h => pj_R_to (G0, 40, [(0, .ref 7), (1, .int set), (2, .int op), (3, .int v3), (4, .int v4)], [.ref 7, .int (Int32.ofInt 1), .int v3], 0, 0) 40 4 (fun _ => rfl) h) ?_
          refine pj_X_of (fun r h => pj_T_gr hI rfl rfl rfl h) ?_
          refine pj_X_of (fun r h => pj_R_to (G0, 45, [(0, .ref 7), (1, .int set), (2, .int op), (3, .int v3), (4, .int v4)], [.int v4, .ref 9, .int (Int32.ofInt 1), .int v3], 0, 0) 45 2 (fun _ => rfl) h) ?_
          refine pj_X_of (fun r h => pj_T_il hI rfl rfl (by omega) (by omega) h) ?_
          show pj_X _ _ G0 46 [(0, .ref 7), (1, .int set), (2, .int op), (3, .int v3), (4, .int v4)] [.int (pj_ai G0 9 v4.toInt.toNat), .int (Int32.ofInt 1), .int v3] _
          obtain ⟨z29, hz29⟩ : ∃ z : Int32, z = pj_ai G0 9 v4.toInt.toNat := ⟨_, rfl⟩
          rw [← hz29]
          have ez29 : (pj_ai G0 9 v4.toInt.toNat).toInt = z29.toInt := by rw [hz29]
          have fz29_0 : (0 : Int) ≤ z29.toInt ∧ z29.toInt ≤ 7 ∧ (z29.toInt ≤ 0 ∨ 0 ≤ z29.toInt) := by rw [hz29]; exact hI.2.2.1 9 (10, 0, 7, 0, 0) rfl _ (by show _ < 10; omega)
          refine pj_X_of (fun r h => pj_R_to (G0, 47, [(0, .ref 7), (1, .int set), (2, .int op), (3, .int v3), (4, .int v4)], [.int ((Int32.ofInt 1) <<< (z29 &&& 31)), .int v3], 0, 0) 47 2 (fun _ => rfl) h) ?_
          obtain ⟨z30, hz30⟩ : ∃ z : Int32, z = (Int32.ofInt 1) <<< (z29 &&& 31) := ⟨_, rfl⟩
          rw [← hz30]
          have fz30_0 : 1 ≤ z30.toInt ∧ z30.toInt ≤ 128 := by rw [hz30]; exact pj_shlI7 (by omega) (by omega)
          refine pj_X_of (fun r h => pj_R_to (G0, 48, [(0, .ref 7), (1, .int set), (2, .int op), (3, .int v3), (4, .int v4)], [.int (v3 ||| z30)], 0, 0) 48 2 (fun _ => rfl) h) ?_
          obtain ⟨z31, hz31⟩ : ∃ z : Int32, z = v3 ||| z30 := ⟨_, rfl⟩
          rw [← hz31]
          refine pj_X_of (fun r h => pj_R_to (G0, 52, [(3, .int z31), (0, .ref 7), (1, .int set), (2, .int op), (4, .int v4)], [.int v4, .int op], 0, 0) 52 4 (fun _ => rfl) h) ?_
          refine pj_X_ca (vs := [.int op, .int v4]) rfl (fun _ => rfl) ⟨Nat.le_of_ble_eq_true rfl, Nat.le_of_ble_eq_true rfl, rfl⟩ ⟨rfl, rfl⟩ (pj_Y_up (by decide) (ct_163x G0 hI op v4)) ?_
          rintro _ _ ⟨y32, rfl, rfl, ry32, fy32⟩
          show pj_X _ _ G0 55 [(3, .int z31), (0, .ref 7), (1, .int set), (2, .int op), (4, .int v4)] [.int y32] _
          cases b33 : pj_c1 .eq y32 0 with
          | true =>
            have ub33 := pj_u0_eqT b33
            refine pj_X_of (fun r h => pj_R_ifT 84 rfl rfl b33 h) ?_
            refine pj_X_of (fun r h => pj_R_to (G0, 87, [(4, .int (v4 + Int32.ofInt 1)), (3, .int z31), (0, .ref 7), (1, .int set), (2, .int op)], [], 0, 0) 87 2 (fun _ => rfl) h) ?_
            obtain ⟨z34, hz34⟩ : ∃ z : Int32, z = v4 + Int32.ofInt 1 := ⟨_, rfl⟩
            rw [← hz34]
            have fz34_0 : z34.toInt = v4.toInt + (Int32.ofInt 1).toInt := by rw [hz34]; exact pj_addI (by have := pj_i32 v4; have := pj_i32 (Int32.ofInt 1); omega) (by have := pj_i32 v4; have := pj_i32 (Int32.ofInt 1); omega)
            refine pj_X_of (fun r h => pj_R_to (G0, 5, [(4, .int z34), (3, .int z31), (0, .ref 7), (1, .int set), (2, .int op)], [], 0, 0) 5 2 (fun _ => rfl) h) ?_
            exact pj_X_sub [(0, .ref 7), (1, .int set), (2, .int op), (3, .int z31), (4, .int z34)] (show List.Nodup [0, 1, 2, 3, 4] by decide) ⟨rfl, rfl, rfl, rfl, rfl, trivial⟩ (ih z31 z34 (pj_i32 _) ⟨by omega, by omega⟩ (by omega))
          | false =>
            have ub33 := pj_u0_eqF b33
            refine pj_X_of (fun r h => pj_R_ifF rfl b33 h) ?_
            refine pj_X_of (fun r h => pj_R_to (G0, 60, [(3, .int z31), (0, .ref 7), (1, .int set), (2, .int op), (4, .int v4)], [.ref 7, .int set], 0, 0) 60 3 (fun _ => rfl) h) ?_
            refine pj_X_of (fun r h => pj_T_gr hI rfl rfl rfl h) ?_
            refine pj_X_of (fun r h => pj_R_to (G0, 65, [(3, .int z31), (0, .ref 7), (1, .int set), (2, .int op), (4, .int v4)], [.int v4, .ref 9, .int set], 0, 0) 65 2 (fun _ => rfl) h) ?_
            refine pj_X_of (fun r h => pj_T_il hI rfl rfl (by omega) (by omega) h) ?_
            show pj_X _ _ G0 66 [(3, .int z31), (0, .ref 7), (1, .int set), (2, .int op), (4, .int v4)] [.int (pj_ai G0 9 v4.toInt.toNat), .int set] _
            rw [← hz29]
            refine pj_X_ca (vs := [.int set, .int z29]) rfl (fun _ => rfl) ⟨Nat.le_of_ble_eq_true rfl, Nat.le_of_ble_eq_true rfl, rfl⟩ ⟨rfl, rfl⟩ (pj_Y_up (by decide) (ct_163x G0 hI set z29)) ?_
            rintro _ _ ⟨y35, rfl, rfl, ry35, fy35⟩
            show pj_X _ _ G0 69 [(3, .int z31), (0, .ref 7), (1, .int set), (2, .int op), (4, .int v4)] [.int y35] _
            cases b36 : pj_c1 .eq y35 0 with
            | true =>
              have ub36 := pj_u0_eqT b36
              refine pj_X_of (fun r h => pj_R_ifT 84 rfl rfl b36 h) ?_
              refine pj_X_of (fun r h => pj_R_to (G0, 87, [(4, .int (v4 + Int32.ofInt 1)), (3, .int z31), (0, .ref 7), (1, .int set), (2, .int op)], [], 0, 0) 87 2 (fun _ => rfl) h) ?_
              obtain ⟨z37, hz37⟩ : ∃ z : Int32, z = v4 + Int32.ofInt 1 := ⟨_, rfl⟩
              rw [← hz37]
              have fz37_0 : z37.toInt = v4.toInt + (Int32.ofInt 1).toInt := by rw [hz37]; exact pj_addI (by have := pj_i32 v4; have := pj_i32 (Int32.ofInt 1); omega) (by have := pj_i32 v4; have := pj_i32 (Int32.ofInt 1); omega)
              refine pj_X_of (fun r h => pj_R_to (G0, 5, [(4, .int z37), (3, .int z31), (0, .ref 7), (1, .int set), (2, .int op)], [], 0, 0) 5 2 (fun _ => rfl) h) ?_
              exact pj_X_sub [(0, .ref 7), (1, .int set), (2, .int op), (3, .int z31), (4, .int z37)] (show List.Nodup [0, 1, 2, 3, 4] by decide) ⟨rfl, rfl, rfl, rfl, rfl, trivial⟩ (ih z31 z37 (pj_i32 _) ⟨by omega, by omega⟩ (by omega))
            | false =>
              have ub36 := pj_u0_eqF b36
              refine pj_X_of (fun r h => pj_R_ifF rfl b36 h) ?_
              refine pj_X_of (fun r h => pj_R_to (G0, 75, [(3, .int z31), (0, .ref 7), (1, .int set), (2, .int op), (4, .int v4)], [.ref 7, .int (Int32.ofInt 1), .int z31], 0, 0) 75 4 (fun _ => rfl) h) ?_
              refine pj_X_of (fun r h => pj_T_gr hI rfl rfl rfl h) ?_
              refine pj_X_of (fun r h => pj_R_to (G0, 80, [(3, .int z31), (0, .ref 7), (1, .int set), (2, .int op), (4, .int v4)], [.int v4, .ref 8, .int (Int32.ofInt 1), .int z31], 0, 0) 80 2 (fun _ => rfl) h) ?_
              refine pj_X_of (fun r h => pj_T_il hI rfl rfl (by omega) (by omega) h) ?_
              show pj_X _ _ G0 81 [(3, .int z31), (0, .ref 7), (1, .int set), (2, .int op), (4, .int v4)] [.int (pj_ai G0 8 v4.toInt.toNat), .int (Int32.ofInt 1), .int z31] _
              rw [← hz16]
              refine pj_X_of (fun r h => pj_R_to (G0, 82, [(3, .int z31), (0, .ref 7), (1, .int set), (2, .int op), (4, .int v4)], [.int ((Int32.ofInt 1) <<< (z16 &&& 31)), .int z31], 0, 0) 82 2 (fun _ => rfl) h) ?_
              obtain ⟨z38, hz38⟩ : ∃ z : Int32, z = (Int32.ofInt 1) <<< (z16 &&& 31) := ⟨_, rfl⟩
              rw [← hz38]
              have fz38_0 : 1 ≤ z38.toInt ∧ z38.toInt ≤ 128 := by rw [hz38]; exact pj_shlI7 (by omega) (by omega)
              refine pj_X_of (fun r h => pj_R_to (G0, 83, [(3, .int z31), (0, .ref 7), (1, .int set), (2, .int op), (4, .int v4)], [.int (z31 ||| z38)], 0, 0) 83 2 (fun _ => rfl) h) ?_
              obtain ⟨z39, hz39⟩ : ∃ z : Int32, z = z31 ||| z38 := ⟨_, rfl⟩
              rw [← hz39]
              refine pj_X_of (fun r h => pj_R_to (G0, 87, [(4, .int (v4 + Int32.ofInt 1)), (3, .int z39), (0, .ref 7), (1, .int set), (2, .int op)], [], 0, 0) 87 3 (fun _ => rfl) h) ?_
              obtain ⟨z40, hz40⟩ : ∃ z : Int32, z = v4 + Int32.ofInt 1 := ⟨_, rfl⟩
              rw [← hz40]
              have fz40_0 : z40.toInt = v4.toInt + (Int32.ofInt 1).toInt := by rw [hz40]; exact pj_addI (by have := pj_i32 v4; have := pj_i32 (Int32.ofInt 1); omega) (by have := pj_i32 v4; have := pj_i32 (Int32.ofInt 1); omega)
              refine pj_X_of (fun r h => pj_R_to (G0, 5, [(4, .int z40), (3, .int z39), (0, .ref 7), (1, .int set), (2, .int op)], [], 0, 0) 5 2 (fun _ => rfl) h) ?_
              exact pj_X_sub [(0, .ref 7), (1, .int set), (2, .int op), (3, .int z39), (4, .int z40)] (show List.Nodup [0, 1, 2, 3, 4] by decide) ⟨rfl, rfl, rfl, rfl, rfl, trivial⟩ (ih z39 z40 (pj_i32 _) ⟨by omega, by omega⟩ (by omega))
theorem ct_45_7 (G0 : pj_G) (hI : pj_Inv G0) (set : Int32) (op : Int32) : pj_Y 2 45 [.ref 7, .int set, .int op] G0 (fun v G' => ∃ y : Int32, v = some (.int y) ∧ G0 = G' ∧ ((-2147483648 : Int) ≤ y.toInt ∧ y.toInt ≤ 2147483647)) := by
  have c0_ : (Int32.ofInt 0).toInt = 0 := by decide
  have c1_ : (Int32.ofInt 1).toInt = 1 := by decide
  refine pj_Y_X (M := pj_m45) rfl rfl (Nat.le_of_ble_eq_true rfl) ?_
  have hK : pj_kpt ([], [], []) G0 G0 := pj_kpt_r _ _
  show pj_X _ _ G0 0 [(0, .ref 7), (1, .int set), (2, .int op)] [] _
  refine pj_X_of (fun r h => pj_R_to (G0, 5, [(4, .int (Int32.ofInt 0)), (3, .int set), (0, .ref 7), (1, .int set), (2, .int op)], [], 0, 0) 5 5 (fun _ => rfl) h) ?_
  exact pj_X_sub [(0, .ref 7), (1, .int set), (2, .int op), (3, .int set), (4, .int (Int32.ofInt 0))] (show List.Nodup [0, 1, 2, 3, 4] by decide) ⟨rfl, rfl, rfl, rfl, rfl, trivial⟩ ((lp_ct_45_7 G0 hI set op  11) set (Int32.ofInt 0) (pj_i32 _) ⟨by omega, by omega⟩ (by omega))
theorem lp_ct_46_7 (G0 : pj_G) (hI : pj_Inv G0) (b : Int32) (st : Int32) (op : Int32) (rst : (0 : Int) ≤ st.toInt ∧ st.toInt ≤ 8) : ∀ mn : Nat, (∀ (v4 : Int32) (v5 : Int32), ((-2147483648 : Int) ≤ v4.toInt ∧ v4.toInt ≤ 2147483647) → ((0 : Int) ≤ v5.toInt ∧ v5.toInt ≤ 8) → 8 - v5.toInt < (mn : Int) → pj_X 2 pj_m46 G0 8 [(0, .ref 7), (1, .int b), (2, .int st), (3, .int op), (4, .int v4), (5, .int v5)] [] (fun v G' => ∃ y : Int32, v = some (.int y) ∧ G0 = G' ∧ ((-2147483648 : Int) ≤ y.toInt ∧ y.toInt ≤ 2147483647))) := by
  have c0_ : (Int32.ofInt 0).toInt = 0 := by decide
  have c1_ : (Int32.ofInt 1).toInt = 1 := by decide
  have hK : pj_kpt ([], [], []) G0 G0 := pj_kpt_r _ _
  intro mn
  induction mn with
  | zero =>
    intro v4 v5 rv4 rv5 hm
    exfalso
    omega
  | succ mn ih =>
    intro v4 v5 rv4 rv5 hm
    refine pj_X_of (fun r h => pj_R_to (G0, 11, [(0, .ref 7), (1, .int b), (2, .int st), (3, .int op), (4, .int v4), (5, .int v5)], [.int st, .int v5], 0, 0) 11 3 (fun _ => rfl) h) ?_
    cases b1 : pj_c1 .ge v5 st with
    | true =>
      have ub1 := pj_u_geT b1
      refine pj_X_of (fun r h => pj_R_icT 29 rfl rfl b1 h) ?_
      refine pj_X_of (fun r h => pj_R_to (G0, 31, [(0, .ref 7), (1, .int b), (2, .int st), (3, .int op), (4, .int v4), (5, .int v5)], [.int v4], 0, 0) 31 2 (fun _ => rfl) h) ?_
      exact pj_X_rt rfl rfl ⟨_, rfl, rfl, pj_i32 _⟩
    | false =>
      have ub1 := pj_u_geF b1
      refine pj_X_of (fun r h => pj_R_icF rfl b1 h) ?_
      refine pj_X_of (fun r h => pj_R_to (G0, 18, [(0, .ref 7), (1, .int b), (2, .int st), (3, .int op), (4, .int v4), (5, .int v5)], [.int op, .int v4, .ref 7], 0, 0) 18 4 (fun _ => rfl) h) ?_
      refine pj_X_ca (vs := [.ref 7, .int v4, .int op]) rfl (fun _ => rfl) ⟨Nat.le_of_ble_eq_true rfl, Nat.le_of_ble_eq_true rfl, pj_T_rcv hI rfl⟩ ⟨rfl, rfl⟩ (pj_Y_up (by decide) (ct_45_7 G0 hI v4 op)) ?_
      rintro _ _ ⟨y2, rfl, rfl, ry2⟩
      show pj_X _ _ G0 21 [(0, .ref 7), (1, .int b), (2, .int st), (3, .int op), (4, .int v4), (5, .int v5)] [.int y2] _
      refine pj_X_of (fun r h => pj_R_to (G0, 26, [(5, .int (v5 + Int32.ofInt 1)), (4, .int y2), (0, .ref 7), (1, .int b), (2, .int st), (3, .int op)], [], 0, 0) 26 3 (fun _ => rfl) h) ?_
      obtain ⟨z3, hz3⟩ : ∃ z : Int32, z = v5 + Int32.ofInt 1 := ⟨_, rfl⟩
      rw [← hz3]
      have fz3_0 : z3.toInt = v5.toInt + (Int32.ofInt 1).toInt := by rw [hz3]; exact pj_addI (by have := pj_i32 v5; have := pj_i32 (Int32.ofInt 1); omega) (by have := pj_i32 v5; have := pj_i32 (Int32.ofInt 1); omega)
      refine pj_X_of (fun r h => pj_R_to (G0, 8, [(5, .int z3), (4, .int y2), (0, .ref 7), (1, .int b), (2, .int st), (3, .int op)], [], 0, 0) 8 2 (fun _ => rfl) h) ?_
      exact pj_X_sub [(0, .ref 7), (1, .int b), (2, .int st), (3, .int op), (4, .int y2), (5, .int z3)] (show List.Nodup [0, 1, 2, 3, 4, 5] by decide) ⟨rfl, rfl, rfl, rfl, rfl, rfl, trivial⟩ (ih y2 z3 (pj_i32 _) ⟨by omega, by omega⟩ (by omega))
theorem ct_46_7 (G0 : pj_G) (hI : pj_Inv G0) (b : Int32) (st : Int32) (op : Int32) (rst : (0 : Int) ≤ st.toInt ∧ st.toInt ≤ 8) : pj_Y 3 46 [.ref 7, .int b, .int st, .int op] G0 (fun v G' => ∃ y : Int32, v = some (.int y) ∧ G0 = G' ∧ ((-2147483648 : Int) ≤ y.toInt ∧ y.toInt ≤ 2147483647)) := by
  have c0_ : (Int32.ofInt 0).toInt = 0 := by decide
  have c1_ : (Int32.ofInt 1).toInt = 1 := by decide
  refine pj_Y_X (M := pj_m46) rfl rfl (Nat.le_of_ble_eq_true rfl) ?_
  have hK : pj_kpt ([], [], []) G0 G0 := pj_kpt_r _ _
  show pj_X _ _ G0 0 [(0, .ref 7), (1, .int b), (2, .int st), (3, .int op)] [] _
  refine pj_X_of (fun r h => pj_R_to (G0, 3, [(0, .ref 7), (1, .int b), (2, .int st), (3, .int op)], [.int ((Int32.ofInt 1) <<< (b &&& 31))], 0, 0) 3 4 (fun _ => rfl) h) ?_
  obtain ⟨z4, hz4⟩ : ∃ z : Int32, z = (Int32.ofInt 1) <<< (b &&& 31) := ⟨_, rfl⟩
  rw [← hz4]
  refine pj_X_of (fun r h => pj_R_to (G0, 8, [(5, .int (Int32.ofInt 0)), (4, .int z4), (0, .ref 7), (1, .int b), (2, .int st), (3, .int op)], [], 0, 0) 8 4 (fun _ => rfl) h) ?_
  exact pj_X_sub [(0, .ref 7), (1, .int b), (2, .int st), (3, .int op), (4, .int z4), (5, .int (Int32.ofInt 0))] (show List.Nodup [0, 1, 2, 3, 4, 5] by decide) ⟨rfl, rfl, rfl, rfl, rfl, rfl, trivial⟩ ((lp_ct_46_7 G0 hI b st op rst 9) z4 (Int32.ofInt 0) (pj_i32 _) ⟨by omega, by omega⟩ (by omega))
theorem lp_ct_47_7 (G0 : pj_G) (hI : pj_Inv G0) (b : Int32) (op : Int32) : ∀ mn : Nat, (∀ (v3 : Int32) (v4 : Int32), ((-2147483648 : Int) ≤ v3.toInt ∧ v3.toInt ≤ 2147483647) → ((0 : Int) ≤ v4.toInt ∧ v4.toInt ≤ 8) → 8 - v4.toInt < (mn : Int) → pj_X 2 pj_m47 G0 7 [(0, .ref 7), (1, .int b), (2, .int op), (3, .int v3), (4, .int v4)] [] (fun v G' => ∃ y : Int32, v = some (.int y) ∧ G0 = G' ∧ ((-2147483648 : Int) ≤ y.toInt ∧ y.toInt ≤ 2147483647))) := by
  have c0_ : (Int32.ofInt 0).toInt = 0 := by decide
  have c1_ : (Int32.ofInt 1).toInt = 1 := by decide
  have hK : pj_kpt ([], [], []) G0 G0 := pj_kpt_r _ _
  intro mn
  induction mn with
  | zero =>
    intro v3 v4 rv3 rv4 hm
    exfalso
    omega
  | succ mn ih =>
    intro v3 v4 rv3 rv4 hm
    refine pj_X_of (fun r h => pj_R_to (G0, 10, [(0, .ref 7), (1, .int b), (2, .int op), (3, .int v3), (4, .int v4)], [.ref 7, .int v4], 0, 0) 10 3 (fun _ => rfl) h) ?_
    refine pj_X_of (fun r h => pj_T_gi hI rfl rfl h) ?_
    show pj_X _ _ G0 13 [(0, .ref 7), (1, .int b), (2, .int op), (3, .int v3), (4, .int v4)] [.int (pj_fi G0 7 0), .int v4] _
    obtain ⟨y1, hy1⟩ : ∃ z : Int32, z = pj_fi G0 7 0 := ⟨_, rfl⟩
    rw [← hy1]
    have ey1 : (pj_fi G0 7 0).toInt = y1.toInt := by rw [hy1]
    have ry1 : (0 : Int) ≤ y1.toInt ∧ y1.toInt ≤ 8 := by rw [hy1]; exact hI.2.1 7 0 (0, 8) rfl
    cases b2 : pj_c1 .ge v4 y1 with
    | true =>
      have ub2 := pj_u_geT b2
      refine pj_X_of (fun r h => pj_R_icT 41 rfl rfl b2 h) ?_
      refine pj_X_of (fun r h => pj_R_to (G0, 42, [(0, .ref 7), (1, .int b), (2, .int op), (3, .int v3), (4, .int v4)], [.int v3], 0, 0) 42 2 (fun _ => rfl) h) ?_
      exact pj_X_rt rfl rfl ⟨_, rfl, rfl, pj_i32 _⟩
    | false =>
      have ub2 := pj_u_geF b2
      refine pj_X_of (fun r h => pj_R_icF rfl b2 h) ?_
      refine pj_X_of (fun r h => pj_R_to (G0, 19, [(0, .ref 7), (1, .int b), (2, .int op), (3, .int v3), (4, .int v4)], [.int op, .int v3, .ref 7], 0, 0) 19 4 (fun _ => rfl) h) ?_
      refine pj_X_ca (vs := [.ref 7, .int v3, .int op]) rfl (fun _ => rfl) ⟨Nat.le_of_ble_eq_true rfl, Nat.le_of_ble_eq_true rfl, pj_T_rcv hI rfl⟩ ⟨rfl, rfl⟩ (pj_Y_up (by decide) (ct_45_7 G0 hI v3 op)) ?_
      rintro _ _ ⟨y3, rfl, rfl, ry3⟩
      show pj_X _ _ G0 22 [(0, .ref 7), (1, .int b), (2, .int op), (3, .int v3), (4, .int v4)] [.int y3] _
      refine pj_X_of (fun r h => pj_R_to (G0, 27, [(5, .int y3), (0, .ref 7), (1, .int b), (2, .int op), (3, .int v3), (4, .int v4)], [.int v3, .int y3], 0, 0) 27 4 (fun _ => rfl) h) ?_
      cases b4 : pj_c1 .ne y3 v3 with
      | true =>
        have ub4 := pj_u_neT b4
        refine pj_X_of (fun r h => pj_R_icT 32 rfl rfl b4 h) ?_
        refine pj_X_of (fun r h => pj_R_to (G0, 38, [(4, .int (v4 + Int32.ofInt 1)), (3, .int y3), (5, .int y3), (0, .ref 7), (1, .int b), (2, .int op)], [], 0, 0) 38 4 (fun _ => rfl) h) ?_
        obtain ⟨z5, hz5⟩ : ∃ z : Int32, z = v4 + Int32.ofInt 1 := ⟨_, rfl⟩
        rw [← hz5]
        have fz5_0 : z5.toInt = v4.toInt + (Int32.ofInt 1).toInt := by rw [hz5]; exact pj_addI (by have := pj_i32 v4; have := pj_i32 (Int32.ofInt 1); omega) (by have := pj_i32 v4; have := pj_i32 (Int32.ofInt 1); omega)
        refine pj_X_of (fun r h => pj_R_to (G0, 7, [(4, .int z5), (3, .int y3), (5, .int y3), (0, .ref 7), (1, .int b), (2, .int op)], [], 0, 0) 7 2 (fun _ => rfl) h) ?_
        exact pj_X_sub [(0, .ref 7), (1, .int b), (2, .int op), (3, .int y3), (4, .int z5)] (show List.Nodup [0, 1, 2, 3, 4] by decide) ⟨rfl, rfl, rfl, rfl, rfl, trivial⟩ (ih y3 z5 (pj_i32 _) ⟨by omega, by omega⟩ (by omega))
      | false =>
        have ub4 := pj_u_neF b4
        refine pj_X_of (fun r h => pj_R_icF rfl b4 h) ?_
        refine pj_X_of (fun r h => pj_R_to (G0, 31, [(5, .int y3), (0, .ref 7), (1, .int b), (2, .int op), (3, .int v3), (4, .int v4)], [.int v3], 0, 0) 31 2 (fun _ => rfl) h) ?_
        exact pj_X_rt rfl rfl ⟨_, rfl, rfl, pj_i32 _⟩
theorem ct_47_7 (G0 : pj_G) (hI : pj_Inv G0) (b : Int32) (op : Int32) : pj_Y 3 47 [.ref 7, .int b, .int op] G0 (fun v G' => ∃ y : Int32, v = some (.int y) ∧ G0 = G' ∧ ((-2147483648 : Int) ≤ y.toInt ∧ y.toInt ≤ 2147483647)) := by
  have c0_ : (Int32.ofInt 0).toInt = 0 := by decide
  have c1_ : (Int32.ofInt 1).toInt = 1 := by decide
  refine pj_Y_X (M := pj_m47) rfl rfl (Nat.le_of_ble_eq_true rfl) ?_
  have hK : pj_kpt ([], [], []) G0 G0 := pj_kpt_r _ _
  show pj_X _ _ G0 0 [(0, .ref 7), (1, .int b), (2, .int op)] [] _
  refine pj_X_of (fun r h => pj_R_to (G0, 3, [(0, .ref 7), (1, .int b), (2, .int op)], [.int ((Int32.ofInt 1) <<< (b &&& 31))], 0, 0) 3 4 (fun _ => rfl) h) ?_
  obtain ⟨z6, hz6⟩ : ∃ z : Int32, z = (Int32.ofInt 1) <<< (b &&& 31) := ⟨_, rfl⟩
  rw [← hz6]
  refine pj_X_of (fun r h => pj_R_to (G0, 7, [(4, .int (Int32.ofInt 0)), (3, .int z6), (0, .ref 7), (1, .int b), (2, .int op)], [], 0, 0) 7 4 (fun _ => rfl) h) ?_
  exact pj_X_sub [(0, .ref 7), (1, .int b), (2, .int op), (3, .int z6), (4, .int (Int32.ofInt 0))] (show List.Nodup [0, 1, 2, 3, 4] by decide) ⟨rfl, rfl, rfl, rfl, rfl, trivial⟩ ((lp_ct_47_7 G0 hI b op  9) z6 (Int32.ofInt 0) (pj_i32 _) ⟨by omega, by omega⟩ (by omega))
theorem ct_48_7 (G0 : pj_G) (hI : pj_Inv G0) (f : Int32) (to : Int32) (op : Int32) : pj_Y 4 48 [.ref 7, .int f, .int to, .int op] G0 (fun v G' => ∃ y : Int32, v = some (.int y) ∧ G0 = G' ∧ ((0 : Int) ≤ y.toInt ∧ y.toInt ≤ 1)) := by
  refine pj_Y_X (M := pj_m48) rfl rfl (Nat.le_of_ble_eq_true rfl) ?_
  have hK : pj_kpt ([], [], []) G0 G0 := pj_kpt_r _ _
  show pj_X _ _ G0 0 [(0, .ref 7), (1, .int f), (2, .int to), (3, .int op)] [] _
  refine pj_X_of (fun r h => pj_R_to (G0, 3, [(0, .ref 7), (1, .int f), (2, .int to), (3, .int op)], [.int op, .int f, .ref 7], 0, 0) 3 4 (fun _ => rfl) h) ?_
  refine pj_X_ca (vs := [.ref 7, .int f, .int op]) rfl (fun _ => rfl) ⟨Nat.le_of_ble_eq_true rfl, Nat.le_of_ble_eq_true rfl, pj_T_rcv hI rfl⟩ ⟨rfl, rfl⟩ (pj_Y_up (by decide) (ct_47_7 G0 hI f op)) ?_
  rintro _ _ ⟨y1, rfl, rfl, ry1⟩
  show pj_X _ _ G0 6 [(0, .ref 7), (1, .int f), (2, .int to), (3, .int op)] [.int y1] _
  refine pj_X_of (fun r h => pj_R_to (G0, 7, [(0, .ref 7), (1, .int f), (2, .int to), (3, .int op)], [.int to, .int y1], 0, 0) 7 2 (fun _ => rfl) h) ?_
  refine pj_X_ca (vs := [.int y1, .int to]) rfl (fun _ => rfl) ⟨Nat.le_of_ble_eq_true rfl, Nat.le_of_ble_eq_true rfl, rfl⟩ ⟨rfl, rfl⟩ (pj_Y_up (by decide) (ct_163x G0 hI y1 to)) ?_
  rintro _ _ ⟨y2, rfl, rfl, ry2, fy2⟩
  show pj_X _ _ G0 10 [(0, .ref 7), (1, .int f), (2, .int to), (3, .int op)] [.int y2] _
  exact pj_X_rt (v := some (.int y2)) rfl (pj_rtb ⟨by omega, by omega⟩) ⟨_, rfl, rfl, ⟨by omega, by omega⟩⟩
theorem lp_ct_49_7 (G0 : pj_G) (hI : pj_Inv G0) (op : Int32) : ∀ mn : Nat, (∀ (v2 : Int32) (v3 : Int32) (v4 : Int32), ((-2147483648 : Int) ≤ v2.toInt ∧ v2.toInt ≤ 2147483647) → ((-2147483648 : Int) ≤ v3.toInt ∧ v3.toInt ≤ 2147483647) → ((0 : Int) ≤ v4.toInt ∧ v4.toInt ≤ 8) → 8 - v4.toInt < (mn : Int) → pj_X 3 pj_m49 G0 7 [(0, .ref 7), (1, .int op), (2, .int v2), (3, .int v3), (4, .int v4)] [] (fun v G' => ∃ y : Int32, v = some (.int y) ∧ G0 = G' ∧ ((-2147483648 : Int) ≤ y.toInt ∧ y.toInt ≤ 2147483647))) := by
  have c0_ : (Int32.ofInt 0).toInt = 0 := by decide
  have c1_ : (Int32.ofInt 1).toInt = 1 := by decide
  have c2_ : (Int32.ofInt 2).toInt = 2 := by decide
  have hK : pj_kpt ([], [], []) G0 G0 := pj_kpt_r _ _
  intro mn
  induction mn with
  | zero =>
    intro v2 v3 v4 rv2 rv3 rv4 hm
    exfalso
    omega
  | succ mn ih =>
    intro v2 v3 v4 rv2 rv3 rv4 hm
    refine pj_X_of (fun r h => pj_R_to (G0, 10, [(0, .ref 7), (1, .int op), (2, .int v2), (3, .int v3), (4, .int v4)], [.ref 7, .int v4], 0, 0) 10 3 (fun _ => rfl) h) ?_
    refine pj_X_of (fun r h => pj_T_gi hI rfl rfl h) ?_
    show pj_X _ _ G0 13 [(0, .ref 7), (1, .int op), (2, .int v2), (3, .int v3), (4, .int v4)] [.int (pj_fi G0 7 0), .int v4] _
    obtain ⟨y1, hy1⟩ : ∃ z : Int32, z = pj_fi G0 7 0 := ⟨_, rfl⟩
    rw [← hy1]
    have ey1 : (pj_fi G0 7 0).toInt = y1.toInt := by rw [hy1]
    have ry1 : (0 : Int) ≤ y1.toInt ∧ y1.toInt ≤ 8 := by rw [hy1]; exact hI.2.1 7 0 (0, 8) rfl
    cases b2 : pj_c1 .ge v4 y1 with
    | true =>
      have ub2 := pj_u_geT b2
      refine pj_X_of (fun r h => pj_R_icT 64 rfl rfl b2 h) ?_
      refine pj_X_of (fun r h => pj_R_to (G0, 65, [(0, .ref 7), (1, .int op), (2, .int v2), (3, .int v3), (4, .int v4)], [.int v2], 0, 0) 65 2 (fun _ => rfl) h) ?_
      exact pj_X_rt rfl rfl ⟨_, rfl, rfl, pj_i32 _⟩
    | false =>
      have ub2 := pj_u_geF b2
      refine pj_X_of (fun r h => pj_R_icF rfl b2 h) ?_
      refine pj_X_of (fun r h => pj_R_to (G0, 19, [(0, .ref 7), (1, .int op), (2, .int v2), (3, .int v3), (4, .int v4)], [.int v4, .int v3], 0, 0) 19 3 (fun _ => rfl) h) ?_
      refine pj_X_ca (vs := [.int v3, .int v4]) rfl (fun _ => rfl) ⟨Nat.le_of_ble_eq_true rfl, Nat.le_of_ble_eq_true rfl, rfl⟩ ⟨rfl, rfl⟩ (pj_Y_up (by decide) (ct_163x G0 hI v3 v4)) ?_
      rintro _ _ ⟨y3, rfl, rfl, ry3, fy3⟩
      show pj_X _ _ G0 22 [(0, .ref 7), (1, .int op), (2, .int v2), (3, .int v3), (4, .int v4)] [.int y3] _
      cases b4 : pj_c1 .ne y3 0 with
      | true =>
        have ub4 := pj_u0_neT b4
        refine pj_X_of (fun r h => pj_R_ifT 58 rfl rfl b4 h) ?_
        refine pj_X_of (fun r h => pj_R_to (G0, 61, [(4, .int (v4 + Int32.ofInt 1)), (0, .ref 7), (1, .int op), (2, .int v2), (3, .int v3)], [], 0, 0) 61 2 (fun _ => rfl) h) ?_
        obtain ⟨z5, hz5⟩ : ∃ z : Int32, z = v4 + Int32.ofInt 1 := ⟨_, rfl⟩
        rw [← hz5]
        have fz5_0 : z5.toInt = v4.toInt + (Int32.ofInt 1).toInt := by rw [hz5]; exact pj_addI (by have := pj_i32 v4; have := pj_i32 (Int32.ofInt 1); omega) (by have := pj_i32 v4; have := pj_i32 (Int32.ofInt 1); omega)
        refine pj_X_of (fun r h => pj_R_to (G0, 7, [(4, .int z5), (0, .ref 7), (1, .int op), (2, .int v2), (3, .int v3)], [], 0, 0) 7 2 (fun _ => rfl) h) ?_
        exact pj_X_sub [(0, .ref 7), (1, .int op), (2, .int v2), (3, .int v3), (4, .int z5)] (show List.Nodup [0, 1, 2, 3, 4] by decide) ⟨rfl, rfl, rfl, rfl, rfl, trivial⟩ (ih v2 v3 z5 (pj_i32 _) (pj_i32 _) ⟨by omega, by omega⟩ (by omega))
      | false =>
        have ub4 := pj_u0_neF b4
        refine pj_X_of (fun r h => pj_R_ifF rfl b4 h) ?_
        refine pj_X_of (fun r h => pj_R_to (G0, 29, [(0, .ref 7), (1, .int op), (2, .int v2), (3, .int v3), (4, .int v4)], [.int op, .int v4, .ref 7], 0, 0) 29 4 (fun _ => rfl) h) ?_
        refine pj_X_ca (vs := [.ref 7, .int v4, .int op]) rfl (fun _ => rfl) ⟨Nat.le_of_ble_eq_true rfl, Nat.le_of_ble_eq_true rfl, pj_T_rcv hI rfl⟩ ⟨rfl, rfl⟩ (pj_Y_up (by decide) (ct_47_7 G0 hI v4 op)) ?_
        rintro _ _ ⟨y6, rfl, rfl, ry6⟩
        show pj_X _ _ G0 32 [(0, .ref 7), (1, .int op), (2, .int v2), (3, .int v3), (4, .int v4)] [.int y6] _
        refine pj_X_of (fun r h => pj_R_to (G0, 36, [(5, .int y6), (0, .ref 7), (1, .int op), (2, .int v2), (3, .int v3), (4, .int v4)], [.int y6], 0, 0) 36 3 (fun _ => rfl) h) ?_
        refine pj_X_ca (vs := [.int y6]) rfl (fun _ => rfl) ⟨Nat.le_of_ble_eq_true rfl, Nat.le_of_ble_eq_true rfl, rfl⟩ ⟨rfl, rfl⟩ (pj_Y_up (by decide) (ct_287 G0 hI y6)) ?_
        rintro _ _ ⟨y7, rfl, rfl, ry7⟩
        show pj_X _ _ G0 39 [(5, .int y6), (0, .ref 7), (1, .int op), (2, .int v2), (3, .int v3), (4, .int v4)] [.int y7] _
        refine pj_X_of (fun r h => pj_R_to (G0, 48, [(6, .int y7), (5, .int y6), (0, .ref 7), (1, .int op), (2, .int v2), (3, .int v3), (4, .int v4)], [.int (y7 - (Int32.ofInt 1)), .int y7, .int v2], 0, 0) 48 7 (fun _ => rfl) h) ?_
        obtain ⟨z8, hz8⟩ : ∃ z : Int32, z = y7 - (Int32.ofInt 1) := ⟨_, rfl⟩
        rw [← hz8]
        refine pj_X_of (fun r h => pj_R_to (G0, 49, [(6, .int y7), (5, .int y6), (0, .ref 7), (1, .int op), (2, .int v2), (3, .int v3), (4, .int v4)], [.int (y7 * z8), .int v2], 0, 0) 49 2 (fun _ => rfl) h) ?_
        obtain ⟨z9, hz9⟩ : ∃ z : Int32, z = y7 * z8 := ⟨_, rfl⟩
        rw [← hz9]
        refine pj_X_of (fun r h => pj_R_to (G0, 50, [(6, .int y7), (5, .int y6), (0, .ref 7), (1, .int op), (2, .int v2), (3, .int v3), (4, .int v4)], [.int (Int32.ofInt 2), .int z9, .int v2], 0, 0) 50 2 (fun _ => rfl) h) ?_
        refine pj_X_of (fun r h => pj_R_dv rfl (pj_nz (by omega)) h) ?_
        show pj_X _ _ G0 51 [(6, .int y7), (5, .int y6), (0, .ref 7), (1, .int op), (2, .int v2), (3, .int v3), (4, .int v4)] [.int (z9 / (Int32.ofInt 2)), .int v2] _
        obtain ⟨z10, hz10⟩ : ∃ z : Int32, z = z9 / (Int32.ofInt 2) := ⟨_, rfl⟩
        rw [← hz10]
        refine pj_X_of (fun r h => pj_R_to (G0, 52, [(6, .int y7), (5, .int y6), (0, .ref 7), (1, .int op), (2, .int v2), (3, .int v3), (4, .int v4)], [.int (v2 + z10)], 0, 0) 52 2 (fun _ => rfl) h) ?_
        obtain ⟨z11, hz11⟩ : ∃ z : Int32, z = v2 + z10 := ⟨_, rfl⟩
        rw [← hz11]
        refine pj_X_of (fun r h => pj_R_to (G0, 57, [(2, .int z11), (6, .int y7), (5, .int y6), (0, .ref 7), (1, .int op), (3, .int v3), (4, .int v4)], [.int (v3 ||| y6)], 0, 0) 57 5 (fun _ => rfl) h) ?_
        obtain ⟨z12, hz12⟩ : ∃ z : Int32, z = v3 ||| y6 := ⟨_, rfl⟩
        rw [← hz12]
        refine pj_X_of (fun r h => pj_R_to (G0, 61, [(4, .int (v4 + Int32.ofInt 1)), (3, .int z12), (2, .int z11), (6, .int y7), (5, .int y6), (0, .ref 7), (1, .int op)], [], 0, 0) 61 3 (fun _ => rfl) h) ?_
        obtain ⟨z13, hz13⟩ : ∃ z : Int32, z = v4 + Int32.ofInt 1 := ⟨_, rfl⟩
        rw [← hz13]
        have fz13_0 : z13.toInt = v4.toInt + (Int32.ofInt 1).toInt := by rw [hz13]; exact pj_addI (by have := pj_i32 v4; have := pj_i32 (Int32.ofInt 1); omega) (by have := pj_i32 v4; have := pj_i32 (Int32.ofInt 1); omega)
        refine pj_X_of (fun r h => pj_R_to (G0, 7, [(4, .int z13), (3, .int z12), (2, .int z11), (6, .int y7), (5, .int y6), (0, .ref 7), (1, .int op)], [], 0, 0) 7 2 (fun _ => rfl) h) ?_
        exact pj_X_sub [(0, .ref 7), (1, .int op), (2, .int z11), (3, .int z12), (4, .int z13)] (show List.Nodup [0, 1, 2, 3, 4] by decide) ⟨rfl, rfl, rfl, rfl, rfl, trivial⟩ (ih z11 z12 z13 (pj_i32 _) (pj_i32 _) ⟨by omega, by omega⟩ (by omega))
theorem ct_49_7 (G0 : pj_G) (hI : pj_Inv G0) (op : Int32) : pj_Y 4 49 [.ref 7, .int op] G0 (fun v G' => ∃ y : Int32, v = some (.int y) ∧ G0 = G' ∧ ((-2147483648 : Int) ≤ y.toInt ∧ y.toInt ≤ 2147483647)) := by
  have c0_ : (Int32.ofInt 0).toInt = 0 := by decide
  have c1_ : (Int32.ofInt 1).toInt = 1 := by decide
  have c2_ : (Int32.ofInt 2).toInt = 2 := by decide
  refine pj_Y_X (M := pj_m49) rfl rfl (Nat.le_of_ble_eq_true rfl) ?_
  have hK : pj_kpt ([], [], []) G0 G0 := pj_kpt_r _ _
  show pj_X _ _ G0 0 [(0, .ref 7), (1, .int op)] [] _
  refine pj_X_of (fun r h => pj_R_to (G0, 7, [(4, .int (Int32.ofInt 0)), (3, .int (Int32.ofInt 0)), (2, .int (Int32.ofInt 0)), (0, .ref 7), (1, .int op)], [], 0, 0) 7 7 (fun _ => rfl) h) ?_
  exact pj_X_sub [(0, .ref 7), (1, .int op), (2, .int (Int32.ofInt 0)), (3, .int (Int32.ofInt 0)), (4, .int (Int32.ofInt 0))] (show List.Nodup [0, 1, 2, 3, 4] by decide) ⟨rfl, rfl, rfl, rfl, rfl, trivial⟩ ((lp_ct_49_7 G0 hI op  9) (Int32.ofInt 0) (Int32.ofInt 0) (Int32.ofInt 0) (pj_i32 _) (pj_i32 _) ⟨by omega, by omega⟩ (by omega))
theorem lp_ct_50_7 (G0 : pj_G) (hI : pj_Inv G0) (f : Int32) (to : Int32) (op : Int32) : ∀ mn : Nat, (∀ (v4 : Int32) (v5 : Int32), ((-2147483648 : Int) ≤ v4.toInt ∧ v4.toInt ≤ 2147483647) → ((0 : Int) ≤ v5.toInt ∧ v5.toInt ≤ 8) → 8 - v5.toInt < (mn : Int) → pj_X 2 pj_m50 G0 8 [(0, .ref 7), (1, .int f), (2, .int to), (3, .int op), (4, .int v4), (5, .int v5)] [] (fun v G' => ∃ y : Int32, v = some (.int y) ∧ G0 = G' ∧ ((-1 : Int) ≤ y.toInt ∧ y.toInt ≤ 7))) := by
  have c0_ : (Int32.ofInt (-1)).toInt = -1 := by decide
  have c1_ : (Int32.ofInt 0).toInt = 0 := by decide
  have c2_ : (Int32.ofInt 1).toInt = 1 := by decide
  have hK : pj_kpt ([], [], []) G0 G0 := pj_kpt_r _ _
  intro mn
  induction mn with
  | zero =>
    intro v4 v5 rv4 rv5 hm
    exfalso
    omega
  | succ mn ih =>
    intro v4 v5 rv4 rv5 hm
    refine pj_X_of (fun r h => pj_R_to (G0, 11, [(0, .ref 7), (1, .int f), (2, .int to), (3, .int op), (4, .int v4), (5, .int v5)], [.ref 7, .int v5], 0, 0) 11 3 (fun _ => rfl) h) ?_
    refine pj_X_of (fun r h => pj_T_gi hI rfl rfl h) ?_
    show pj_X _ _ G0 14 [(0, .ref 7), (1, .int f), (2, .int to), (3, .int op), (4, .int v4), (5, .int v5)] [.int (pj_fi G0 7 0), .int v5] _
    obtain ⟨y1, hy1⟩ : ∃ z : Int32, z = pj_fi G0 7 0 := ⟨_, rfl⟩
    rw [← hy1]
    have ey1 : (pj_fi G0 7 0).toInt = y1.toInt := by rw [hy1]
    have ry1 : (0 : Int) ≤ y1.toInt ∧ y1.toInt ≤ 8 := by rw [hy1]; exact hI.2.1 7 0 (0, 8) rfl
    cases b2 : pj_c1 .ge v5 y1 with
    | true =>
      have ub2 := pj_u_geT b2
      refine pj_X_of (fun r h => pj_R_icT 44 rfl rfl b2 h) ?_
      refine pj_X_of (fun r h => pj_R_to (G0, 45, [(0, .ref 7), (1, .int f), (2, .int to), (3, .int op), (4, .int v4), (5, .int v5)], [.int (Int32.ofInt (-1))], 0, 0) 45 2 (fun _ => rfl) h) ?_
      exact pj_X_rt rfl rfl ⟨_, rfl, rfl, ⟨by omega, by omega⟩⟩
    | false =>
      have ub2 := pj_u_geF b2
      refine pj_X_of (fun r h => pj_R_icF rfl b2 h) ?_
      refine pj_X_of (fun r h => pj_R_to (G0, 20, [(0, .ref 7), (1, .int f), (2, .int to), (3, .int op), (4, .int v4), (5, .int v5)], [.int to, .int v4], 0, 0) 20 3 (fun _ => rfl) h) ?_
      refine pj_X_ca (vs := [.int v4, .int to]) rfl (fun _ => rfl) ⟨Nat.le_of_ble_eq_true rfl, Nat.le_of_ble_eq_true rfl, rfl⟩ ⟨rfl, rfl⟩ (pj_Y_up (by decide) (ct_163x G0 hI v4 to)) ?_
      rintro _ _ ⟨y3, rfl, rfl, ry3, fy3⟩
      show pj_X _ _ G0 23 [(0, .ref 7), (1, .int f), (2, .int to), (3, .int op), (4, .int v4), (5, .int v5)] [.int y3] _
      cases b4 : pj_c1 .eq y3 0 with
      | true =>
        have ub4 := pj_u0_eqT b4
        refine pj_X_of (fun r h => pj_R_ifT 29 rfl rfl b4 h) ?_
        refine pj_X_of (fun r h => pj_R_to (G0, 33, [(0, .ref 7), (1, .int f), (2, .int to), (3, .int op), (4, .int v4), (5, .int v5)], [.int op, .int v4, .ref 7], 0, 0) 33 4 (fun _ => rfl) h) ?_
        refine pj_X_ca (vs := [.ref 7, .int v4, .int op]) rfl (fun _ => rfl) ⟨Nat.le_of_ble_eq_true rfl, Nat.le_of_ble_eq_true rfl, pj_T_rcv hI rfl⟩ ⟨rfl, rfl⟩ (pj_Y_up (by decide) (ct_45_7 G0 hI v4 op)) ?_
        rintro _ _ ⟨y5, rfl, rfl, ry5⟩
        show pj_X _ _ G0 36 [(0, .ref 7), (1, .int f), (2, .int to), (3, .int op), (4, .int v4), (5, .int v5)] [.int y5] _
        refine pj_X_of (fun r h => pj_R_to (G0, 41, [(5, .int (v5 + Int32.ofInt 1)), (4, .int y5), (0, .ref 7), (1, .int f), (2, .int to), (3, .int op)], [], 0, 0) 41 3 (fun _ => rfl) h) ?_
        obtain ⟨z6, hz6⟩ : ∃ z : Int32, z = v5 + Int32.ofInt 1 := ⟨_, rfl⟩
        rw [← hz6]
        have fz6_0 : z6.toInt = v5.toInt + (Int32.ofInt 1).toInt := by rw [hz6]; exact pj_addI (by have := pj_i32 v5; have := pj_i32 (Int32.ofInt 1); omega) (by have := pj_i32 v5; have := pj_i32 (Int32.ofInt 1); omega)
        refine pj_X_of (fun r h => pj_R_to (G0, 8, [(5, .int z6), (4, .int y5), (0, .ref 7), (1, .int f), (2, .int to), (3, .int op)], [], 0, 0) 8 2 (fun _ => rfl) h) ?_
        exact pj_X_sub [(0, .ref 7), (1, .int f), (2, .int to), (3, .int op), (4, .int y5), (5, .int z6)] (show List.Nodup [0, 1, 2, 3, 4, 5] by decide) ⟨rfl, rfl, rfl, rfl, rfl, rfl, trivial⟩ (ih y5 z6 (pj_i32 _) ⟨by omega, by omega⟩ (by omega))
      | false =>
        have ub4 := pj_u0_eqF b4
        refine pj_X_of (fun r h => pj_R_ifF rfl b4 h) ?_
        refine pj_X_of (fun r h => pj_R_to (G0, 28, [(0, .ref 7), (1, .int f), (2, .int to), (3, .int op), (4, .int v4), (5, .int v5)], [.int v5], 0, 0) 28 2 (fun _ => rfl) h) ?_
        exact pj_X_rt rfl rfl ⟨_, rfl, rfl, ⟨by omega, by omega⟩⟩
theorem ct_50_7 (G0 : pj_G) (hI : pj_Inv G0) (f : Int32) (to : Int32) (op : Int32) : pj_Y 3 50 [.ref 7, .int f, .int to, .int op] G0 (fun v G' => ∃ y : Int32, v = some (.int y) ∧ G0 = G' ∧ ((-1 : Int) ≤ y.toInt ∧ y.toInt ≤ 7)) := by
  have c0_ : (Int32.ofInt (-1)).toInt = -1 := by decide
  have c1_ : (Int32.ofInt 0).toInt = 0 := by decide
  have c2_ : (Int32.ofInt 1).toInt = 1 := by decide
  refine pj_Y_X (M := pj_m50) rfl rfl (Nat.le_of_ble_eq_true rfl) ?_
  have hK : pj_kpt ([], [], []) G0 G0 := pj_kpt_r _ _
  show pj_X _ _ G0 0 [(0, .ref 7), (1, .int f), (2, .int to), (3, .int op)] [] _
  refine pj_X_of (fun r h => pj_R_to (G0, 3, [(0, .ref 7), (1, .int f), (2, .int to), (3, .int op)], [.int ((Int32.ofInt 1) <<< (f &&& 31))], 0, 0) 3 4 (fun _ => rfl) h) ?_
  obtain ⟨z7, hz7⟩ : ∃ z : Int32, z = (Int32.ofInt 1) <<< (f &&& 31) := ⟨_, rfl⟩
  rw [← hz7]
  refine pj_X_of (fun r h => pj_R_to (G0, 8, [(5, .int (Int32.ofInt 0)), (4, .int z7), (0, .ref 7), (1, .int f), (2, .int to), (3, .int op)], [], 0, 0) 8 4 (fun _ => rfl) h) ?_
  exact pj_X_sub [(0, .ref 7), (1, .int f), (2, .int to), (3, .int op), (4, .int z7), (5, .int (Int32.ofInt 0))] (show List.Nodup [0, 1, 2, 3, 4, 5] by decide) ⟨rfl, rfl, rfl, rfl, rfl, rfl, trivial⟩ ((lp_ct_50_7 G0 hI f to op  9) z7 (Int32.ofInt 0) (pj_i32 _) ⟨by omega, by omega⟩ (by omega))
theorem ct_43_14 (G0 : pj_G) (hI : pj_Inv G0) (c : Int32) (rc : (0 : Int) ≤ c.toInt ∧ c.toInt ≤ 9) : pj_Y 1 43 [.ref 14, .int c] G0 (fun v G' => ∃ y : Int32, v = some (.int y) ∧ G0 = G' ∧ ((-1 : Int) ≤ y.toInt ∧ y.toInt ≤ 9)) := by
  have c0_ : (Int32.ofInt (-1)).toInt = -1 := by decide
  have c1_ : (Int32.ofInt 1).toInt = 1 := by decide
  refine pj_Y_X (M := pj_m43) rfl rfl (Nat.le_of_ble_eq_true rfl) ?_
  have hK : pj_kpt ([], [], []) G0 G0 := pj_kpt_r _ _
  show pj_X _ _ G0 0 [(0, .ref 14), (1, .int c)] [] _
  refine pj_X_of (fun r h => pj_R_to (G0, 1, [(0, .ref 14), (1, .int c)], [.ref 14], 0, 0) 1 2 (fun _ => rfl) h) ?_
  refine pj_X_of (fun r h => pj_T_gr hI rfl rfl rfl h) ?_
  refine pj_X_of (fun r h => pj_R_to (G0, 5, [(0, .ref 14), (1, .int c)], [.int c, .ref 19], 0, 0) 5 2 (fun _ => rfl) h) ?_
  refine pj_X_of (fun r h => pj_T_il hI rfl rfl (by omega) (by omega) h) ?_
  show pj_X _ _ G0 6 [(0, .ref 14), (1, .int c)] [.int (pj_ai G0 19 c.toInt.toNat)] _
  obtain ⟨z1, hz1⟩ : ∃ z : Int32, z = pj_ai G0 19 c.toInt.toNat := ⟨_, rfl⟩
  rw [← hz1]
  have ez1 : (pj_ai G0 19 c.toInt.toNat).toInt = z1.toInt := by rw [hz1]
  have fz1_0 : (0 : Int) ≤ z1.toInt ∧ z1.toInt ≤ 9 ∧ (z1.toInt ≤ 0 ∨ 0 ≤ z1.toInt) := by rw [hz1]; exact hI.2.2.1 19 (10, 0, 9, 0, 0) rfl _ (by show _ < 10; omega)
  refine pj_X_of (fun r h => pj_R_to (G0, 8, [(0, .ref 14), (1, .int c)], [.int (z1 + (Int32.ofInt 1))], 0, 0) 8 3 (fun _ => rfl) h) ?_
  obtain ⟨z2, hz2⟩ : ∃ z : Int32, z = z1 + (Int32.ofInt 1) := ⟨_, rfl⟩
  rw [← hz2]
  have fz2_0 : z2.toInt = z1.toInt + (Int32.ofInt 1).toInt := by rw [hz2]; exact pj_addI (by have := pj_i32 z1; have := pj_i32 (Int32.ofInt 1); omega) (by have := pj_i32 z1; have := pj_i32 (Int32.ofInt 1); omega)
  refine pj_X_of (fun r h => pj_R_to (G0, 9, [(0, .ref 14), (1, .int c)], [.ref 14, .int z2], 0, 0) 9 2 (fun _ => rfl) h) ?_
  refine pj_X_of (fun r h => pj_T_gi hI rfl rfl h) ?_
  show pj_X _ _ G0 12 [(0, .ref 14), (1, .int c)] [.int (pj_fi G0 14 1), .int z2] _
  obtain ⟨y3, hy3⟩ : ∃ z : Int32, z = pj_fi G0 14 1 := ⟨_, rfl⟩
  rw [← hy3]
  have ey3 : (pj_fi G0 14 1).toInt = y3.toInt := by rw [hy3]
  have ry3 : (0 : Int) ≤ y3.toInt ∧ y3.toInt ≤ 10 := by rw [hy3]; exact hI.2.1 14 1 (0, 10) rfl
  cases b4 : pj_c1 .ge z2 y3 with
  | true =>
    have ub4 := pj_u_geT b4
    refine pj_X_of (fun r h => pj_R_icT 31 rfl rfl b4 h) ?_
    refine pj_X_of (fun r h => pj_R_to (G0, 32, [(0, .ref 14), (1, .int c)], [.int (Int32.ofInt (-1))], 0, 0) 32 2 (fun _ => rfl) h) ?_
    exact pj_X_rt rfl rfl ⟨_, rfl, rfl, ⟨by omega, by omega⟩⟩
  | false =>
    have ub4 := pj_u_geF b4
    refine pj_X_of (fun r h => pj_R_icF rfl b4 h) ?_
    refine pj_X_of (fun r h => pj_R_to (G0, 16, [(0, .ref 14), (1, .int c)], [.ref 14], 0, 0) 16 2 (fun _ => rfl) h) ?_
    refine pj_X_of (fun r h => pj_T_gr hI rfl rfl rfl h) ?_
    refine pj_X_of (fun r h => pj_R_to (G0, 20, [(0, .ref 14), (1, .int c)], [.ref 14, .ref 20], 0, 0) 20 2 (fun _ => rfl) h) ?_
    refine pj_X_of (fun r h => pj_T_gr hI rfl rfl rfl h) ?_
    refine pj_X_of (fun r h => pj_R_to (G0, 24, [(0, .ref 14), (1, .int c)], [.int c, .ref 19, .ref 20], 0, 0) 24 2 (fun _ => rfl) h) ?_
    refine pj_X_of (fun r h => pj_T_il hI rfl rfl (by omega) (by omega) h) ?_
    show pj_X _ _ G0 25 [(0, .ref 14), (1, .int c)] [.int (pj_ai G0 19 c.toInt.toNat), .ref 20] _
    rw [← hz1]
    refine pj_X_of (fun r h => pj_R_to (G0, 27, [(0, .ref 14), (1, .int c)], [.int (z1 + (Int32.ofInt 1)), .ref 20], 0, 0) 27 3 (fun _ => rfl) h) ?_
    obtain ⟨z5, hz5⟩ : ∃ z : Int32, z = z1 + (Int32.ofInt 1) := ⟨_, rfl⟩
    rw [← hz5]
    have fz5_0 : z5.toInt = z1.toInt + (Int32.ofInt 1).toInt := by rw [hz5]; exact pj_addI (by have := pj_i32 z1; have := pj_i32 (Int32.ofInt 1); omega) (by have := pj_i32 z1; have := pj_i32 (Int32.ofInt 1); omega)
    refine pj_X_of (fun r h => pj_T_il hI rfl rfl (by omega) (by omega) h) ?_
    show pj_X _ _ G0 28 [(0, .ref 14), (1, .int c)] [.int (pj_ai G0 20 z5.toInt.toNat)] _
    obtain ⟨z6, hz6⟩ : ∃ z : Int32, z = pj_ai G0 20 z5.toInt.toNat := ⟨_, rfl⟩
    rw [← hz6]
    have ez6 : (pj_ai G0 20 z5.toInt.toNat).toInt = z6.toInt := by rw [hz6]
    have fz6_0 : (0 : Int) ≤ z6.toInt ∧ z6.toInt ≤ 9 ∧ (z6.toInt ≤ 0 ∨ 0 ≤ z6.toInt) := by rw [hz6]; exact hI.2.2.1 20 (10, 0, 9, 0, 0) rfl _ (by show _ < 10; omega)
    refine pj_X_of (fun r h => pj_R_to (G0, 32, [(0, .ref 14), (1, .int c)], [.int z6], 0, 0) 32 2 (fun _ => rfl) h) ?_
    exact pj_X_rt rfl rfl ⟨_, rfl, rfl, ⟨by omega, by omega⟩⟩
noncomputable def F_44_14x (G0 : pj_G) (c : Int32) (b : Int32) : Int32 := pj_nm (pj_ai G0 15 c.toInt.toNat) (fun z1 => cond (pj_c1 .ne z1 b) (pj_nm (pj_ai G0 16 c.toInt.toNat) (fun z3 => cond (pj_c1 .ne z3 b) (Int32.ofInt (-1)) (z1))) (pj_nm (pj_ai G0 16 c.toInt.toNat) (fun z5 => z5)))
theorem F_44_14x_e (G0 : pj_G) (c : Int32) (b : Int32) : F_44_14x G0 c b = pj_nm (pj_ai G0 15 c.toInt.toNat) (fun z1 => cond (pj_c1 .ne z1 b) (pj_nm (pj_ai G0 16 c.toInt.toNat) (fun z3 => cond (pj_c1 .ne z3 b) (Int32.ofInt (-1)) (z1))) (pj_nm (pj_ai G0 16 c.toInt.toNat) (fun z5 => z5))) := rfl
theorem ct_44_14x (G0 : pj_G) (hI : pj_Inv G0) (c : Int32) (b : Int32) (rc : (0 : Int) ≤ c.toInt ∧ c.toInt ≤ 9) : pj_Y 1 44 [.ref 14, .int c, .int b] G0 (fun v' G' => ∃ y : Int32, v' = some (.int y) ∧ G0 = G' ∧ ((-1 : Int) ≤ y.toInt ∧ y.toInt ≤ 7) ∧ (y = F_44_14x G0 c b)) := by
  have c0_ : (Int32.ofInt (-1)).toInt = -1 := by decide
  refine pj_Y_X (M := pj_m44) rfl rfl (Nat.le_of_ble_eq_true rfl) ?_
  have hK : pj_kpt ([], [], []) G0 G0 := pj_kpt_r _ _
  show pj_X _ _ G0 0 [(0, .ref 14), (1, .int c), (2, .int b)] [] _
  rw [F_44_14x_e]
  refine pj_X_of (fun r h => pj_R_to (G0, 1, [(0, .ref 14), (1, .int c), (2, .int b)], [.ref 14], 0, 0) 1 2 (fun _ => rfl) h) ?_
  refine pj_X_of (fun r h => pj_T_gr hI rfl rfl rfl h) ?_
  refine pj_X_of (fun r h => pj_R_to (G0, 5, [(0, .ref 14), (1, .int c), (2, .int b)], [.int c, .ref 15], 0, 0) 5 2 (fun _ => rfl) h) ?_
  refine pj_X_of (fun r h => pj_T_il hI rfl rfl (by omega) (by omega) h) ?_
  show pj_X _ _ G0 6 [(0, .ref 14), (1, .int c), (2, .int b)] [.int (pj_ai G0 15 c.toInt.toNat)] _
  obtain ⟨z1, hz1⟩ : ∃ z : Int32, z = pj_ai G0 15 c.toInt.toNat := ⟨_, rfl⟩
  rw [← hz1]
  rw [pj_nm_e]
  have ez1 : (pj_ai G0 15 c.toInt.toNat).toInt = z1.toInt := by rw [hz1]
  have fz1_0 : (0 : Int) ≤ z1.toInt ∧ z1.toInt ≤ 7 ∧ (z1.toInt ≤ 0 ∨ 0 ≤ z1.toInt) := by rw [hz1]; exact hI.2.2.1 15 (10, 0, 7, 0, 0) rfl _ (by show _ < 10; omega)
  refine pj_X_of (fun r h => pj_R_to (G0, 7, [(0, .ref 14), (1, .int c), (2, .int b)], [.int b, .int z1], 0, 0) 7 2 (fun _ => rfl) h) ?_
  cases b2 : pj_c1 .ne z1 b with
  | true =>
    rw [pj_cT]
    have ub2 := pj_u_neT b2
    refine pj_X_of (fun r h => pj_R_icT 17 rfl rfl b2 h) ?_
    refine pj_X_of (fun r h => pj_R_to (G0, 18, [(0, .ref 14), (1, .int c), (2, .int b)], [.ref 14], 0, 0) 18 2 (fun _ => rfl) h) ?_
    refine pj_X_of (fun r h => pj_T_gr hI rfl rfl rfl h) ?_
    refine pj_X_of (fun r h => pj_R_to (G0, 22, [(0, .ref 14), (1, .int c), (2, .int b)], [.int c, .ref 16], 0, 0) 22 2 (fun _ => rfl) h) ?_
    refine pj_X_of (fun r h => pj_T_il hI rfl rfl (by omega) (by omega) h) ?_
    show pj_X _ _ G0 23 [(0, .ref 14), (1, .int c), (2, .int b)] [.int (pj_ai G0 16 c.toInt.toNat)] _
    obtain ⟨z3, hz3⟩ : ∃ z : Int32, z = pj_ai G0 16 c.toInt.toNat := ⟨_, rfl⟩
    rw [← hz3]
    rw [pj_nm_e]
    have ez3 : (pj_ai G0 16 c.toInt.toNat).toInt = z3.toInt := by rw [hz3]
    have fz3_0 : (0 : Int) ≤ z3.toInt ∧ z3.toInt ≤ 7 ∧ (z3.toInt ≤ 0 ∨ 0 ≤ z3.toInt) := by rw [hz3]; exact hI.2.2.1 16 (10, 0, 7, 0, 0) rfl _ (by show _ < 10; omega)
    refine pj_X_of (fun r h => pj_R_to (G0, 24, [(0, .ref 14), (1, .int c), (2, .int b)], [.int b, .int z3], 0, 0) 24 2 (fun _ => rfl) h) ?_
    cases b4 : pj_c1 .ne z3 b with
    | true =>
      rw [pj_cT]
      have ub4 := pj_u_neT b4
      refine pj_X_of (fun r h => pj_R_icT 36 rfl rfl b4 h) ?_
      refine pj_X_of (fun r h => pj_R_to (G0, 37, [(0, .ref 14), (1, .int c), (2, .int b)], [.int (Int32.ofInt (-1))], 0, 0) 37 2 (fun _ => rfl) h) ?_
      exact pj_X_rt rfl rfl ⟨_, rfl, rfl, ⟨by omega, by omega⟩, rfl⟩
    | false =>
      rw [pj_cF]
      have ub4 := pj_u_neF b4
      refine pj_X_of (fun r h => pj_R_icF rfl b4 h) ?_
      refine pj_X_of (fun r h => pj_R_to (G0, 28, [(0, .ref 14), (1, .int c), (2, .int b)], [.ref 14], 0, 0) 28 2 (fun _ => rfl) h) ?_
      refine pj_X_of (fun r h => pj_T_gr hI rfl rfl rfl h) ?_
      refine pj_X_of (fun r h => pj_R_to (G0, 32, [(0, .ref 14), (1, .int c), (2, .int b)], [.int c, .ref 15], 0, 0) 32 2 (fun _ => rfl) h) ?_
      refine pj_X_of (fun r h => pj_T_il hI rfl rfl (by omega) (by omega) h) ?_
      show pj_X _ _ G0 33 [(0, .ref 14), (1, .int c), (2, .int b)] [.int (pj_ai G0 15 c.toInt.toNat)] _
      rw [← hz1]
      refine pj_X_of (fun r h => pj_R_to (G0, 37, [(0, .ref 14), (1, .int c), (2, .int b)], [.int z1], 0, 0) 37 2 (fun _ => rfl) h) ?_
      exact pj_X_rt rfl rfl ⟨_, rfl, rfl, ⟨by omega, by omega⟩, rfl⟩
  | false =>
    rw [pj_cF]
    have ub2 := pj_u_neF b2
    refine pj_X_of (fun r h => pj_R_icF rfl b2 h) ?_
    refine pj_X_of (fun r h => pj_R_to (G0, 11, [(0, .ref 14), (1, .int c), (2, .int b)], [.ref 14], 0, 0) 11 2 (fun _ => rfl) h) ?_
    refine pj_X_of (fun r h => pj_T_gr hI rfl rfl rfl h) ?_
    refine pj_X_of (fun r h => pj_R_to (G0, 15, [(0, .ref 14), (1, .int c), (2, .int b)], [.int c, .ref 16], 0, 0) 15 2 (fun _ => rfl) h) ?_
    refine pj_X_of (fun r h => pj_T_il hI rfl rfl (by omega) (by omega) h) ?_
    show pj_X _ _ G0 16 [(0, .ref 14), (1, .int c), (2, .int b)] [.int (pj_ai G0 16 c.toInt.toNat)] _
    obtain ⟨z5, hz5⟩ : ∃ z : Int32, z = pj_ai G0 16 c.toInt.toNat := ⟨_, rfl⟩
    rw [← hz5]
    rw [pj_nm_e]
    have ez5 : (pj_ai G0 16 c.toInt.toNat).toInt = z5.toInt := by rw [hz5]
    have fz5_0 : (0 : Int) ≤ z5.toInt ∧ z5.toInt ≤ 7 ∧ (z5.toInt ≤ 0 ∨ 0 ≤ z5.toInt) := by rw [hz5]; exact hI.2.2.1 16 (10, 0, 7, 0, 0) rfl _ (by show _ < 10; omega)
    exact pj_X_rt rfl rfl ⟨_, rfl, rfl, ⟨by omega, by omega⟩, rfl⟩
theorem fr_44_14x (G0 : pj_G) (hI : pj_Inv G0) (c : Int32) (b : Int32) (rc : (0 : Int) ≤ c.toInt ∧ c.toInt ≤ 9) : ((-1 : Int) ≤ (F_44_14x G0 c b).toInt ∧ (F_44_14x G0 c b).toInt ≤ 7) := by
  obtain ⟨v, G', -, y, -, rfl, r, e⟩ := ct_44_14x G0 hI c b rc
  rw [← e]
  exact r
theorem lp_ct_45_14 (G0 : pj_G) (hI : pj_Inv G0) (set : Int32) (op : Int32) : ∀ mn : Nat, (∀ (v3 : Int32) (v4 : Int32), ((-2147483648 : Int) ≤ v3.toInt ∧ v3.toInt ≤ 2147483647) → ((0 : Int) ≤ v4.toInt ∧ v4.toInt ≤ 10) → 10 - v4.toInt < (mn : Int) → pj_X 1 pj_m45 G0 5 [(0, .ref 14), (1, .int set), (2, .int op), (3, .int v3), (4, .int v4)] [] (fun v G' => ∃ y : Int32, v = some (.int y) ∧ G0 = G' ∧ ((-2147483648 : Int) ≤ y.toInt ∧ y.toInt ≤ 2147483647))) := by
  have c0_ : (Int32.ofInt 0).toInt = 0 := by decide
  have c1_ : (Int32.ofInt 1).toInt = 1 := by decide
  have hK : pj_kpt ([], [], []) G0 G0 := pj_kpt_r _ _
  intro mn
  induction mn with
  | zero =>
    intro v3 v4 rv3 rv4 hm
    exfalso
    omega
  | succ mn ih =>
    intro v3 v4 rv3 rv4 hm
    refine pj_X_of (fun r h => pj_R_to (G0, 8, [(0, .ref 14), (1, .int set), (2, .int op), (3, .int v3), (4, .int v4)], [.ref 14, .int v4], 0, 0) 8 3 (fun _ => rfl) h) ?_
    refine pj_X_of (fun r h => pj_T_gi hI rfl rfl h) ?_
    show pj_X _ _ G0 11 [(0, .ref 14), (1, .int set), (2, .int op), (3, .int v3), (4, .int v4)] [.int (pj_fi G0 14 1), .int v4] _
    obtain ⟨y1, hy1⟩ : ∃ z : Int32, z = pj_fi G0 14 1 := ⟨_, rfl⟩
    rw [← hy1]
    have ey1 : (pj_fi G0 14 1).toInt = y1.toInt := by rw [hy1]
    have ry1 : (0 : Int) ≤ y1.toInt ∧ y1.toInt ≤ 10 := by rw [hy1]; exact hI.2.1 14 1 (0, 10) rfl
    cases b2 : pj_c1 .ge v4 y1 with
    | true =>
      have ub2 := pj_u_geT b2
      refine pj_X_of (fun r h => pj_R_icT 90 rfl rfl b2 h) ?_
      refine pj_X_of (fun r h => pj_R_to (G0, 91, [(0, .ref 14), (1, .int set), (2, .int op), (3, .int v3), (4, .int v4)], [.int v3], 0, 0) 91 2 (fun _ => rfl) h) ?_
      exact pj_X_rt rfl rfl ⟨_, rfl, rfl, pj_i32 _⟩
    | false =>
      have ub2 := pj_u_geF b2
      refine pj_X_of (fun r h => pj_R_icF rfl b2 h) ?_
      refine pj_X_of (fun r h => pj_R_to (G0, 17, [(0, .ref 14), (1, .int set), (2, .int op), (3, .int v3), (4, .int v4)], [.int v4, .int op], 0, 0) 17 3 (fun _ => rfl) h) ?_
      refine pj_X_ca (vs := [.int op, .int v4]) rfl (fun _ => rfl) ⟨Nat.le_of_ble_eq_true rfl, Nat.le_of_ble_eq_true rfl, rfl⟩ ⟨rfl, rfl⟩ (pj_Y_up (by decide) (ct_163x G0 hI op v4)) ?_
      rintro _ _ ⟨y3, rfl, rfl, ry3, fy3⟩
      show pj_X _ _ G0 20 [(0, .ref 14), (1, .int set), (2, .int op), (3, .int v3), (4, .int v4)] [.int y3] _
      cases b4 : pj_c1 .eq y3 0 with
      | true =>
        have ub4 := pj_u0_eqT b4
        refine pj_X_of (fun r h => pj_R_ifT 49 rfl rfl b4 h) ?_
        refine pj_X_of (fun r h => pj_R_to (G0, 52, [(0, .ref 14), (1, .int set), (2, .int op), (3, .int v3), (4, .int v4)], [.int v4, .int op], 0, 0) 52 3 (fun _ => rfl) h) ?_
        refine pj_X_ca (vs := [.int op, .int v4]) rfl (fun _ => rfl) ⟨Nat.le_of_ble_eq_true rfl, Nat.le_of_ble_eq_true rfl, rfl⟩ ⟨rfl, rfl⟩ (pj_Y_up (by decide) (ct_163x G0 hI op v4)) ?_
        rintro _ _ ⟨y5, rfl, rfl, ry5, fy5⟩
        show pj_X _ _ G0 55 [(0, .ref 14), (1, .int set), (2, .int op), (3, .int v3), (4, .int v4)] [.int y5] _
        cases b6 : pj_c1 .eq y5 0 with
        | true =>
          have ub6 := pj_u0_eqT b6
          refine pj_X_of (fun r h => pj_R_ifT 84 rfl rfl b6 h) ?_
          refine pj_X_of (fun r h => pj_R_to (G0, 87, [(4, .int (v4 + Int32.ofInt 1)), (0, .ref 14), (1, .int set), (2, .int op), (3, .int v3)], [], 0, 0) 87 2 (fun _ => rfl) h) ?_
          obtain ⟨z7, hz7⟩ : ∃ z : Int32, z = v4 + Int32.ofInt 1 := ⟨_, rfl⟩
          rw [← hz7]
          have fz7_0 : z7.toInt = v4.toInt + (Int32.ofInt 1).toInt := by rw [hz7]; exact pj_addI (by have := pj_i32 v4; have := pj_i32 (Int32.ofInt 1); omega) (by have := pj_i32 v4; have := pj_i32 (Int32.ofInt 1); omega)
          refine pj_X_of (fun r h => pj_R_to (G0, 5, [(4, .int z7), (0, .ref 14), (1, .int set), (2, .int op), (3, .int v3)], [], 0, 0) 5 2 (fun _ => rfl) h) ?_
          exact pj_X_sub [(0, .ref 14), (1, .int set), (2, .int op), (3, .int v3), (4, .int z7)] (show List.Nodup [0, 1, 2, 3, 4] by decide) ⟨rfl, rfl, rfl, rfl, rfl, trivial⟩ (ih v3 z7 (pj_i32 _) ⟨by omega, by omega⟩ (by omega))
        | false =>
          have ub6 := pj_u0_eqF b6
          refine pj_X_of (fun r h => pj_R_ifF rfl b6 h) ?_
          refine pj_X_of (fun r h => pj_R_to (G0, 60, [(0, .ref 14), (1, .int set), (2, .int op), (3, .int v3), (4, .int v4)], [.ref 14, .int set], 0, 0) 60 3 (fun _ => rfl) h) ?_
          refine pj_X_of (fun r h => pj_T_gr hI rfl rfl rfl h) ?_
          refine pj_X_of (fun r h => pj_R_to (G0, 65, [(0, .ref 14), (1, .int set), (2, .int op), (3, .int v3), (4, .int v4)], [.int v4, .ref 16, .int set], 0, 0) 65 2 (fun _ => rfl) h) ?_
          refine pj_X_of (fun r h => pj_T_il hI rfl rfl (by omega) (by omega) h) ?_
          show pj_X _ _ G0 66 [(0, .ref 14), (1, .int set), (2, .int op), (3, .int v3), (4, .int v4)] [.int (pj_ai G0 16 v4.toInt.toNat), .int set] _
          obtain ⟨z8, hz8⟩ : ∃ z : Int32, z = pj_ai G0 16 v4.toInt.toNat := ⟨_, rfl⟩
          rw [← hz8]
          have ez8 : (pj_ai G0 16 v4.toInt.toNat).toInt = z8.toInt := by rw [hz8]
          have fz8_0 : (0 : Int) ≤ z8.toInt ∧ z8.toInt ≤ 7 ∧ (z8.toInt ≤ 0 ∨ 0 ≤ z8.toInt) := by rw [hz8]; exact hI.2.2.1 16 (10, 0, 7, 0, 0) rfl _ (by show _ < 10; omega)
          refine pj_X_ca (vs := [.int set, .int z8]) rfl (fun _ => rfl) ⟨Nat.le_of_ble_eq_true rfl, Nat.le_of_ble_eq_true rfl, rfl⟩ ⟨rfl, rfl⟩ (pj_Y_up (by decide) (ct_163x G0 hI set z8)) ?_
          rintro _ _ ⟨y9, rfl, rfl, ry9, fy9⟩
          show pj_X _ _ G0 69 [(0, .ref 14), (1, .int set), (2, .int op), (3, .int v3), (4, .int v4)] [.int y9] _
          cases b10 : pj_c1 .eq y9 0 with
          | true =>
            have ub10 := pj_u0_eqT b10
            refine pj_X_of (fun r h => pj_R_ifT 84 rfl rfl b10 h) ?_
            refine pj_X_of (fun r h => pj_R_to (G0, 87, [(4, .int (v4 + Int32.ofInt 1)), (0, .ref 14), (1, .int set), (2, .int op), (3, .int v3)], [], 0, 0) 87 2 (fun _ => rfl) h) ?_
            obtain ⟨z11, hz11⟩ : ∃ z : Int32, z = v4 + Int32.ofInt 1 := ⟨_, rfl⟩
            rw [← hz11]
            have fz11_0 : z11.toInt = v4.toInt + (Int32.ofInt 1).toInt := by rw [hz11]; exact pj_addI (by have := pj_i32 v4; have := pj_i32 (Int32.ofInt 1); omega) (by have := pj_i32 v4; have := pj_i32 (Int32.ofInt 1); omega)
            refine pj_X_of (fun r h => pj_R_to (G0, 5, [(4, .int z11), (0, .ref 14), (1, .int set), (2, .int op), (3, .int v3)], [], 0, 0) 5 2 (fun _ => rfl) h) ?_
            exact pj_X_sub [(0, .ref 14), (1, .int set), (2, .int op), (3, .int v3), (4, .int z11)] (show List.Nodup [0, 1, 2, 3, 4] by decide) ⟨rfl, rfl, rfl, rfl, rfl, trivial⟩ (ih v3 z11 (pj_i32 _) ⟨by omega, by omega⟩ (by omega))
          | false =>
            have ub10 := pj_u0_eqF b10
            refine pj_X_of (fun r h => pj_R_ifF rfl b10 h) ?_
            refine pj_X_of (fun r h => pj_R_to (G0, 75, [(0, .ref 14), (1, .int set), (2, .int op), (3, .int v3), (4, .int v4)], [.ref 14, .int (Int32.ofInt 1), .int v3], 0, 0) 75 4 (fun _ => rfl) h) ?_
            refine pj_X_of (fun r h => pj_T_gr hI rfl rfl rfl h) ?_
            refine pj_X_of (fun r h => pj_R_to (G0, 80, [(0, .ref 14), (1, .int set), (2, .int op), (3, .int v3), (4, .int v4)], [.int v4, .ref 15, .int (Int32.ofInt 1), .int v3], 0, 0) 80 2 (fun _ => rfl) h) ?_
            refine pj_X_of (fun r h => pj_T_il hI rfl rfl (by omega) (by omega) h) ?_
            show pj_X _ _ G0 81 [(0, .ref 14), (1, .int set), (2, .int op), (3, .int v3), (4, .int v4)] [.int (pj_ai G0 15 v4.toInt.toNat), .int (Int32.ofInt 1), .int v3] _
            obtain ⟨z12, hz12⟩ : ∃ z : Int32, z = pj_ai G0 15 v4.toInt.toNat := ⟨_, rfl⟩
            rw [← hz12]
            have ez12 : (pj_ai G0 15 v4.toInt.toNat).toInt = z12.toInt := by rw [hz12]
            have fz12_0 : (0 : Int) ≤ z12.toInt ∧ z12.toInt ≤ 7 ∧ (z12.toInt ≤ 0 ∨ 0 ≤ z12.toInt) := by rw [hz12]; exact hI.2.2.1 15 (10, 0, 7, 0, 0) rfl _ (by show _ < 10; omega)
            refine pj_X_of (fun r h => pj_R_to (G0, 82, [(0, .ref 14), (1, .int set), (2, .int op), (3, .int v3), (4, .int v4)], [.int ((Int32.ofInt 1) <<< (z12 &&& 31)), .int v3], 0, 0) 82 2 (fun _ => rfl) h) ?_
            obtain ⟨z13, hz13⟩ : ∃ z : Int32, z = (Int32.ofInt 1) <<< (z12 &&& 31) := ⟨_, rfl⟩
            rw [← hz13]
            have fz13_0 : 1 ≤ z13.toInt ∧ z13.toInt ≤ 128 := by rw [hz13]; exact pj_shlI7 (by omega) (by omega)
            refine pj_X_of (fun r h => pj_R_to (G0, 83, [(0, .ref 14), (1, .int set), (2, .int op), (3, .int v3), (4, .int v4)], [.int (v3 ||| z13)], 0, 0) 83 2 (fun _ => rfl) h) ?_
            obtain ⟨z14, hz14⟩ : ∃ z : Int32, z = v3 ||| z13 := ⟨_, rfl⟩
            rw [← hz14]
            refine pj_X_of (fun r h => pj_R_to (G0, 87, [(4, .int (v4 + Int32.ofInt 1)), (3, .int z14), (0, .ref 14), (1, .int set), (2, .int op)], [], 0, 0) 87 3 (fun _ => rfl) h) ?_
            obtain ⟨z15, hz15⟩ : ∃ z : Int32, z = v4 + Int32.ofInt 1 := ⟨_, rfl⟩
            rw [← hz15]
            have fz15_0 : z15.toInt = v4.toInt + (Int32.ofInt 1).toInt := by rw [hz15]; exact pj_addI (by have := pj_i32 v4; have := pj_i32 (Int32.ofInt 1); omega) (by have := pj_i32 v4; have := pj_i32 (Int32.ofInt 1); omega)
            refine pj_X_of (fun r h => pj_R_to (G0, 5, [(4, .int z15), (3, .int z14), (0, .ref 14), (1, .int set), (2, .int op)], [], 0, 0) 5 2 (fun _ => rfl) h) ?_
            exact pj_X_sub [(0, .ref 14), (1, .int set), (2, .int op), (3, .int z14), (4, .int z15)] (show List.Nodup [0, 1, 2, 3, 4] by decide) ⟨rfl, rfl, rfl, rfl, rfl, trivial⟩ (ih z14 z15 (pj_i32 _) ⟨by omega, by omega⟩ (by omega))
      | false =>
        have ub4 := pj_u0_eqF b4
        refine pj_X_of (fun r h => pj_R_ifF rfl b4 h) ?_
        refine pj_X_of (fun r h => pj_R_to (G0, 25, [(0, .ref 14), (1, .int set), (2, .int op), (3, .int v3), (4, .int v4)], [.ref 14, .int set], 0, 0) 25 3 (fun _ => rfl) h) ?_
        refine pj_X_of (fun r h => pj_T_gr hI rfl rfl rfl h) ?_
        refine pj_X_of (fun r h => pj_R_to (G0, 30, [(0, .ref 14), (1, .int set), (2, .int op), (3, .int v3), (4, .int v4)], [.int v4, .ref 15, .int set], 0, 0) 30 2 (fun _ => rfl) h) ?_
        refine pj_X_of (fun r h => pj_T_il hI rfl rfl (by omega) (by omega) h) ?_
        show pj_X _ _ G0 31 [(0, .ref 14), (1, .int set), (2, .int op), (3, .int v3), (4, .int v4)] [.int (pj_ai G0 15 v4.toInt.toNat), .int set] _
        obtain ⟨z16, hz16⟩ : ∃ z : Int32, z = pj_ai G0 15 v4.toInt.toNat := ⟨_, rfl⟩
        rw [← hz16]
        have ez16 : (pj_ai G0 15 v4.toInt.toNat).toInt = z16.toInt := by rw [hz16]
        have fz16_0 : (0 : Int) ≤ z16.toInt ∧ z16.toInt ≤ 7 ∧ (z16.toInt ≤ 0 ∨ 0 ≤ z16.toInt) := by rw [hz16]; exact hI.2.2.1 15 (10, 0, 7, 0, 0) rfl _ (by show _ < 10; omega)
        refine pj_X_ca (vs := [.int set, .int z16]) rfl (fun _ => rfl) ⟨Nat.le_of_ble_eq_true rfl, Nat.le_of_ble_eq_true rfl, rfl⟩ ⟨rfl, rfl⟩ (pj_Y_up (by decide) (ct_163x G0 hI set z16)) ?_
        rintro _ _ ⟨y17, rfl, rfl, ry17, fy17⟩
        show pj_X _ _ G0 34 [(0, .ref 14), (1, .int set), (2, .int op), (3, .int v3), (4, .int v4)] [.int y17] _
        cases b18 : pj_c1 .eq y17 0 with
        | true =>
          have ub18 := pj_u0_eqT b18
          refine pj_X_of (fun r h => pj_R_ifT 49 rfl rfl b18 h) ?_
          refine pj_X_of (fun r h => pj_R_to (G0, 52, [(0, .ref 14), (1, .int set), (2, .int op), (3, .int v3), (4, .int v4)], [.int v4, .int op], 0, 0) 52 3 (fun _ => rfl) h) ?_
          refine pj_X_ca (vs := [.int op, .int v4]) rfl (fun _ => rfl) ⟨Nat.le_of_ble_eq_true rfl, Nat.le_of_ble_eq_true rfl, rfl⟩ ⟨rfl, rfl⟩ (pj_Y_up (by decide) (ct_163x G0 hI op v4)) ?_
          rintro _ _ ⟨y19, rfl, rfl, ry19, fy19⟩
          show pj_X _ _ G0 55 [(0, .ref 14), (1, .int set), (2, .int op), (3, .int v3), (4, .int v4)] [.int y19] _
          cases b20 : pj_c1 .eq y19 0 with
          | true =>
            have ub20 := pj_u0_eqT b20
            refine pj_X_of (fun r h => pj_R_ifT 84 rfl rfl b20 h) ?_
            refine pj_X_of (fun r h => pj_R_to (G0, 87, [(4, .int (v4 + Int32.ofInt 1)), (0, .ref 14), (1, .int set), (2, .int op), (3, .int v3)], [], 0, 0) 87 2 (fun _ => rfl) h) ?_
            obtain ⟨z21, hz21⟩ : ∃ z : Int32, z = v4 + Int32.ofInt 1 := ⟨_, rfl⟩
            rw [← hz21]
            have fz21_0 : z21.toInt = v4.toInt + (Int32.ofInt 1).toInt := by rw [hz21]; exact pj_addI (by have := pj_i32 v4; have := pj_i32 (Int32.ofInt 1); omega) (by have := pj_i32 v4; have := pj_i32 (Int32.ofInt 1); omega)
            refine pj_X_of (fun r h => pj_R_to (G0, 5, [(4, .int z21), (0, .ref 14), (1, .int set), (2, .int op), (3, .int v3)], [], 0, 0) 5 2 (fun _ => rfl) h) ?_
            exact pj_X_sub [(0, .ref 14), (1, .int set), (2, .int op), (3, .int v3), (4, .int z21)] (show List.Nodup [0, 1, 2, 3, 4] by decide) ⟨rfl, rfl, rfl, rfl, rfl, trivial⟩ (ih v3 z21 (pj_i32 _) ⟨by omega, by omega⟩ (by omega))
          | false =>
            have ub20 := pj_u0_eqF b20
            refine pj_X_of (fun r h => pj_R_ifF rfl b20 h) ?_
            refine pj_X_of (fun r h => pj_R_to (G0, 60, [(0, .ref 14), (1, .int set), (2, .int op), (3, .int v3), (4, .int v4)], [.ref 14, .int set], 0, 0) 60 3 (fun _ => rfl) h) ?_
            refine pj_X_of (fun r h => pj_T_gr hI rfl rfl rfl h) ?_
            refine pj_X_of (fun r h => pj_R_to (G0, 65, [(0, .ref 14), (1, .int set), (2, .int op), (3, .int v3), (4, .int v4)], [.int v4, .ref 16, .int set], 0, 0) 65 2 (fun _ => rfl) h) ?_
            refine pj_X_of (fun r h => pj_T_il hI rfl rfl (by omega) (by omega) h) ?_
            show pj_X _ _ G0 66 [(0, .ref 14), (1, .int set), (2, .int op), (3, .int v3), (4, .int v4)] [.int (pj_ai G0 16 v4.toInt.toNat), .int set] _
            obtain ⟨z22, hz22⟩ : ∃ z : Int32, z = pj_ai G0 16 v4.toInt.toNat := ⟨_, rfl⟩
            rw [← hz22]
            have ez22 : (pj_ai G0 16 v4.toInt.toNat).toInt = z22.toInt := by rw [hz22]
            have fz22_0 : (0 : Int) ≤ z22.toInt ∧ z22.toInt ≤ 7 ∧ (z22.toInt ≤ 0 ∨ 0 ≤ z22.toInt) := by rw [hz22]; exact hI.2.2.1 16 (10, 0, 7, 0, 0) rfl _ (by show _ < 10; omega)
            refine pj_X_ca (vs := [.int set, .int z22]) rfl (fun _ => rfl) ⟨Nat.le_of_ble_eq_true rfl, Nat.le_of_ble_eq_true rfl, rfl⟩ ⟨rfl, rfl⟩ (pj_Y_up (by decide) (ct_163x G0 hI set z22)) ?_
            rintro _ _ ⟨y23, rfl, rfl, ry23, fy23⟩
            show pj_X _ _ G0 69 [(0, .ref 14), (1, .int set), (2, .int op), (3, .int v3), (4, .int v4)] [.int y23] _
            cases b24 : pj_c1 .eq y23 0 with
            | true =>
              have ub24 := pj_u0_eqT b24
              refine pj_X_of (fun r h => pj_R_ifT 84 rfl rfl b24 h) ?_
              refine pj_X_of (fun r h => pj_R_to (G0, 87, [(4, .int (v4 + Int32.ofInt 1)), (0, .ref 14), (1, .int set), (2, .int op), (3, .int v3)], [], 0, 0) 87 2 (fun _ => rfl) h) ?_
              obtain ⟨z25, hz25⟩ : ∃ z : Int32, z = v4 + Int32.ofInt 1 := ⟨_, rfl⟩
              rw [← hz25]
              have fz25_0 : z25.toInt = v4.toInt + (Int32.ofInt 1).toInt := by rw [hz25]; exact pj_addI (by have := pj_i32 v4; have := pj_i32 (Int32.ofInt 1); omega) (by have := pj_i32 v4; have := pj_i32 (Int32.ofInt 1); omega)
              refine pj_X_of (fun r h => pj_R_to (G0, 5, [(4, .int z25), (0, .ref 14), (1, .int set), (2, .int op), (3, .int v3)], [], 0, 0) 5 2 (fun _ => rfl) h) ?_
              exact pj_X_sub [(0, .ref 14), (1, .int set), (2, .int op), (3, .int v3), (4, .int z25)] (show List.Nodup [0, 1, 2, 3, 4] by decide) ⟨rfl, rfl, rfl, rfl, rfl, trivial⟩ (ih v3 z25 (pj_i32 _) ⟨by omega, by omega⟩ (by omega))
            | false =>
              have ub24 := pj_u0_eqF b24
              refine pj_X_of (fun r h => pj_R_ifF rfl b24 h) ?_
              refine pj_X_of (fun r h => pj_R_to (G0, 75, [(0, .ref 14), (1, .int set), (2, .int op), (3, .int v3), (4, .int v4)], [.ref 14, .int (Int32.ofInt 1), .int v3], 0, 0) 75 4 (fun _ => rfl) h) ?_
              refine pj_X_of (fun r h => pj_T_gr hI rfl rfl rfl h) ?_
              refine pj_X_of (fun r h => pj_R_to (G0, 80, [(0, .ref 14), (1, .int set), (2, .int op), (3, .int v3), (4, .int v4)], [.int v4, .ref 15, .int (Int32.ofInt 1), .int v3], 0, 0) 80 2 (fun _ => rfl) h) ?_
              refine pj_X_of (fun r h => pj_T_il hI rfl rfl (by omega) (by omega) h) ?_
              show pj_X _ _ G0 81 [(0, .ref 14), (1, .int set), (2, .int op), (3, .int v3), (4, .int v4)] [.int (pj_ai G0 15 v4.toInt.toNat), .int (Int32.ofInt 1), .int v3] _
              rw [← hz16]
              refine pj_X_of (fun r h => pj_R_to (G0, 82, [(0, .ref 14), (1, .int set), (2, .int op), (3, .int v3), (4, .int v4)], [.int ((Int32.ofInt 1) <<< (z16 &&& 31)), .int v3], 0, 0) 82 2 (fun _ => rfl) h) ?_
              obtain ⟨z26, hz26⟩ : ∃ z : Int32, z = (Int32.ofInt 1) <<< (z16 &&& 31) := ⟨_, rfl⟩
              rw [← hz26]
              have fz26_0 : 1 ≤ z26.toInt ∧ z26.toInt ≤ 128 := by rw [hz26]; exact pj_shlI7 (by omega) (by omega)
              refine pj_X_of (fun r h => pj_R_to (G0, 83, [(0, .ref 14), (1, .int set), (2, .int op), (3, .int v3), (4, .int v4)], [.int (v3 ||| z26)], 0, 0) 83 2 (fun _ => rfl) h) ?_
              obtain ⟨z27, hz27⟩ : ∃ z : Int32, z = v3 ||| z26 := ⟨_, rfl⟩
              rw [← hz27]
              refine pj_X_of (fun r h => pj_R_to (G0, 87, [(4, .int (v4 + Int32.ofInt 1)), (3, .int z27), (0, .ref 14), (1, .int set), (2, .int op)], [], 0, 0) 87 3 (fun _ => rfl) h) ?_
              obtain ⟨z28, hz28⟩ : ∃ z : Int32, z = v4 + Int32.ofInt 1 := ⟨_, rfl⟩
              rw [← hz28]
              have fz28_0 : z28.toInt = v4.toInt + (Int32.ofInt 1).toInt := by rw [hz28]; exact pj_addI (by have := pj_i32 v4; have := pj_i32 (Int32.ofInt 1); omega) (by have := pj_i32 v4; have := pj_i32 (Int32.ofInt 1); omega)
              refine pj_X_of (fun r h => pj_R_to (G0, 5, [(4, .int z28), (3, .int z27), (0, .ref 14), (1, .int set), (2, .int op)], [], 0, 0) 5 2 (fun _ => rfl) h) ?_
              exact pj_X_sub [(0, .ref 14), (1, .int set), (2, .int op), (3, .int z27), (4, .int z28)] (show List.Nodup [0, 1, 2, 3, 4] by decide) ⟨rfl, rfl, rfl, rfl, rfl, trivial⟩ (ih z27 z28 (pj_i32 _) ⟨by omega, by omega⟩ (by omega))
        | false =>
          have ub18 := pj_u0_eqF b18
          refine pj_X_of (fun r h => pj_R_ifF rfl b18 h) ?_
          refine pj_X_of (fun r h => pj_R_to (G0, 40, [(0, .ref 14), (1, .int set), (2, .int op), (3, .int v3), (4, .int v4)], [.ref 14, .int (Int32.ofInt 1), .int v3], 0, 0) 40 4 (fun _ => rfl) h) ?_
          refine pj_X_of (fun r h => pj_T_gr hI rfl rfl rfl h) ?_
          refine pj_X_of (fun r h => pj_R_to (G0, 45, [(0, .ref 14), (1, .int set), (2, .int op), (3, .int v3), (4, .int v4)], [.int v4, .ref 16, .int (Int32.ofInt 1), .int v3], 0, 0) 45 2 (fun _ => rfl) h) ?_
          refine pj_X_of (fun r h => pj_T_il hI rfl rfl (by omega) (by omega) h) ?_
          show pj_X _ _ G0 46 [(0, .ref 14), (1, .int set), (2, .int op), (3, .int v3), (4, .int v4)] [.int (pj_ai G0 16 v4.toInt.toNat), .int (Int32.ofInt 1), .int v3] _
          obtain ⟨z29, hz29⟩ : ∃ z : Int32, z = pj_ai G0 16 v4.toInt.toNat := ⟨_, rfl⟩
          rw [← hz29]
          have ez29 : (pj_ai G0 16 v4.toInt.toNat).toInt = z29.toInt := by rw [hz29]
          have fz29_0 : (0 : Int) ≤ z29.toInt ∧ z29.toInt ≤ 7 ∧ (z29.toInt ≤ 0 ∨ 0 ≤ z29.toInt) := by rw [hz29]; exact hI.2.2.1 16 (10, 0, 7, 0, 0) rfl _ (by show _ < 10; omega)
          refine pj_X_of (fun r h => pj_R_to (G0, 47, [(0, .ref 14), (1, .int set), (2, .int op), (3, .int v3), (4, .int v4)], [.int ((Int32.ofInt 1) <<< (z29 &&& 31)), .int v3], 0, 0) 47 2 (fun _ => rfl) h) ?_
          obtain ⟨z30, hz30⟩ : ∃ z : Int32, z = (Int32.ofInt 1) <<< (z29 &&& 31) := ⟨_, rfl⟩
          rw [← hz30]
          have fz30_0 : 1 ≤ z30.toInt ∧ z30.toInt ≤ 128 := by rw [hz30]; exact pj_shlI7 (by omega) (by omega)
          refine pj_X_of (fun r h => pj_R_to (G0, 48, [(0, .ref 14), (1, .int set), (2, .int op), (3, .int v3), (4, .int v4)], [.int (v3 ||| z30)], 0, 0) 48 2 (fun _ => rfl) h) ?_
          obtain ⟨z31, hz31⟩ : ∃ z : Int32, z = v3 ||| z30 := ⟨_, rfl⟩
          rw [← hz31]
          refine pj_X_of (fun r h => pj_R_to (G0, 52, [(3, .int z31), (0, .ref 14), (1, .int set), (2, .int op), (4, .int v4)], [.int v4, .int op], 0, 0) 52 4 (fun _ => rfl) h) ?_
          refine pj_X_ca (vs := [.int op, .int v4]) rfl (fun _ => rfl) ⟨Nat.le_of_ble_eq_true rfl, Nat.le_of_ble_eq_true rfl, rfl⟩ ⟨rfl, rfl⟩ (pj_Y_up (by decide) (ct_163x G0 hI op v4)) ?_
          rintro _ _ ⟨y32, rfl, rfl, ry32, fy32⟩
          show pj_X _ _ G0 55 [(3, .int z31), (0, .ref 14), (1, .int set), (2, .int op), (4, .int v4)] [.int y32] _
          cases b33 : pj_c1 .eq y32 0 with
          | true =>
            have ub33 := pj_u0_eqT b33
            refine pj_X_of (fun r h => pj_R_ifT 84 rfl rfl b33 h) ?_
            refine pj_X_of (fun r h => pj_R_to (G0, 87, [(4, .int (v4 + Int32.ofInt 1)), (3, .int z31), (0, .ref 14), (1, .int set), (2, .int op)], [], 0, 0) 87 2 (fun _ => rfl) h) ?_
            obtain ⟨z34, hz34⟩ : ∃ z : Int32, z = v4 + Int32.ofInt 1 := ⟨_, rfl⟩
            rw [← hz34]
            have fz34_0 : z34.toInt = v4.toInt + (Int32.ofInt 1).toInt := by rw [hz34]; exact pj_addI (by have := pj_i32 v4; have := pj_i32 (Int32.ofInt 1); omega) (by have := pj_i32 v4; have := pj_i32 (Int32.ofInt 1); omega)
            refine pj_X_of (fun r h => pj_R_to (G0, 5, [(4, .int z34), (3, .int z31), (0, .ref 14), (1, .int set), (2, .int op)], [], 0, 0) 5 2 (fun _ => rfl) h) ?_
            exact pj_X_sub [(0, .ref 14), (1, .int set), (2, .int op), (3, .int z31), (4, .int z34)] (show List.Nodup [0, 1, 2, 3, 4] by decide) ⟨rfl, rfl, rfl, rfl, rfl, trivial⟩ (ih z31 z34 (pj_i32 _) ⟨by omega, by omega⟩ (by omega))
          | false =>
            have ub33 := pj_u0_eqF b33
            refine pj_X_of (fun r h => pj_R_ifF rfl b33 h) ?_
            refine pj_X_of (fun r h => pj_R_to (G0, 60, [(3, .int z31), (0, .ref 14), (1, .int set), (2, .int op), (4, .int v4)], [.ref 14, .int set], 0, 0) 60 3 (fun _ => rfl) h) ?_
            refine pj_X_of (fun r h => pj_T_gr hI rfl rfl rfl h) ?_
            refine pj_X_of (fun r h => pj_R_to (G0, 65, [(3, .int z31), (0, .ref 14), (1, .int set), (2, .int op), (4, .int v4)], [.int v4, .ref 16, .int set], 0, 0) 65 2 (fun _ => rfl) h) ?_
            refine pj_X_of (fun r h => pj_T_il hI rfl rfl (by omega) (by omega) h) ?_
            show pj_X _ _ G0 66 [(3, .int z31), (0, .ref 14), (1, .int set), (2, .int op), (4, .int v4)] [.int (pj_ai G0 16 v4.toInt.toNat), .int set] _
            rw [← hz29]
            refine pj_X_ca (vs := [.int set, .int z29]) rfl (fun _ => rfl) ⟨Nat.le_of_ble_eq_true rfl, Nat.le_of_ble_eq_true rfl, rfl⟩ ⟨rfl, rfl⟩ (pj_Y_up (by decide) (ct_163x G0 hI set z29)) ?_
            rintro _ _ ⟨y35, rfl, rfl, ry35, fy35⟩
            show pj_X _ _ G0 69 [(3, .int z31), (0, .ref 14), (1, .int set), (2, .int op), (4, .int v4)] [.int y35] _
            cases b36 : pj_c1 .eq y35 0 with
            | true =>
              have ub36 := pj_u0_eqT b36
              refine pj_X_of (fun r h => pj_R_ifT 84 rfl rfl b36 h) ?_
              refine pj_X_of (fun r h => pj_R_to (G0, 87, [(4, .int (v4 + Int32.ofInt 1)), (3, .int z31), (0, .ref 14), (1, .int set), (2, .int op)], [], 0, 0) 87 2 (fun _ => rfl) h) ?_
              obtain ⟨z37, hz37⟩ : ∃ z : Int32, z = v4 + Int32.ofInt 1 := ⟨_, rfl⟩
              rw [← hz37]
              have fz37_0 : z37.toInt = v4.toInt + (Int32.ofInt 1).toInt := by rw [hz37]; exact pj_addI (by have := pj_i32 v4; have := pj_i32 (Int32.ofInt 1); omega) (by have := pj_i32 v4; have := pj_i32 (Int32.ofInt 1); omega)
              refine pj_X_of (fun r h => pj_R_to (G0, 5, [(4, .int z37), (3, .int z31), (0, .ref 14), (1, .int set), (2, .int op)], [], 0, 0) 5 2 (fun _ => rfl) h) ?_
              exact pj_X_sub [(0, .ref 14), (1, .int set), (2, .int op), (3, .int z31), (4, .int z37)] (show List.Nodup [0, 1, 2, 3, 4] by decide) ⟨rfl, rfl, rfl, rfl, rfl, trivial⟩ (ih z31 z37 (pj_i32 _) ⟨by omega, by omega⟩ (by omega))
            | false =>
              have ub36 := pj_u0_eqF b36
              refine pj_X_of (fun r h => pj_R_ifF rfl b36 h) ?_
              refine pj_X_of (fun r h => pj_R_to (G0, 75, [(3, .int z31), (0, .ref 14), (1, .int set), (2, .int op), (4, .int v4)], [.ref 14, .int (Int32.ofInt 1), .int z31], 0, 0) 75 4 (fun _ => rfl) h) ?_
              refine pj_X_of (fun r h => pj_T_gr hI rfl rfl rfl h) ?_
              refine pj_X_of (fun r h => pj_R_to (G0, 80, [(3, .int z31), (0, .ref 14), (1, .int set), (2, .int op), (4, .int v4)], [.int v4, .ref 15, .int (Int32.ofInt 1), .int z31], 0, 0) 80 2 (fun _ => rfl) h) ?_
              refine pj_X_of (fun r h => pj_T_il hI rfl rfl (by omega) (by omega) h) ?_
              show pj_X _ _ G0 81 [(3, .int z31), (0, .ref 14), (1, .int set), (2, .int op), (4, .int v4)] [.int (pj_ai G0 15 v4.toInt.toNat), .int (Int32.ofInt 1), .int z31] _
              rw [← hz16]
              refine pj_X_of (fun r h => pj_R_to (G0, 82, [(3, .int z31), (0, .ref 14), (1, .int set), (2, .int op), (4, .int v4)], [.int ((Int32.ofInt 1) <<< (z16 &&& 31)), .int z31], 0, 0) 82 2 (fun _ => rfl) h) ?_
              obtain ⟨z38, hz38⟩ : ∃ z : Int32, z = (Int32.ofInt 1) <<< (z16 &&& 31) := ⟨_, rfl⟩
              rw [← hz38]
              have fz38_0 : 1 ≤ z38.toInt ∧ z38.toInt ≤ 128 := by rw [hz38]; exact pj_shlI7 (by omega) (by omega)
              refine pj_X_of (fun r h => pj_R_to (G0, 83, [(3, .int z31), (0, .ref 14), (1, .int set), (2, .int op), (4, .int v4)], [.int (z31 ||| z38)], 0, 0) 83 2 (fun _ => rfl) h) ?_
              obtain ⟨z39, hz39⟩ : ∃ z : Int32, z = z31 ||| z38 := ⟨_, rfl⟩
              rw [← hz39]
              refine pj_X_of (fun r h => pj_R_to (G0, 87, [(4, .int (v4 + Int32.ofInt 1)), (3, .int z39), (0, .ref 14), (1, .int set), (2, .int op)], [], 0, 0) 87 3 (fun _ => rfl) h) ?_
              obtain ⟨z40, hz40⟩ : ∃ z : Int32, z = v4 + Int32.ofInt 1 := ⟨_, rfl⟩
              rw [← hz40]
              have fz40_0 : z40.toInt = v4.toInt + (Int32.ofInt 1).toInt := by rw [hz40]; exact pj_addI (by have := pj_i32 v4; have := pj_i32 (Int32.ofInt 1); omega) (by have := pj_i32 v4; have := pj_i32 (Int32.ofInt 1); omega)
              refine pj_X_of (fun r h => pj_R_to (G0, 5, [(4, .int z40), (3, .int z39), (0, .ref 14), (1, .int set), (2, .int op)], [], 0, 0) 5 2 (fun _ => rfl) h) ?_
              exact pj_X_sub [(0, .ref 14), (1, .int set), (2, .int op), (3, .int z39), (4, .int z40)] (show List.Nodup [0, 1, 2, 3, 4] by decide) ⟨rfl, rfl, rfl, rfl, rfl, trivial⟩ (ih z39 z40 (pj_i32 _) ⟨by omega, by omega⟩ (by omega))
theorem ct_45_14 (G0 : pj_G) (hI : pj_Inv G0) (set : Int32) (op : Int32) : pj_Y 2 45 [.ref 14, .int set, .int op] G0 (fun v G' => ∃ y : Int32, v = some (.int y) ∧ G0 = G' ∧ ((-2147483648 : Int) ≤ y.toInt ∧ y.toInt ≤ 2147483647)) := by
  have c0_ : (Int32.ofInt 0).toInt = 0 := by decide
  have c1_ : (Int32.ofInt 1).toInt = 1 := by decide
  refine pj_Y_X (M := pj_m45) rfl rfl (Nat.le_of_ble_eq_true rfl) ?_
  have hK : pj_kpt ([], [], []) G0 G0 := pj_kpt_r _ _
  show pj_X _ _ G0 0 [(0, .ref 14), (1, .int set), (2, .int op)] [] _
  refine pj_X_of (fun r h => pj_R_to (G0, 5, [(4, .int (Int32.ofInt 0)), (3, .int set), (0, .ref 14), (1, .int set), (2, .int op)], [], 0, 0) 5 5 (fun _ => rfl) h) ?_
  exact pj_X_sub [(0, .ref 14), (1, .int set), (2, .int op), (3, .int set), (4, .int (Int32.ofInt 0))] (show List.Nodup [0, 1, 2, 3, 4] by decide) ⟨rfl, rfl, rfl, rfl, rfl, trivial⟩ ((lp_ct_45_14 G0 hI set op  11) set (Int32.ofInt 0) (pj_i32 _) ⟨by omega, by omega⟩ (by omega))
theorem lp_ct_46_14 (G0 : pj_G) (hI : pj_Inv G0) (b : Int32) (st : Int32) (op : Int32) (rst : (0 : Int) ≤ st.toInt ∧ st.toInt ≤ 8) : ∀ mn : Nat, (∀ (v4 : Int32) (v5 : Int32), ((-2147483648 : Int) ≤ v4.toInt ∧ v4.toInt ≤ 2147483647) → ((0 : Int) ≤ v5.toInt ∧ v5.toInt ≤ 8) → 8 - v5.toInt < (mn : Int) → pj_X 2 pj_m46 G0 8 [(0, .ref 14), (1, .int b), (2, .int st), (3, .int op), (4, .int v4), (5, .int v5)] [] (fun v G' => ∃ y : Int32, v = some (.int y) ∧ G0 = G' ∧ ((-2147483648 : Int) ≤ y.toInt ∧ y.toInt ≤ 2147483647))) := by
  have c0_ : (Int32.ofInt 0).toInt = 0 := by decide
  have c1_ : (Int32.ofInt 1).toInt = 1 := by decide
  have hK : pj_kpt ([], [], []) G0 G0 := pj_kpt_r _ _
  intro mn
  induction mn with
  | zero =>
    intro v4 v5 rv4 rv5 hm
    exfalso
    omega
  | succ mn ih =>
    intro v4 v5 rv4 rv5 hm
    refine pj_X_of (fun r h => pj_R_to (G0, 11, [(0, .ref 14), (1, .int b), (2, .int st), (3, .int op), (4, .int v4), (5, .int v5)], [.int st, .int v5], 0, 0) 11 3 (fun _ => rfl) h) ?_
    cases b1 : pj_c1 .ge v5 st with
    | true =>
      have ub1 := pj_u_geT b1
      refine pj_X_of (fun r h => pj_R_icT 29 rfl rfl b1 h) ?_
      refine pj_X_of (fun r h => pj_R_to (G0, 31, [(0, .ref 14), (1, .int b), (2, .int st), (3, .int op), (4, .int v4), (5, .int v5)], [.int v4], 0, 0) 31 2 (fun _ => rfl) h) ?_
      exact pj_X_rt rfl rfl ⟨_, rfl, rfl, pj_i32 _⟩
    | false =>
      have ub1 := pj_u_geF b1
      refine pj_X_of (fun r h => pj_R_icF rfl b1 h) ?_
      refine pj_X_of (fun r h => pj_R_to (G0, 18, [(0, .ref 14), (1, .int b), (2, .int st), (3, .int op), (4, .int v4), (5, .int v5)], [.int op, .int v4, .ref 14], 0, 0) 18 4 (fun _ => rfl) h) ?_
      refine pj_X_ca (vs := [.ref 14, .int v4, .int op]) rfl (fun _ => rfl) ⟨Nat.le_of_ble_eq_true rfl, Nat.le_of_ble_eq_true rfl, pj_T_rcv hI rfl⟩ ⟨rfl, rfl⟩ (pj_Y_up (by decide) (ct_45_14 G0 hI v4 op)) ?_
      rintro _ _ ⟨y2, rfl, rfl, ry2⟩
      show pj_X _ _ G0 21 [(0, .ref 14), (1, .int b), (2, .int st), (3, .int op), (4, .int v4), (5, .int v5)] [.int y2] _
      refine pj_X_of (fun r h => pj_R_to (G0, 26, [(5, .int (v5 + Int32.ofInt 1)), (4, .int y2), (0, .ref 14), (1, .int b), (2, .int st), (3, .int op)], [], 0, 0) 26 3 (fun _ => rfl) h) ?_
      obtain ⟨z3, hz3⟩ : ∃ z : Int32, z = v5 + Int32.ofInt 1 := ⟨_, rfl⟩
      rw [← hz3]
      have fz3_0 : z3.toInt = v5.toInt + (Int32.ofInt 1).toInt := by rw [hz3]; exact pj_addI (by have := pj_i32 v5; have := pj_i32 (Int32.ofInt 1); omega) (by have := pj_i32 v5; have := pj_i32 (Int32.ofInt 1); omega)
      refine pj_X_of (fun r h => pj_R_to (G0, 8, [(5, .int z3), (4, .int y2), (0, .ref 14), (1, .int b), (2, .int st), (3, .int op)], [], 0, 0) 8 2 (fun _ => rfl) h) ?_
      exact pj_X_sub [(0, .ref 14), (1, .int b), (2, .int st), (3, .int op), (4, .int y2), (5, .int z3)] (show List.Nodup [0, 1, 2, 3, 4, 5] by decide) ⟨rfl, rfl, rfl, rfl, rfl, rfl, trivial⟩ (ih y2 z3 (pj_i32 _) ⟨by omega, by omega⟩ (by omega))
theorem ct_46_14 (G0 : pj_G) (hI : pj_Inv G0) (b : Int32) (st : Int32) (op : Int32) (rst : (0 : Int) ≤ st.toInt ∧ st.toInt ≤ 8) : pj_Y 3 46 [.ref 14, .int b, .int st, .int op] G0 (fun v G' => ∃ y : Int32, v = some (.int y) ∧ G0 = G' ∧ ((-2147483648 : Int) ≤ y.toInt ∧ y.toInt ≤ 2147483647)) := by
  have c0_ : (Int32.ofInt 0).toInt = 0 := by decide
  have c1_ : (Int32.ofInt 1).toInt = 1 := by decide
  refine pj_Y_X (M := pj_m46) rfl rfl (Nat.le_of_ble_eq_true rfl) ?_
  have hK : pj_kpt ([], [], []) G0 G0 := pj_kpt_r _ _
  show pj_X _ _ G0 0 [(0, .ref 14), (1, .int b), (2, .int st), (3, .int op)] [] _
  refine pj_X_of (fun r h => pj_R_to (G0, 3, [(0, .ref 14), (1, .int b), (2, .int st), (3, .int op)], [.int ((Int32.ofInt 1) <<< (b &&& 31))], 0, 0) 3 4 (fun _ => rfl) h) ?_
  obtain ⟨z4, hz4⟩ : ∃ z : Int32, z = (Int32.ofInt 1) <<< (b &&& 31) := ⟨_, rfl⟩
  rw [← hz4]
  refine pj_X_of (fun r h => pj_R_to (G0, 8, [(5, .int (Int32.ofInt 0)), (4, .int z4), (0, .ref 14), (1, .int b), (2, .int st), (3, .int op)], [], 0, 0) 8 4 (fun _ => rfl) h) ?_
  exact pj_X_sub [(0, .ref 14), (1, .int b), (2, .int st), (3, .int op), (4, .int z4), (5, .int (Int32.ofInt 0))] (show List.Nodup [0, 1, 2, 3, 4, 5] by decide) ⟨rfl, rfl, rfl, rfl, rfl, rfl, trivial⟩ ((lp_ct_46_14 G0 hI b st op rst 9) z4 (Int32.ofInt 0) (pj_i32 _) ⟨by omega, by omega⟩ (by omega))
theorem lp_ct_47_14 (G0 : pj_G) (hI : pj_Inv G0) (b : Int32) (op : Int32) : ∀ mn : Nat, (∀ (v3 : Int32) (v4 : Int32), ((-2147483648 : Int) ≤ v3.toInt ∧ v3.toInt ≤ 2147483647) → ((0 : Int) ≤ v4.toInt ∧ v4.toInt ≤ 8) → 8 - v4.toInt < (mn : Int) → pj_X 2 pj_m47 G0 7 [(0, .ref 14), (1, .int b), (2, .int op), (3, .int v3), (4, .int v4)] [] (fun v G' => ∃ y : Int32, v = some (.int y) ∧ G0 = G' ∧ ((-2147483648 : Int) ≤ y.toInt ∧ y.toInt ≤ 2147483647))) := by
  have c0_ : (Int32.ofInt 0).toInt = 0 := by decide
  have c1_ : (Int32.ofInt 1).toInt = 1 := by decide
  have hK : pj_kpt ([], [], []) G0 G0 := pj_kpt_r _ _
  intro mn
  induction mn with
  | zero =>
    intro v3 v4 rv3 rv4 hm
    exfalso
    omega
  | succ mn ih =>
    intro v3 v4 rv3 rv4 hm
    refine pj_X_of (fun r h => pj_R_to (G0, 10, [(0, .ref 14), (1, .int b), (2, .int op), (3, .int v3), (4, .int v4)], [.ref 14, .int v4], 0, 0) 10 3 (fun _ => rfl) h) ?_
    refine pj_X_of (fun r h => pj_T_gi hI rfl rfl h) ?_
    show pj_X _ _ G0 13 [(0, .ref 14), (1, .int b), (2, .int op), (3, .int v3), (4, .int v4)] [.int (pj_fi G0 14 0), .int v4] _
    obtain ⟨y1, hy1⟩ : ∃ z : Int32, z = pj_fi G0 14 0 := ⟨_, rfl⟩
    rw [← hy1]
    have ey1 : (pj_fi G0 14 0).toInt = y1.toInt := by rw [hy1]
    have ry1 : (0 : Int) ≤ y1.toInt ∧ y1.toInt ≤ 8 := by rw [hy1]; exact hI.2.1 14 0 (0, 8) rfl
    cases b2 : pj_c1 .ge v4 y1 with
    | true =>
      have ub2 := pj_u_geT b2
      refine pj_X_of (fun r h => pj_R_icT 41 rfl rfl b2 h) ?_
      refine pj_X_of (fun r h => pj_R_to (G0, 42, [(0, .ref 14), (1, .int b), (2, .int op), (3, .int v3), (4, .int v4)], [.int v3], 0, 0) 42 2 (fun _ => rfl) h) ?_
      exact pj_X_rt rfl rfl ⟨_, rfl, rfl, pj_i32 _⟩
    | false =>
      have ub2 := pj_u_geF b2
      refine pj_X_of (fun r h => pj_R_icF rfl b2 h) ?_
      refine pj_X_of (fun r h => pj_R_to (G0, 19, [(0, .ref 14), (1, .int b), (2, .int op), (3, .int v3), (4, .int v4)], [.int op, .int v3, .ref 14], 0, 0) 19 4 (fun _ => rfl) h) ?_
      refine pj_X_ca (vs := [.ref 14, .int v3, .int op]) rfl (fun _ => rfl) ⟨Nat.le_of_ble_eq_true rfl, Nat.le_of_ble_eq_true rfl, pj_T_rcv hI rfl⟩ ⟨rfl, rfl⟩ (pj_Y_up (by decide) (ct_45_14 G0 hI v3 op)) ?_
      rintro _ _ ⟨y3, rfl, rfl, ry3⟩
      show pj_X _ _ G0 22 [(0, .ref 14), (1, .int b), (2, .int op), (3, .int v3), (4, .int v4)] [.int y3] _
      refine pj_X_of (fun r h => pj_R_to (G0, 27, [(5, .int y3), (0, .ref 14), (1, .int b), (2, .int op), (3, .int v3), (4, .int v4)], [.int v3, .int y3], 0, 0) 27 4 (fun _ => rfl) h) ?_
      cases b4 : pj_c1 .ne y3 v3 with
      | true =>
        have ub4 := pj_u_neT b4
        refine pj_X_of (fun r h => pj_R_icT 32 rfl rfl b4 h) ?_
        refine pj_X_of (fun r h => pj_R_to (G0, 38, [(4, .int (v4 + Int32.ofInt 1)), (3, .int y3), (5, .int y3), (0, .ref 14), (1, .int b), (2, .int op)], [], 0, 0) 38 4 (fun _ => rfl) h) ?_
        obtain ⟨z5, hz5⟩ : ∃ z : Int32, z = v4 + Int32.ofInt 1 := ⟨_, rfl⟩
        rw [← hz5]
        have fz5_0 : z5.toInt = v4.toInt + (Int32.ofInt 1).toInt := by rw [hz5]; exact pj_addI (by have := pj_i32 v4; have := pj_i32 (Int32.ofInt 1); omega) (by have := pj_i32 v4; have := pj_i32 (Int32.ofInt 1); omega)
        refine pj_X_of (fun r h => pj_R_to (G0, 7, [(4, .int z5), (3, .int y3), (5, .int y3), (0, .ref 14), (1, .int b), (2, .int op)], [], 0, 0) 7 2 (fun _ => rfl) h) ?_
        exact pj_X_sub [(0, .ref 14), (1, .int b), (2, .int op), (3, .int y3), (4, .int z5)] (show List.Nodup [0, 1, 2, 3, 4] by decide) ⟨rfl, rfl, rfl, rfl, rfl, trivial⟩ (ih y3 z5 (pj_i32 _) ⟨by omega, by omega⟩ (by omega))
      | false =>
        have ub4 := pj_u_neF b4
        refine pj_X_of (fun r h => pj_R_icF rfl b4 h) ?_
        refine pj_X_of (fun r h => pj_R_to (G0, 31, [(5, .int y3), (0, .ref 14), (1, .int b), (2, .int op), (3, .int v3), (4, .int v4)], [.int v3], 0, 0) 31 2 (fun _ => rfl) h) ?_
        exact pj_X_rt rfl rfl ⟨_, rfl, rfl, pj_i32 _⟩
theorem ct_47_14 (G0 : pj_G) (hI : pj_Inv G0) (b : Int32) (op : Int32) : pj_Y 3 47 [.ref 14, .int b, .int op] G0 (fun v G' => ∃ y : Int32, v = some (.int y) ∧ G0 = G' ∧ ((-2147483648 : Int) ≤ y.toInt ∧ y.toInt ≤ 2147483647)) := by
  have c0_ : (Int32.ofInt 0).toInt = 0 := by decide
  have c1_ : (Int32.ofInt 1).toInt = 1 := by decide
  refine pj_Y_X (M := pj_m47) rfl rfl (Nat.le_of_ble_eq_true rfl) ?_
  have hK : pj_kpt ([], [], []) G0 G0 := pj_kpt_r _ _
  show pj_X _ _ G0 0 [(0, .ref 14), (1, .int b), (2, .int op)] [] _
  refine pj_X_of (fun r h => pj_R_to (G0, 3, [(0, .ref 14), (1, .int b), (2, .int op)], [.int ((Int32.ofInt 1) <<< (b &&& 31))], 0, 0) 3 4 (fun _ => rfl) h) ?_
  obtain ⟨z6, hz6⟩ : ∃ z : Int32, z = (Int32.ofInt 1) <<< (b &&& 31) := ⟨_, rfl⟩
  rw [← hz6]
  refine pj_X_of (fun r h => pj_R_to (G0, 7, [(4, .int (Int32.ofInt 0)), (3, .int z6), (0, .ref 14), (1, .int b), (2, .int op)], [], 0, 0) 7 4 (fun _ => rfl) h) ?_
  exact pj_X_sub [(0, .ref 14), (1, .int b), (2, .int op), (3, .int z6), (4, .int (Int32.ofInt 0))] (show List.Nodup [0, 1, 2, 3, 4] by decide) ⟨rfl, rfl, rfl, rfl, rfl, trivial⟩ ((lp_ct_47_14 G0 hI b op  9) z6 (Int32.ofInt 0) (pj_i32 _) ⟨by omega, by omega⟩ (by omega))
theorem ct_48_14 (G0 : pj_G) (hI : pj_Inv G0) (f : Int32) (to : Int32) (op : Int32) : pj_Y 4 48 [.ref 14, .int f, .int to, .int op] G0 (fun v G' => ∃ y : Int32, v = some (.int y) ∧ G0 = G' ∧ ((0 : Int) ≤ y.toInt ∧ y.toInt ≤ 1)) := by
  refine pj_Y_X (M := pj_m48) rfl rfl (Nat.le_of_ble_eq_true rfl) ?_
  have hK : pj_kpt ([], [], []) G0 G0 := pj_kpt_r _ _
  show pj_X _ _ G0 0 [(0, .ref 14), (1, .int f), (2, .int to), (3, .int op)] [] _
  refine pj_X_of (fun r h => pj_R_to (G0, 3, [(0, .ref 14), (1, .int f), (2, .int to), (3, .int op)], [.int op, .int f, .ref 14], 0, 0) 3 4 (fun _ => rfl) h) ?_
  refine pj_X_ca (vs := [.ref 14, .int f, .int op]) rfl (fun _ => rfl) ⟨Nat.le_of_ble_eq_true rfl, Nat.le_of_ble_eq_true rfl, pj_T_rcv hI rfl⟩ ⟨rfl, rfl⟩ (pj_Y_up (by decide) (ct_47_14 G0 hI f op)) ?_
  rintro _ _ ⟨y1, rfl, rfl, ry1⟩
  show pj_X _ _ G0 6 [(0, .ref 14), (1, .int f), (2, .int to), (3, .int op)] [.int y1] _
  refine pj_X_of (fun r h => pj_R_to (G0, 7, [(0, .ref 14), (1, .int f), (2, .int to), (3, .int op)], [.int to, .int y1], 0, 0) 7 2 (fun _ => rfl) h) ?_
  refine pj_X_ca (vs := [.int y1, .int to]) rfl (fun _ => rfl) ⟨Nat.le_of_ble_eq_true rfl, Nat.le_of_ble_eq_true rfl, rfl⟩ ⟨rfl, rfl⟩ (pj_Y_up (by decide) (ct_163x G0 hI y1 to)) ?_
  rintro _ _ ⟨y2, rfl, rfl, ry2, fy2⟩
  show pj_X _ _ G0 10 [(0, .ref 14), (1, .int f), (2, .int to), (3, .int op)] [.int y2] _
  exact pj_X_rt (v := some (.int y2)) rfl (pj_rtb ⟨by omega, by omega⟩) ⟨_, rfl, rfl, ⟨by omega, by omega⟩⟩
theorem lp_ct_49_14 (G0 : pj_G) (hI : pj_Inv G0) (op : Int32) : ∀ mn : Nat, (∀ (v2 : Int32) (v3 : Int32) (v4 : Int32), ((-2147483648 : Int) ≤ v2.toInt ∧ v2.toInt ≤ 2147483647) → ((-2147483648 : Int) ≤ v3.toInt ∧ v3.toInt ≤ 2147483647) → ((0 : Int) ≤ v4.toInt ∧ v4.toInt ≤ 8) → 8 - v4.toInt < (mn : Int) → pj_X 3 pj_m49 G0 7 [(0, .ref 14), (1, .int op), (2, .int v2), (3, .int v3), (4, .int v4)] [] (fun v G' => ∃ y : Int32, v = some (.int y) ∧ G0 = G' ∧ ((-2147483648 : Int) ≤ y.toInt ∧ y.toInt ≤ 2147483647))) := by
  have c0_ : (Int32.ofInt 0).toInt = 0 := by decide
  have c1_ : (Int32.ofInt 1).toInt = 1 := by decide
  have c2_ : (Int32.ofInt 2).toInt = 2 := by decide
  have hK : pj_kpt ([], [], []) G0 G0 := pj_kpt_r _ _
  intro mn
  induction mn with
  | zero =>
    intro v2 v3 v4 rv2 rv3 rv4 hm
    exfalso
    omega
  | succ mn ih =>
    intro v2 v3 v4 rv2 rv3 rv4 hm
    refine pj_X_of (fun r h => pj_R_to (G0, 10, [(0, .ref 14), (1, .int op), (2, .int v2), (3, .int v3), (4, .int v4)], [.ref 14, .int v4], 0, 0) 10 3 (fun _ => rfl) h) ?_
    refine pj_X_of (fun r h => pj_T_gi hI rfl rfl h) ?_
    show pj_X _ _ G0 13 [(0, .ref 14), (1, .int op), (2, .int v2), (3, .int v3), (4, .int v4)] [.int (pj_fi G0 14 0), .int v4] _
    obtain ⟨y1, hy1⟩ : ∃ z : Int32, z = pj_fi G0 14 0 := ⟨_, rfl⟩
    rw [← hy1]
    have ey1 : (pj_fi G0 14 0).toInt = y1.toInt := by rw [hy1]
    have ry1 : (0 : Int) ≤ y1.toInt ∧ y1.toInt ≤ 8 := by rw [hy1]; exact hI.2.1 14 0 (0, 8) rfl
    cases b2 : pj_c1 .ge v4 y1 with
    | true =>
      have ub2 := pj_u_geT b2
      refine pj_X_of (fun r h => pj_R_icT 64 rfl rfl b2 h) ?_
      refine pj_X_of (fun r h => pj_R_to (G0, 65, [(0, .ref 14), (1, .int op), (2, .int v2), (3, .int v3), (4, .int v4)], [.int v2], 0, 0) 65 2 (fun _ => rfl) h) ?_
      exact pj_X_rt rfl rfl ⟨_, rfl, rfl, pj_i32 _⟩
    | false =>
      have ub2 := pj_u_geF b2
      refine pj_X_of (fun r h => pj_R_icF rfl b2 h) ?_
      refine pj_X_of (fun r h => pj_R_to (G0, 19, [(0, .ref 14), (1, .int op), (2, .int v2), (3, .int v3), (4, .int v4)], [.int v4, .int v3], 0, 0) 19 3 (fun _ => rfl) h) ?_
      refine pj_X_ca (vs := [.int v3, .int v4]) rfl (fun _ => rfl) ⟨Nat.le_of_ble_eq_true rfl, Nat.le_of_ble_eq_true rfl, rfl⟩ ⟨rfl, rfl⟩ (pj_Y_up (by decide) (ct_163x G0 hI v3 v4)) ?_
      rintro _ _ ⟨y3, rfl, rfl, ry3, fy3⟩
      show pj_X _ _ G0 22 [(0, .ref 14), (1, .int op), (2, .int v2), (3, .int v3), (4, .int v4)] [.int y3] _
      cases b4 : pj_c1 .ne y3 0 with
      | true =>
        have ub4 := pj_u0_neT b4
        refine pj_X_of (fun r h => pj_R_ifT 58 rfl rfl b4 h) ?_
        refine pj_X_of (fun r h => pj_R_to (G0, 61, [(4, .int (v4 + Int32.ofInt 1)), (0, .ref 14), (1, .int op), (2, .int v2), (3, .int v3)], [], 0, 0) 61 2 (fun _ => rfl) h) ?_
        obtain ⟨z5, hz5⟩ : ∃ z : Int32, z = v4 + Int32.ofInt 1 := ⟨_, rfl⟩
        rw [← hz5]
        have fz5_0 : z5.toInt = v4.toInt + (Int32.ofInt 1).toInt := by rw [hz5]; exact pj_addI (by have := pj_i32 v4; have := pj_i32 (Int32.ofInt 1); omega) (by have := pj_i32 v4; have := pj_i32 (Int32.ofInt 1); omega)
        refine pj_X_of (fun r h => pj_R_to (G0, 7, [(4, .int z5), (0, .ref 14), (1, .int op), (2, .int v2), (3, .int v3)], [], 0, 0) 7 2 (fun _ => rfl) h) ?_
        exact pj_X_sub [(0, .ref 14), (1, .int op), (2, .int v2), (3, .int v3), (4, .int z5)] (show List.Nodup [0, 1, 2, 3, 4] by decide) ⟨rfl, rfl, rfl, rfl, rfl, trivial⟩ (ih v2 v3 z5 (pj_i32 _) (pj_i32 _) ⟨by omega, by omega⟩ (by omega))
      | false =>
        have ub4 := pj_u0_neF b4
        refine pj_X_of (fun r h => pj_R_ifF rfl b4 h) ?_
        refine pj_X_of (fun r h => pj_R_to (G0, 29, [(0, .ref 14), (1, .int op), (2, .int v2), (3, .int v3), (4, .int v4)], [.int op, .int v4, .ref 14], 0, 0) 29 4 (fun _ => rfl) h) ?_
        refine pj_X_ca (vs := [.ref 14, .int v4, .int op]) rfl (fun _ => rfl) ⟨Nat.le_of_ble_eq_true rfl, Nat.le_of_ble_eq_true rfl, pj_T_rcv hI rfl⟩ ⟨rfl, rfl⟩ (pj_Y_up (by decide) (ct_47_14 G0 hI v4 op)) ?_
        rintro _ _ ⟨y6, rfl, rfl, ry6⟩
        show pj_X _ _ G0 32 [(0, .ref 14), (1, .int op), (2, .int v2), (3, .int v3), (4, .int v4)] [.int y6] _
        refine pj_X_of (fun r h => pj_R_to (G0, 36, [(5, .int y6), (0, .ref 14), (1, .int op), (2, .int v2), (3, .int v3), (4, .int v4)], [.int y6], 0, 0) 36 3 (fun _ => rfl) h) ?_
        refine pj_X_ca (vs := [.int y6]) rfl (fun _ => rfl) ⟨Nat.le_of_ble_eq_true rfl, Nat.le_of_ble_eq_true rfl, rfl⟩ ⟨rfl, rfl⟩ (pj_Y_up (by decide) (ct_287 G0 hI y6)) ?_
        rintro _ _ ⟨y7, rfl, rfl, ry7⟩
        show pj_X _ _ G0 39 [(5, .int y6), (0, .ref 14), (1, .int op), (2, .int v2), (3, .int v3), (4, .int v4)] [.int y7] _
        refine pj_X_of (fun r h => pj_R_to (G0, 48, [(6, .int y7), (5, .int y6), (0, .ref 14), (1, .int op), (2, .int v2), (3, .int v3), (4, .int v4)], [.int (y7 - (Int32.ofInt 1)), .int y7, .int v2], 0, 0) 48 7 (fun _ => rfl) h) ?_
        obtain ⟨z8, hz8⟩ : ∃ z : Int32, z = y7 - (Int32.ofInt 1) := ⟨_, rfl⟩
        rw [← hz8]
        refine pj_X_of (fun r h => pj_R_to (G0, 49, [(6, .int y7), (5, .int y6), (0, .ref 14), (1, .int op), (2, .int v2), (3, .int v3), (4, .int v4)], [.int (y7 * z8), .int v2], 0, 0) 49 2 (fun _ => rfl) h) ?_
        obtain ⟨z9, hz9⟩ : ∃ z : Int32, z = y7 * z8 := ⟨_, rfl⟩
        rw [← hz9]
        refine pj_X_of (fun r h => pj_R_to (G0, 50, [(6, .int y7), (5, .int y6), (0, .ref 14), (1, .int op), (2, .int v2), (3, .int v3), (4, .int v4)], [.int (Int32.ofInt 2), .int z9, .int v2], 0, 0) 50 2 (fun _ => rfl) h) ?_
        refine pj_X_of (fun r h => pj_R_dv rfl (pj_nz (by omega)) h) ?_
        show pj_X _ _ G0 51 [(6, .int y7), (5, .int y6), (0, .ref 14), (1, .int op), (2, .int v2), (3, .int v3), (4, .int v4)] [.int (z9 / (Int32.ofInt 2)), .int v2] _
        obtain ⟨z10, hz10⟩ : ∃ z : Int32, z = z9 / (Int32.ofInt 2) := ⟨_, rfl⟩
        rw [← hz10]
        refine pj_X_of (fun r h => pj_R_to (G0, 52, [(6, .int y7), (5, .int y6), (0, .ref 14), (1, .int op), (2, .int v2), (3, .int v3), (4, .int v4)], [.int (v2 + z10)], 0, 0) 52 2 (fun _ => rfl) h) ?_
        obtain ⟨z11, hz11⟩ : ∃ z : Int32, z = v2 + z10 := ⟨_, rfl⟩
        rw [← hz11]
        refine pj_X_of (fun r h => pj_R_to (G0, 57, [(2, .int z11), (6, .int y7), (5, .int y6), (0, .ref 14), (1, .int op), (3, .int v3), (4, .int v4)], [.int (v3 ||| y6)], 0, 0) 57 5 (fun _ => rfl) h) ?_
        obtain ⟨z12, hz12⟩ : ∃ z : Int32, z = v3 ||| y6 := ⟨_, rfl⟩
        rw [← hz12]
        refine pj_X_of (fun r h => pj_R_to (G0, 61, [(4, .int (v4 + Int32.ofInt 1)), (3, .int z12), (2, .int z11), (6, .int y7), (5, .int y6), (0, .ref 14), (1, .int op)], [], 0, 0) 61 3 (fun _ => rfl) h) ?_
        obtain ⟨z13, hz13⟩ : ∃ z : Int32, z = v4 + Int32.ofInt 1 := ⟨_, rfl⟩
        rw [← hz13]
        have fz13_0 : z13.toInt = v4.toInt + (Int32.ofInt 1).toInt := by rw [hz13]; exact pj_addI (by have := pj_i32 v4; have := pj_i32 (Int32.ofInt 1); omega) (by have := pj_i32 v4; have := pj_i32 (Int32.ofInt 1); omega)
        refine pj_X_of (fun r h => pj_R_to (G0, 7, [(4, .int z13), (3, .int z12), (2, .int z11), (6, .int y7), (5, .int y6), (0, .ref 14), (1, .int op)], [], 0, 0) 7 2 (fun _ => rfl) h) ?_
        exact pj_X_sub [(0, .ref 14), (1, .int op), (2, .int z11), (3, .int z12), (4, .int z13)] (show List.Nodup [0, 1, 2, 3, 4] by decide) ⟨rfl, rfl, rfl, rfl, rfl, trivial⟩ (ih z11 z12 z13 (pj_i32 _) (pj_i32 _) ⟨by omega, by omega⟩ (by omega))
theorem ct_49_14 (G0 : pj_G) (hI : pj_Inv G0) (op : Int32) : pj_Y 4 49 [.ref 14, .int op] G0 (fun v G' => ∃ y : Int32, v = some (.int y) ∧ G0 = G' ∧ ((-2147483648 : Int) ≤ y.toInt ∧ y.toInt ≤ 2147483647)) := by
  have c0_ : (Int32.ofInt 0).toInt = 0 := by decide
  have c1_ : (Int32.ofInt 1).toInt = 1 := by decide
  have c2_ : (Int32.ofInt 2).toInt = 2 := by decide
  refine pj_Y_X (M := pj_m49) rfl rfl (Nat.le_of_ble_eq_true rfl) ?_
  have hK : pj_kpt ([], [], []) G0 G0 := pj_kpt_r _ _
  show pj_X _ _ G0 0 [(0, .ref 14), (1, .int op)] [] _
  refine pj_X_of (fun r h => pj_R_to (G0, 7, [(4, .int (Int32.ofInt 0)), (3, .int (Int32.ofInt 0)), (2, .int (Int32.ofInt 0)), (0, .ref 14), (1, .int op)], [], 0, 0) 7 7 (fun _ => rfl) h) ?_
  exact pj_X_sub [(0, .ref 14), (1, .int op), (2, .int (Int32.ofInt 0)), (3, .int (Int32.ofInt 0)), (4, .int (Int32.ofInt 0))] (show List.Nodup [0, 1, 2, 3, 4] by decide) ⟨rfl, rfl, rfl, rfl, rfl, trivial⟩ ((lp_ct_49_14 G0 hI op  9) (Int32.ofInt 0) (Int32.ofInt 0) (Int32.ofInt 0) (pj_i32 _) (pj_i32 _) ⟨by omega, by omega⟩ (by omega))
theorem lp_ct_50_14 (G0 : pj_G) (hI : pj_Inv G0) (f : Int32) (to : Int32) (op : Int32) : ∀ mn : Nat, (∀ (v4 : Int32) (v5 : Int32), ((-2147483648 : Int) ≤ v4.toInt ∧ v4.toInt ≤ 2147483647) → ((0 : Int) ≤ v5.toInt ∧ v5.toInt ≤ 8) → 8 - v5.toInt < (mn : Int) → pj_X 2 pj_m50 G0 8 [(0, .ref 14), (1, .int f), (2, .int to), (3, .int op), (4, .int v4), (5, .int v5)] [] (fun v G' => ∃ y : Int32, v = some (.int y) ∧ G0 = G' ∧ ((-1 : Int) ≤ y.toInt ∧ y.toInt ≤ 7))) := by
  have c0_ : (Int32.ofInt (-1)).toInt = -1 := by decide
  have c1_ : (Int32.ofInt 0).toInt = 0 := by decide
  have c2_ : (Int32.ofInt 1).toInt = 1 := by decide
  have hK : pj_kpt ([], [], []) G0 G0 := pj_kpt_r _ _
  intro mn
  induction mn with
  | zero =>
    intro v4 v5 rv4 rv5 hm
    exfalso
    omega
  | succ mn ih =>
    intro v4 v5 rv4 rv5 hm
    refine pj_X_of (fun r h => pj_R_to (G0, 11, [(0, .ref 14), (1, .int f), (2, .int to), (3, .int op), (4, .int v4), (5, .int v5)], [.ref 14, .int v5], 0, 0) 11 3 (fun _ => rfl) h) ?_
    refine pj_X_of (fun r h => pj_T_gi hI rfl rfl h) ?_
    show pj_X _ _ G0 14 [(0, .ref 14), (1, .int f), (2, .int to), (3, .int op), (4, .int v4), (5, .int v5)] [.int (pj_fi G0 14 0), .int v5] _
    obtain ⟨y1, hy1⟩ : ∃ z : Int32, z = pj_fi G0 14 0 := ⟨_, rfl⟩
    rw [← hy1]
    have ey1 : (pj_fi G0 14 0).toInt = y1.toInt := by rw [hy1]
    have ry1 : (0 : Int) ≤ y1.toInt ∧ y1.toInt ≤ 8 := by rw [hy1]; exact hI.2.1 14 0 (0, 8) rfl
    cases b2 : pj_c1 .ge v5 y1 with
    | true =>
      have ub2 := pj_u_geT b2
      refine pj_X_of (fun r h => pj_R_icT 44 rfl rfl b2 h) ?_
      refine pj_X_of (fun r h => pj_R_to (G0, 45, [(0, .ref 14), (1, .int f), (2, .int to), (3, .int op), (4, .int v4), (5, .int v5)], [.int (Int32.ofInt (-1))], 0, 0) 45 2 (fun _ => rfl) h) ?_
      exact pj_X_rt rfl rfl ⟨_, rfl, rfl, ⟨by omega, by omega⟩⟩
    | false =>
      have ub2 := pj_u_geF b2
      refine pj_X_of (fun r h => pj_R_icF rfl b2 h) ?_
      refine pj_X_of (fun r h => pj_R_to (G0, 20, [(0, .ref 14), (1, .int f), (2, .int to), (3, .int op), (4, .int v4), (5, .int v5)], [.int to, .int v4], 0, 0) 20 3 (fun _ => rfl) h) ?_
      refine pj_X_ca (vs := [.int v4, .int to]) rfl (fun _ => rfl) ⟨Nat.le_of_ble_eq_true rfl, Nat.le_of_ble_eq_true rfl, rfl⟩ ⟨rfl, rfl⟩ (pj_Y_up (by decide) (ct_163x G0 hI v4 to)) ?_
      rintro _ _ ⟨y3, rfl, rfl, ry3, fy3⟩
      show pj_X _ _ G0 23 [(0, .ref 14), (1, .int f), (2, .int to), (3, .int op), (4, .int v4), (5, .int v5)] [.int y3] _
      cases b4 : pj_c1 .eq y3 0 with
      | true =>
        have ub4 := pj_u0_eqT b4
        refine pj_X_of (fun r h => pj_R_ifT 29 rfl rfl b4 h) ?_
        refine pj_X_of (fun r h => pj_R_to (G0, 33, [(0, .ref 14), (1, .int f), (2, .int to), (3, .int op), (4, .int v4), (5, .int v5)], [.int op, .int v4, .ref 14], 0, 0) 33 4 (fun _ => rfl) h) ?_
        refine pj_X_ca (vs := [.ref 14, .int v4, .int op]) rfl (fun _ => rfl) ⟨Nat.le_of_ble_eq_true rfl, Nat.le_of_ble_eq_true rfl, pj_T_rcv hI rfl⟩ ⟨rfl, rfl⟩ (pj_Y_up (by decide) (ct_45_14 G0 hI v4 op)) ?_
        rintro _ _ ⟨y5, rfl, rfl, ry5⟩
        show pj_X _ _ G0 36 [(0, .ref 14), (1, .int f), (2, .int to), (3, .int op), (4, .int v4), (5, .int v5)] [.int y5] _
        refine pj_X_of (fun r h => pj_R_to (G0, 41, [(5, .int (v5 + Int32.ofInt 1)), (4, .int y5), (0, .ref 14), (1, .int f), (2, .int to), (3, .int op)], [], 0, 0) 41 3 (fun _ => rfl) h) ?_
        obtain ⟨z6, hz6⟩ : ∃ z : Int32, z = v5 + Int32.ofInt 1 := ⟨_, rfl⟩
        rw [← hz6]
        have fz6_0 : z6.toInt = v5.toInt + (Int32.ofInt 1).toInt := by rw [hz6]; exact pj_addI (by have := pj_i32 v5; have := pj_i32 (Int32.ofInt 1); omega) (by have := pj_i32 v5; have := pj_i32 (Int32.ofInt 1); omega)
        refine pj_X_of (fun r h => pj_R_to (G0, 8, [(5, .int z6), (4, .int y5), (0, .ref 14), (1, .int f), (2, .int to), (3, .int op)], [], 0, 0) 8 2 (fun _ => rfl) h) ?_
        exact pj_X_sub [(0, .ref 14), (1, .int f), (2, .int to), (3, .int op), (4, .int y5), (5, .int z6)] (show List.Nodup [0, 1, 2, 3, 4, 5] by decide) ⟨rfl, rfl, rfl, rfl, rfl, rfl, trivial⟩ (ih y5 z6 (pj_i32 _) ⟨by omega, by omega⟩ (by omega))
      | false =>
        have ub4 := pj_u0_eqF b4
        refine pj_X_of (fun r h => pj_R_ifF rfl b4 h) ?_
        refine pj_X_of (fun r h => pj_R_to (G0, 28, [(0, .ref 14), (1, .int f), (2, .int to), (3, .int op), (4, .int v4), (5, .int v5)], [.int v5], 0, 0) 28 2 (fun _ => rfl) h) ?_
        exact pj_X_rt rfl rfl ⟨_, rfl, rfl, ⟨by omega, by omega⟩⟩
theorem ct_50_14 (G0 : pj_G) (hI : pj_Inv G0) (f : Int32) (to : Int32) (op : Int32) : pj_Y 3 50 [.ref 14, .int f, .int to, .int op] G0 (fun v G' => ∃ y : Int32, v = some (.int y) ∧ G0 = G' ∧ ((-1 : Int) ≤ y.toInt ∧ y.toInt ≤ 7)) := by
  have c0_ : (Int32.ofInt (-1)).toInt = -1 := by decide
  have c1_ : (Int32.ofInt 0).toInt = 0 := by decide
  have c2_ : (Int32.ofInt 1).toInt = 1 := by decide
  refine pj_Y_X (M := pj_m50) rfl rfl (Nat.le_of_ble_eq_true rfl) ?_
  have hK : pj_kpt ([], [], []) G0 G0 := pj_kpt_r _ _
  show pj_X _ _ G0 0 [(0, .ref 14), (1, .int f), (2, .int to), (3, .int op)] [] _
  refine pj_X_of (fun r h => pj_R_to (G0, 3, [(0, .ref 14), (1, .int f), (2, .int to), (3, .int op)], [.int ((Int32.ofInt 1) <<< (f &&& 31))], 0, 0) 3 4 (fun _ => rfl) h) ?_
  obtain ⟨z7, hz7⟩ : ∃ z : Int32, z = (Int32.ofInt 1) <<< (f &&& 31) := ⟨_, rfl⟩
  rw [← hz7]
  refine pj_X_of (fun r h => pj_R_to (G0, 8, [(5, .int (Int32.ofInt 0)), (4, .int z7), (0, .ref 14), (1, .int f), (2, .int to), (3, .int op)], [], 0, 0) 8 4 (fun _ => rfl) h) ?_
  exact pj_X_sub [(0, .ref 14), (1, .int f), (2, .int to), (3, .int op), (4, .int z7), (5, .int (Int32.ofInt 0))] (show List.Nodup [0, 1, 2, 3, 4, 5] by decide) ⟨rfl, rfl, rfl, rfl, rfl, rfl, trivial⟩ ((lp_ct_50_14 G0 hI f to op  9) z7 (Int32.ofInt 0) (pj_i32 _) ⟨by omega, by omega⟩ (by omega))
