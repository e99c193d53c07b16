def kc_42_7 : pj_KT := ([], [12, 13], [12, 13])
theorem lp_ct_42_7 (G0 : pj_G) (hI0 : pj_Inv G0) : ∀ mn : Nat, (∀ (G : pj_G) (hI : pj_Inv G) (hK : pj_kpt kc_42_7 G0 G) (v1 : Int32), ((0 : Int) ≤ v1.toInt ∧ v1.toInt ≤ 10) → 30 * (10 - v1.toInt) < (mn : Int) → pj_X 0 pj_m42 G 2 [(0, .ref 7), (1, .int v1)] [] (fun v G' => v = none ∧ pj_Inv G' ∧ pj_kpt kc_42_7 G0 G')) ∧ (∀ (G : pj_G) (hI : pj_Inv G) (hK : pj_kpt kc_42_7 G0 G) (v1 : Int32) (v2 : Int32) (v3 : Int32), ((0 : Int) ≤ v1.toInt ∧ v1.toInt ≤ 9) → ((0 : Int) ≤ v2.toInt ∧ v2.toInt ≤ 10) → ((0 : Int) ≤ v3.toInt ∧ v3.toInt ≤ 10) → (v2.toInt ≤ v3.toInt) → (v1.toInt < v3.toInt → v2.toInt ≤ v3.toInt - 1) → (v1.toInt < (pj_fi G 7 1).toInt) → 30 * (10 - v1.toInt) - 1 - v3.toInt < (mn : Int) → pj_X 0 pj_m42 G 14 [(0, .ref 7), (1, .int v1), (2, .int v2), (3, .int v3)] [] (fun v G' => v = none ∧ pj_Inv G' ∧ pj_kpt kc_42_7 G0 G')) := by
  have c0_ : (Int32.ofInt 0).toInt = 0 := by decide
  have c1_ : (Int32.ofInt 1).toInt = 1 := by decide
  intro mn
  induction mn with
  | zero =>
    refine ⟨?_, ?_⟩
    · intro G hI hK v1 rv1 hm
      exfalso
      omega
    · intro G hI hK v1 v2 v3 rv1 rv2 rv3 x0_ x1_ x2_ hm
      exfalso
      omega
  | succ mn ih =>
    refine ⟨?_, ?_⟩
    · intro G hI hK v1 rv1 hm
      refine pj_X_of (fun r h => pj_R_to (G, 4, [(0, .ref 7), (1, .int v1)], [.ref 7, .int v1], 0, 0) 4 3 (fun _ => rfl) h) ?_
      refine pj_X_of (fun r h => pj_T_gi hI rfl rfl h) ?_
      show pj_X _ _ G 7 [(0, .ref 7), (1, .int v1)] [.int (pj_fi G 7 1), .int v1] _
      obtain ⟨y1, hy1⟩ : ∃ z : Int32, z = pj_fi G 7 1 := ⟨_, rfl⟩
      rw [← hy1]
      have ey1 : (pj_fi G 7 1).toInt = y1.toInt := by rw [hy1]
      have ry1 : (0 : Int) ≤ y1.toInt ∧ y1.toInt ≤ 10 := by rw [hy1]; exact hI.2.1 7 1 (0, 10) rfl
      cases b2 : pj_c1 .ge v1 y1 with
      | true =>
        have ub2 := pj_u_geT b2
        refine pj_X_of (fun r h => pj_R_icT 86 rfl rfl b2 h) ?_
        exact pj_X_rt rfl rfl ⟨rfl, hI, hK⟩
      | false =>
        have ub2 := pj_u_geF b2
        refine pj_X_of (fun r h => pj_R_icF rfl b2 h) ?_
        refine pj_X_of (fun r h => pj_R_to (G, 14, [(3, .int (Int32.ofInt 0)), (2, .int (Int32.ofInt 0)), (0, .ref 7), (1, .int v1)], [], 0, 0) 14 5 (fun _ => rfl) h) ?_
        have q3 : (pj_fi G 7 1).toInt = y1.toInt := by rw [show pj_fi G 7 1 = y1 from hy1.symm]
        exact pj_X_sub [(0, .ref 7), (1, .int v1), (2, .int (Int32.ofInt 0)), (3, .int (Int32.ofInt 0))] (show List.Nodup [0, 1, 2, 3] by decide) ⟨rfl, rfl, rfl, rfl, trivial⟩ (ih.2 G hI hK v1 (Int32.ofInt 0) (Int32.ofInt 0) ⟨by omega, by omega⟩ ⟨by omega, by omega⟩ ⟨by omega, by omega⟩ (by omega) (by omega) (by omega) (by omega))
    · intro G hI hK v1 v2 v3 rv1 rv2 rv3 x0_ x1_ x2_ hm
      refine pj_X_of (fun r h => pj_R_to (G, 16, [(0, .ref 7), (1, .int v1), (2, .int v2), (3, .int v3)], [.ref 7, .int v3], 0, 0) 16 3 (fun _ => rfl) h) ?_
      refine pj_X_of (fun r h => pj_T_gi hI rfl rfl h) ?_
      show pj_X _ _ G 19 [(0, .ref 7), (1, .int v1), (2, .int v2), (3, .int v3)] [.int (pj_fi G 7 1), .int v3] _
      obtain ⟨y4, hy4⟩ : ∃ z : Int32, z = pj_fi G 7 1 := ⟨_, rfl⟩
      rw [← hy4]
      have ey4 : (pj_fi G 7 1).toInt = y4.toInt := by rw [hy4]
      have ry4 : (0 : Int) ≤ y4.toInt ∧ y4.toInt ≤ 10 := by rw [hy4]; exact hI.2.1 7 1 (0, 10) rfl
      cases b5 : pj_c1 .ge v3 y4 with
      | true =>
        have ub5 := pj_u_geT b5
        refine pj_X_of (fun r h => pj_R_icT 66 rfl rfl b5 h) ?_
        refine pj_X_of (fun r h => pj_R_to (G, 67, [(0, .ref 7), (1, .int v1), (2, .int v2), (3, .int v3)], [.ref 7], 0, 0) 67 2 (fun _ => rfl) h) ?_
        refine pj_X_of (fun r h => pj_T_gr hI rfl rfl rfl h) ?_
        refine pj_X_of (fun r h => pj_R_to (G, 72, [(0, .ref 7), (1, .int v1), (2, .int v2), (3, .int v3)], [.int v2, .int v1, .ref 12], 0, 0) 72 3 (fun _ => rfl) h) ?_
        refine pj_X_of (fun r h => pj_T_is hI rfl rfl (by omega) (by omega) h) ?_
        show pj_X _ _ (pj_wa G 12 v1.toInt.toNat v2) 73 [(0, .ref 7), (1, .int v1), (2, .int v2), (3, .int v3)] [] _
        obtain ⟨G6, hG6⟩ : ∃ H, H = pj_wa G 12 v1.toInt.toNat v2 := ⟨_, rfl⟩
        have iG6 : pj_Inv G6 := by rw [hG6]; exact pj_Inv_wa hI rfl (fun q hq => by cases hq; exact ⟨by show (0 : Int) ≤ _; omega, by show _ ≤ (9 : Int); omega, by show _ ≤ (0 : Int) ∨ (0 : Int) ≤ _; omega⟩) (fun n hn => by cases hn)
        have kG6 : pj_kpt kc_42_7 G0 G6 := by rw [hG6]; exact pj_kpt_a hK rfl
        rw [← hG6]
        refine pj_X_of (fun r h => pj_R_to (G6, 74, [(0, .ref 7), (1, .int v1), (2, .int v2), (3, .int v3)], [.ref 7], 0, 0) 74 2 (fun _ => rfl) h) ?_
        refine pj_X_of (fun r h => pj_T_gr iG6 rfl rfl rfl h) ?_
        refine pj_X_of (fun r h => pj_R_to (G6, 79, [(0, .ref 7), (1, .int v1), (2, .int v2), (3, .int v3)], [.int v1, .int v2, .ref 13], 0, 0) 79 3 (fun _ => rfl) h) ?_
        refine pj_X_of (fun r h => pj_T_is iG6 rfl rfl (by omega) (by omega) h) ?_
        show pj_X _ _ (pj_wa G6 13 v2.toInt.toNat v1) 80 [(0, .ref 7), (1, .int v1), (2, .int v2), (3, .int v3)] [] _
        obtain ⟨G7, hG7⟩ : ∃ H, H = pj_wa G6 13 v2.toInt.toNat v1 := ⟨_, rfl⟩
        have iG7 : pj_Inv G7 := by rw [hG7]; exact pj_Inv_wa iG6 rfl (fun q hq => by cases hq; exact ⟨by show (0 : Int) ≤ _; omega, by show _ ≤ (9 : Int); omega, by show _ ≤ (0 : Int) ∨ (0 : Int) ≤ _; omega⟩) (fun n hn => by cases hn)
        have kG7 : pj_kpt kc_42_7 G0 G7 := by rw [hG7]; exact pj_kpt_a kG6 rfl
        rw [← hG7]
        refine pj_X_of (fun r h => pj_R_to (G7, 83, [(1, .int (v1 + Int32.ofInt 1)), (0, .ref 7), (2, .int v2), (3, .int v3)], [], 0, 0) 83 2 (fun _ => rfl) h) ?_
        obtain ⟨z8, hz8⟩ : ∃ z : Int32, z = v1 + Int32.ofInt 1 := ⟨_, rfl⟩
        rw [← hz8]
        have fz8_0 : z8.toInt = v1.toInt + (Int32.ofInt 1).toInt := by rw [hz8]; exact pj_addI (by have := pj_i32 v1; have := pj_i32 (Int32.ofInt 1); omega) (by have := pj_i32 v1; have := pj_i32 (Int32.ofInt 1); omega)
        refine pj_X_of (fun r h => pj_R_to (G7, 2, [(1, .int z8), (0, .ref 7), (2, .int v2), (3, .int v3)], [], 0, 0) 2 2 (fun _ => rfl) h) ?_
        exact pj_X_sub [(0, .ref 7), (1, .int z8)] (show List.Nodup [0, 1] by decide) ⟨rfl, rfl, trivial⟩ (ih.1 G7 iG7 kG7 z8 ⟨by omega, by omega⟩ (by omega))
      | false =>
        have ub5 := pj_u_geF b5
        refine pj_X_of (fun r h => pj_R_icF rfl b5 h) ?_
        refine pj_X_of (fun r h => pj_R_to (G, 23, [(0, .ref 7), (1, .int v1), (2, .int v2), (3, .int v3)], [.ref 7], 0, 0) 23 2 (fun _ => rfl) h) ?_
        refine pj_X_of (fun r h => pj_T_gr hI rfl rfl rfl h) ?_
        refine pj_X_of (fun r h => pj_R_to (G, 27, [(0, .ref 7), (1, .int v1), (2, .int v2), (3, .int v3)], [.int v3, .ref 10], 0, 0) 27 2 (fun _ => rfl) h) ?_
        refine pj_X_of (fun r h => pj_T_il hI rfl rfl (by omega) (by omega) h) ?_
        show pj_X _ _ G 28 [(0, .ref 7), (1, .int v1), (2, .int v2), (3, .int v3)] [.int (pj_ai G 10 v3.toInt.toNat)] _
        obtain ⟨z9, hz9⟩ : ∃ z : Int32, z = pj_ai G 10 v3.toInt.toNat := ⟨_, rfl⟩
        rw [← hz9]
        have ez9 : (pj_ai G 10 v3.toInt.toNat).toInt = z9.toInt := by rw [hz9]
        refine pj_X_of (fun r h => pj_R_to (G, 29, [(0, .ref 7), (1, .int v1), (2, .int v2), (3, .int v3)], [.ref 7, .int z9], 0, 0) 29 2 (fun _ => rfl) h) ?_
        refine pj_X_of (fun r h => pj_T_gr hI rfl rfl rfl h) ?_
        refine pj_X_of (fun r h => pj_R_to (G, 33, [(0, .ref 7), (1, .int v1), (2, .int v2), (3, .int v3)], [.int v1, .ref 10, .int z9], 0, 0) 33 2 (fun _ => rfl) h) ?_
        refine pj_X_of (fun r h => pj_T_il hI rfl rfl (by omega) (by omega) h) ?_
        show pj_X _ _ G 34 [(0, .ref 7), (1, .int v1), (2, .int v2), (3, .int v3)] [.int (pj_ai G 10 v1.toInt.toNat), .int z9] _
        obtain ⟨z10, hz10⟩ : ∃ z : Int32, z = pj_ai G 10 v1.toInt.toNat := ⟨_, rfl⟩
        rw [← hz10]
        have ez10 : (pj_ai G 10 v1.toInt.toNat).toInt = z10.toInt := by rw [hz10]
        have xz10_z9 : v1.toInt = v3.toInt → z10.toInt = z9.toInt := by intro e; rw [hz10, hz9, show v1.toInt.toNat = v3.toInt.toNat by rw [e]]
        cases b11 : pj_c1 .lt z9 z10 with
        | true =>
          have ub11 := pj_u_ltT b11
          refine pj_X_of (fun r h => pj_R_icT 57 rfl rfl b11 h) ?_
          refine pj_X_of (fun r h => pj_R_to (G, 60, [(2, .int (v2 + Int32.ofInt 1)), (0, .ref 7), (1, .int v1), (3, .int v3)], [], 0, 0) 60 2 (fun _ => rfl) h) ?_
          obtain ⟨z12, hz12⟩ : ∃ z : Int32, z = v2 + Int32.ofInt 1 := ⟨_, rfl⟩
          rw [← hz12]
          have fz12_0 : z12.toInt = v2.toInt + (Int32.ofInt 1).toInt := by rw [hz12]; exact pj_addI (by have := pj_i32 v2; have := pj_i32 (Int32.ofInt 1); omega) (by have := pj_i32 v2; have := pj_i32 (Int32.ofInt 1); omega)
          refine pj_X_of (fun r h => pj_R_to (G, 63, [(3, .int (v3 + Int32.ofInt 1)), (2, .int z12), (0, .ref 7), (1, .int v1)], [], 0, 0) 63 2 (fun _ => rfl) h) ?_
          obtain ⟨z13, hz13⟩ : ∃ z : Int32, z = v3 + Int32.ofInt 1 := ⟨_, rfl⟩
          rw [← hz13]
          have fz13_0 : z13.toInt = v3.toInt + (Int32.ofInt 1).toInt := by rw [hz13]; exact pj_addI (by have := pj_i32 v3; have := pj_i32 (Int32.ofInt 1); omega) (by have := pj_i32 v3; have := pj_i32 (Int32.ofInt 1); omega)
          refine pj_X_of (fun r h => pj_R_to (G, 14, [(3, .int z13), (2, .int z12), (0, .ref 7), (1, .int v1)], [], 0, 0) 14 2 (fun _ => rfl) h) ?_
          have q14 : (pj_fi G 7 1).toInt = y4.toInt := by rw [show pj_fi G 7 1 = y4 from hy4.symm]
          exact pj_X_sub [(0, .ref 7), (1, .int v1), (2, .int z12), (3, .int z13)] (show List.Nodup [0, 1, 2, 3] by decide) ⟨rfl, rfl, rfl, rfl, trivial⟩ (ih.2 G hI hK v1 z12 z13 ⟨by omega, by omega⟩ ⟨by omega, by omega⟩ ⟨by omega, by omega⟩ (by omega) (by omega) (by omega) (by omega))
        | false =>
          have ub11 := pj_u_ltF b11
          refine pj_X_of (fun r h => pj_R_icF rfl b11 h) ?_
          refine pj_X_of (fun r h => pj_R_to (G, 38, [(0, .ref 7), (1, .int v1), (2, .int v2), (3, .int v3)], [.ref 7], 0, 0) 38 2 (fun _ => rfl) h) ?_
          refine pj_X_of (fun r h => pj_T_gr hI rfl rfl rfl h) ?_
          refine pj_X_of (fun r h => pj_R_to (G, 42, [(0, .ref 7), (1, .int v1), (2, .int v2), (3, .int v3)], [.int v3, .ref 10], 0, 0) 42 2 (fun _ => rfl) h) ?_
          refine pj_X_of (fun r h => pj_T_il hI rfl rfl (by omega) (by omega) h) ?_
          show pj_X _ _ G 43 [(0, .ref 7), (1, .int v1), (2, .int v2), (3, .int v3)] [.int (pj_ai G 10 v3.toInt.toNat)] _
          rw [← hz9]
          refine pj_X_of (fun r h => pj_R_to (G, 44, [(0, .ref 7), (1, .int v1), (2, .int v2), (3, .int v3)], [.ref 7, .int z9], 0, 0) 44 2 (fun _ => rfl) h) ?_
          refine pj_X_of (fun r h => pj_T_gr hI rfl rfl rfl h) ?_
          refine pj_X_of (fun r h => pj_R_to (G, 48, [(0, .ref 7), (1, .int v1), (2, .int v2), (3, .int v3)], [.int v1, .ref 10, .int z9], 0, 0) 48 2 (fun _ => rfl) h) ?_
          refine pj_X_of (fun r h => pj_T_il hI rfl rfl (by omega) (by omega) h) ?_
          show pj_X _ _ G 49 [(0, .ref 7), (1, .int v1), (2, .int v2), (3, .int v3)] [.int (pj_ai G 10 v1.toInt.toNat), .int z9] _
          rw [← hz10]
          cases b15 : pj_c1 .ne z9 z10 with
          | true =>
            have ub15 := pj_u_neT b15
            refine pj_X_of (fun r h => pj_R_icT 60 rfl rfl b15 h) ?_
            refine pj_X_of (fun r h => pj_R_to (G, 63, [(3, .int (v3 + Int32.ofInt 1)), (0, .ref 7), (1, .int v1), (2, .int v2)], [], 0, 0) 63 2 (fun _ => rfl) h) ?_
            obtain ⟨z16, hz16⟩ : ∃ z : Int32, z = v3 + Int32.ofInt 1 := ⟨_, rfl⟩
            rw [← hz16]
            have fz16_0 : z16.toInt = v3.toInt + (Int32.ofInt 1).toInt := by rw [hz16]; exact pj_addI (by have := pj_i32 v3; have := pj_i32 (Int32.ofInt 1); omega) (by have := pj_i32 v3; have := pj_i32 (Int32.ofInt 1); omega)
            refine pj_X_of (fun r h => pj_R_to (G, 14, [(3, .int z16), (0, .ref 7), (1, .int v1), (2, .int v2)], [], 0, 0) 14 2 (fun _ => rfl) h) ?_
            have q17 : (pj_fi G 7 1).toInt = y4.toInt := by rw [show pj_fi G 7 1 = y4 from hy4.symm]
            exact pj_X_sub [(0, .ref 7), (1, .int v1), (2, .int v2), (3, .int z16)] (show List.Nodup [0, 1, 2, 3] by decide) ⟨rfl, rfl, rfl, rfl, trivial⟩ (ih.2 G hI hK v1 v2 z16 ⟨by omega, by omega⟩ ⟨by omega, by omega⟩ ⟨by omega, by omega⟩ (by omega) (by omega) (by omega) (by omega))
          | false =>
            have ub15 := pj_u_neF b15
            refine pj_X_of (fun r h => pj_R_icF rfl b15 h) ?_
            refine pj_X_of (fun r h => pj_R_to (G, 54, [(0, .ref 7), (1, .int v1), (2, .int v2), (3, .int v3)], [.int v1, .int v3], 0, 0) 54 3 (fun _ => rfl) h) ?_
            cases b18 : pj_c1 .ge v3 v1 with
            | true =>
              have ub18 := pj_u_geT b18
              refine pj_X_of (fun r h => pj_R_icT 60 rfl rfl b18 h) ?_
              refine pj_X_of (fun r h => pj_R_to (G, 63, [(3, .int (v3 + Int32.ofInt 1)), (0, .ref 7), (1, .int v1), (2, .int v2)], [], 0, 0) 63 2 (fun _ => rfl) h) ?_
              obtain ⟨z19, hz19⟩ : ∃ z : Int32, z = v3 + Int32.ofInt 1 := ⟨_, rfl⟩
              rw [← hz19]
              have fz19_0 : z19.toInt = v3.toInt + (Int32.ofInt 1).toInt := by rw [hz19]; exact pj_addI (by have := pj_i32 v3; have := pj_i32 (Int32.ofInt 1); omega) (by have := pj_i32 v3; have := pj_i32 (Int32.ofInt 1); omega)
              refine pj_X_of (fun r h => pj_R_to (G, 14, [(3, .int z19), (0, .ref 7), (1, .int v1), (2, .int v2)], [], 0, 0) 14 2 (fun _ => rfl) h) ?_
              have q20 : (pj_fi G 7 1).toInt = y4.toInt := by rw [show pj_fi G 7 1 = y4 from hy4.symm]
              exact pj_X_sub [(0, .ref 7), (1, .int v1), (2, .int v2), (3, .int z19)] (show List.Nodup [0, 1, 2, 3] by decide) ⟨rfl, rfl, rfl, rfl, trivial⟩ (ih.2 G hI hK v1 v2 z19 ⟨by omega, by omega⟩ ⟨by omega, by omega⟩ ⟨by omega, by omega⟩ (by omega) (by omega) (by omega) (by omega))
            | false =>
              have ub18 := pj_u_geF b18
              refine pj_X_of (fun r h => pj_R_icF rfl b18 h) ?_
              refine pj_X_of (fun r h => pj_R_to (G, 60, [(2, .int (v2 + Int32.ofInt 1)), (0, .ref 7), (1, .int v1), (3, .int v3)], [], 0, 0) 60 2 (fun _ => rfl) h) ?_
              obtain ⟨z21, hz21⟩ : ∃ z : Int32, z = v2 + Int32.ofInt 1 := ⟨_, rfl⟩
              rw [← hz21]
              have fz21_0 : z21.toInt = v2.toInt + (Int32.ofInt 1).toInt := by rw [hz21]; exact pj_addI (by have := pj_i32 v2; have := pj_i32 (Int32.ofInt 1); omega) (by have := pj_i32 v2; have := pj_i32 (Int32.ofInt 1); omega)
              refine pj_X_of (fun r h => pj_R_to (G, 63, [(3, .int (v3 + Int32.ofInt 1)), (2, .int z21), (0, .ref 7), (1, .int v1)], [], 0, 0) 63 2 (fun _ => rfl) h) ?_
              obtain ⟨z22, hz22⟩ : ∃ z : Int32, z = v3 + Int32.ofInt 1 := ⟨_, rfl⟩
              rw [← hz22]
              have fz22_0 : z22.toInt = v3.toInt + (Int32.ofInt 1).toInt := by rw [hz22]; exact pj_addI (by have := pj_i32 v3; have := pj_i32 (Int32.ofInt 1); omega) (by have := pj_i32 v3; have := pj_i32 (Int32.ofInt 1); omega)
              refine pj_X_of (fun r h => pj_R_to (G, 14, [(3, .int z22), (2, .int z21), (0, .ref 7), (1, .int v1)], [], 0, 0) 14 2 (fun _ => rfl) h) ?_
              have q23 : (pj_fi G 7 1).toInt = y4.toInt := by rw [show pj_fi G 7 1 = y4 from hy4.symm]
              exact pj_X_sub [(0, .ref 7), (1, .int v1), (2, .int z21), (3, .int z22)] (show List.Nodup [0, 1, 2, 3] by decide) ⟨rfl, rfl, rfl, rfl, trivial⟩ (ih.2 G hI hK v1 z21 z22 ⟨by omega, by omega⟩ ⟨by omega, by omega⟩ ⟨by omega, by omega⟩ (by omega) (by omega) (by omega) (by omega))
theorem ct_42_7 (G0 : pj_G) (hI : pj_Inv G0) : pj_Y 1 42 [.ref 7] G0 (fun v G' => v = none ∧ pj_Inv G' ∧ pj_kpt kc_42_7 G0 G') := by
  have c0_ : (Int32.ofInt 0).toInt = 0 := by decide
  have c1_ : (Int32.ofInt 1).toInt = 1 := by decide
  refine pj_Y_X (M := pj_m42) rfl rfl (Nat.le_of_ble_eq_true rfl) ?_
  have hK : pj_kpt kc_42_7 G0 G0 := pj_kpt_r _ _
  show pj_X _ _ G0 0 [(0, .ref 7)] [] _
  refine pj_X_of (fun r h => pj_R_to (G0, 2, [(1, .int (Int32.ofInt 0)), (0, .ref 7)], [], 0, 0) 2 3 (fun _ => rfl) h) ?_
  exact pj_X_sub [(0, .ref 7), (1, .int (Int32.ofInt 0))] (show List.Nodup [0, 1] by decide) ⟨rfl, rfl, trivial⟩ ((lp_ct_42_7 G0 hI   401).1 G0 hI hK (Int32.ofInt 0) ⟨by omega, by omega⟩ (by omega))
def kc_42_14 : pj_KT := ([], [19, 20], [19, 20])
theorem lp_ct_42_14 (G0 : pj_G) (hI0 : pj_Inv G0) : ∀ mn : Nat, (∀ (G : pj_G) (hI : pj_Inv G) (hK : pj_kpt kc_42_14 G0 G) (v1 : Int32), ((0 : Int) ≤ v1.toInt ∧ v1.toInt ≤ 10) → 30 * (10 - v1.toInt) < (mn : Int) → pj_X 0 pj_m42 G 2 [(0, .ref 14), (1, .int v1)] [] (fun v G' => v = none ∧ pj_Inv G' ∧ pj_kpt kc_42_14 G0 G')) ∧ (∀ (G : pj_G) (hI : pj_Inv G) (hK : pj_kpt kc_42_14 G0 G) (v1 : Int32) (v2 : Int32) (v3 : Int32), ((0 : Int) ≤ v1.toInt ∧ v1.toInt ≤ 9) → ((0 : Int) ≤ v2.toInt ∧ v2.toInt ≤ 10) → ((0 : Int) ≤ v3.toInt ∧ v3.toInt ≤ 10) → (v2.toInt ≤ v3.toInt) → (v1.toInt < v3.toInt → v2.toInt ≤ v3.toInt - 1) → (v1.toInt < (pj_fi G 14 1).toInt) → 30 * (10 - v1.toInt) - 1 - v3.toInt < (mn : Int) → pj_X 0 pj_m42 G 14 [(0, .ref 14), (1, .int v1), (2, .int v2), (3, .int v3)] [] (fun v G' => v = none ∧ pj_Inv G' ∧ pj_kpt kc_42_14 G0 G')) := by
  have c0_ : (Int32.ofInt 0).toInt = 0 := by decide
  have c1_ : (Int32.ofInt 1).toInt = 1 := by decide
  intro mn
  induction mn with
  | zero =>
    refine ⟨?_, ?_⟩
    · intro G hI hK v1 rv1 hm
      exfalso
      omega
    · intro G hI hK v1 v2 v3 rv1 rv2 rv3 x0_ x1_ x2_ hm
      exfalso
      omega
  | succ mn ih =>
    refine ⟨?_, ?_⟩
    · intro G hI hK v1 rv1 hm
      refine pj_X_of (fun r h => pj_R_to (G, 4, [(0, .ref 14), (1, .int v1)], [.ref 14, .int v1], 0, 0) 4 3 (fun _ => rfl) h) ?_
      refine pj_X_of (fun r h => pj_T_gi hI rfl rfl h) ?_
      show pj_X _ _ G 7 [(0, .ref 14), (1, .int v1)] [.int (pj_fi G 14 1), .int v1] _
      obtain ⟨y1, hy1⟩ : ∃ z : Int32, z = pj_fi G 14 1 := ⟨_, rfl⟩
      rw [← hy1]
      have ey1 : (pj_fi G 14 1).toInt = y1.toInt := by rw [hy1]
      have ry1 : (0 : Int) ≤ y1.toInt ∧ y1.toInt ≤ 10 := by rw [hy1]; exact hI.2.1 14 1 (0, 10) rfl
      cases b2 : pj_c1 .ge v1 y1 with
      | true =>
        have ub2 := pj_u_geT b2
        refine pj_X_of (fun r h => pj_R_icT 86 rfl rfl b2 h) ?_
        exact pj_X_rt rfl rfl ⟨rfl, hI, hK⟩
      | false =>
        have ub2 := pj_u_geF b2
        refine pj_X_of (fun r h => pj_R_icF rfl b2 h) ?_
        refine pj_X_of (fun r h => pj_R_to (G, 14, [(3, .int (Int32.ofInt 0)), (2, .int (Int32.ofInt 0)), (0, .ref 14), (1, .int v1)], [], 0, 0) 14 5 (fun _ => rfl) h) ?_
        have q3 : (pj_fi G 14 1).toInt = y1.toInt := by rw [show pj_fi G 14 1 = y1 from hy1.symm]
        exact pj_X_sub [(0, .ref 14), (1, .int v1), (2, .int (Int32.ofInt 0)), (3, .int (Int32.ofInt 0))] (show List.Nodup [0, 1, 2, 3] by decide) ⟨rfl, rfl, rfl, rfl, trivial⟩ (ih.2 G hI hK v1 (Int32.ofInt 0) (Int32.ofInt 0) ⟨by omega, by omega⟩ ⟨by omega, by omega⟩ ⟨by omega, by omega⟩ (by omega) (by omega) (by omega) (by omega))
    · intro G hI hK v1 v2 v3 rv1 rv2 rv3 x0_ x1_ x2_ hm
      refine pj_X_of (fun r h => pj_R_to (G, 16, [(0, .ref 14), (1, .int v1), (2, .int v2), (3, .int v3)], [.ref 14, .int v3], 0, 0) 16 3 (fun _ => rfl) h) ?_
      refine pj_X_of (fun r h => pj_T_gi hI rfl rfl h) ?_
      show pj_X _ _ G 19 [(0, .ref 14), (1, .int v1), (2, .int v2), (3, .int v3)] [.int (pj_fi G 14 1), .int v3] _
      obtain ⟨y4, hy4⟩ : ∃ z : Int32, z = pj_fi G 14 1 := ⟨_, rfl⟩
      rw [← hy4]
      have ey4 : (pj_fi G 14 1).toInt = y4.toInt := by rw [hy4]
      have ry4 : (0 : Int) ≤ y4.toInt ∧ y4.toInt ≤ 10 := by rw [hy4]; exact hI.2.1 14 1 (0, 10) rfl
      cases b5 : pj_c1 .ge v3 y4 with
      | true =>
        have ub5 := pj_u_geT b5
        refine pj_X_of (fun r h => pj_R_icT 66 rfl rfl b5 h) ?_
        refine pj_X_of (fun r h => pj_R_to (G, 67, [(0, .ref 14), (1, .int v1), (2, .int v2), (3, .int v3)], [.ref 14], 0, 0) 67 2 (fun _ => rfl) h) ?_
        refine pj_X_of (fun r h => pj_T_gr hI rfl rfl rfl h) ?_
        refine pj_X_of (fun r h => pj_R_to (G, 72, [(0, .ref 14), (1, .int v1), (2, .int v2), (3, .int v3)], [.int v2, .int v1, .ref 19], 0, 0) 72 3 (fun _ => rfl) h) ?_
        refine pj_X_of (fun r h => pj_T_is hI rfl rfl (by omega) (by omega) h) ?_
        show pj_X _ _ (pj_wa G 19 v1.toInt.toNat v2) 73 [(0, .ref 14), (1, .int v1), (2, .int v2), (3, .int v3)] [] _
        obtain ⟨G6, hG6⟩ : ∃ H, H = pj_wa G 19 v1.toInt.toNat v2 := ⟨_, rfl⟩
        have iG6 : pj_Inv G6 := by rw [hG6]; exact pj_Inv_wa hI rfl (fun q hq => by cases hq; exact ⟨by show (0 : Int) ≤ _; omega, by show _ ≤ (9 : Int); omega, by show _ ≤ (0 : Int) ∨ (0 : Int) ≤ _; omega⟩) (fun n hn => by cases hn)
        have kG6 : pj_kpt kc_42_14 G0 G6 := by rw [hG6]; exact pj_kpt_a hK rfl
        rw [← hG6]
        refine pj_X_of (fun r h => pj_R_to (G6, 74, [(0, .ref 14), (1, .int v1), (2, .int v2), (3, .int v3)], [.ref 14], 0, 0) 74 2 (fun _ => rfl) h) ?_
        refine pj_X_of (fun r h => pj_T_gr iG6 rfl rfl rfl h) ?_
        refine pj_X_of (fun r h => pj_R_to (G6, 79, [(0, .ref 14), (1, .int v1), (2, .int v2), (3, .int v3)], [.int v1, .int v2, .ref 20], 0, 0) 79 3 (fun _ => rfl) h) ?_
        refine pj_X_of (fun r h => pj_T_is iG6 rfl rfl (by omega) (by omega) h) ?_
        show pj_X _ _ (pj_wa G6 20 v2.toInt.toNat v1) 80 [(0, .ref 14), (1, .int v1), (2, .int v2), (3, .int v3)] [] _
        obtain ⟨G7, hG7⟩ : ∃ H, H = pj_wa G6 20 v2.toInt.toNat v1 := ⟨_, rfl⟩
        have iG7 : pj_Inv G7 := by rw [hG7]; exact pj_Inv_wa iG6 rfl (fun q hq => by cases hq; exact ⟨by show (0 : Int) ≤ _; omega, by show _ ≤ (9 : Int); omega, by show _ ≤ (0 : Int) ∨ (0 : Int) ≤ _; omega⟩) (fun n hn => by cases hn)
        have kG7 : pj_kpt kc_42_14 G0 G7 := by rw [hG7]; exact pj_kpt_a kG6 rfl
        rw [← hG7]
        refine pj_X_of (fun r h => pj_R_to (G7, 83, [(1, .int (v1 + Int32.ofInt 1)), (0, .ref 14), (2, .int v2), (3, .int v3)], [], 0, 0) 83 2 (fun _ => rfl) h) ?_
        obtain ⟨z8, hz8⟩ : ∃ z : Int32, z = v1 + Int32.ofInt 1 := ⟨_, rfl⟩
        rw [← hz8]
        have fz8_0 : z8.toInt = v1.toInt + (Int32.ofInt 1).toInt := by rw [hz8]; exact pj_addI (by have := pj_i32 v1; have := pj_i32 (Int32.ofInt 1); omega) (by have := pj_i32 v1; have := pj_i32 (Int32.ofInt 1); omega)
        refine pj_X_of (fun r h => pj_R_to (G7, 2, [(1, .int z8), (0, .ref 14), (2, .int v2), (3, .int v3)], [], 0, 0) 2 2 (fun _ => rfl) h) ?_
        exact pj_X_sub [(0, .ref 14), (1, .int z8)] (show List.Nodup [0, 1] by decide) ⟨rfl, rfl, trivial⟩ (ih.1 G7 iG7 kG7 z8 ⟨by omega, by omega⟩ (by omega))
      | false =>
        have ub5 := pj_u_geF b5
        refine pj_X_of (fun r h => pj_R_icF rfl b5 h) ?_
        refine pj_X_of (fun r h => pj_R_to (G, 23, [(0, .ref 14), (1, .int v1), (2, .int v2), (3, .int v3)], [.ref 14], 0, 0) 23 2 (fun _ => rfl) h) ?_
        refine pj_X_of (fun r h => pj_T_gr hI rfl rfl rfl h) ?_
        refine pj_X_of (fun r h => pj_R_to (G, 27, [(0, .ref 14), (1, .int v1), (2, .int v2), (3, .int v3)], [.int v3, .ref 17], 0, 0) 27 2 (fun _ => rfl) h) ?_
        refine pj_X_of (fun r h => pj_T_il hI rfl rfl (by omega) (by omega) h) ?_
        show pj_X _ _ G 28 [(0, .ref 14), (1, .int v1), (2, .int v2), (3, .int v3)] [.int (pj_ai G 17 v3.toInt.toNat)] _
        obtain ⟨z9, hz9⟩ : ∃ z : Int32, z = pj_ai G 17 v3.toInt.toNat := ⟨_, rfl⟩
        rw [← hz9]
        have ez9 : (pj_ai G 17 v3.toInt.toNat).toInt = z9.toInt := by rw [hz9]
        refine pj_X_of (fun r h => pj_R_to (G, 29, [(0, .ref 14), (1, .int v1), (2, .int v2), (3, .int v3)], [.ref 14, .int z9], 0, 0) 29 2 (fun _ => rfl) h) ?_
        refine pj_X_of (fun r h => pj_T_gr hI rfl rfl rfl h) ?_
        refine pj_X_of (fun r h => pj_R_to (G, 33, [(0, .ref 14), (1, .int v1), (2, .int v2), (3, .int v3)], [.int v1, .ref 17, .int z9], 0, 0) 33 2 (fun _ => rfl) h) ?_
        refine pj_X_of (fun r h => pj_T_il hI rfl rfl (by omega) (by omega) h) ?_
        show pj_X _ _ G 34 [(0, .ref 14), (1, .int v1), (2, .int v2), (3, .int v3)] [.int (pj_ai G 17 v1.toInt.toNat), .int z9] _
        obtain ⟨z10, hz10⟩ : ∃ z : Int32, z = pj_ai G 17 v1.toInt.toNat := ⟨_, rfl⟩
        rw [← hz10]
        have ez10 : (pj_ai G 17 v1.toInt.toNat).toInt = z10.toInt := by rw [hz10]
        have xz10_z9 : v1.toInt = v3.toInt → z10.toInt = z9.toInt := by intro e; rw [hz10, hz9, show v1.toInt.toNat = v3.toInt.toNat by rw [e]]
        cases b11 : pj_c1 .lt z9 z10 with
        | true =>
          have ub11 := pj_u_ltT b11
          refine pj_X_of (fun r h => pj_R_icT 57 rfl rfl b11 h) ?_
          refine pj_X_of (fun r h => pj_R_to (G, 60, [(2, .int (v2 + Int32.ofInt 1)), (0, .ref 14), (1, .int v1), (3, .int v3)], [], 0, 0) 60 2 (fun _ => rfl) h) ?_
          obtain ⟨z12, hz12⟩ : ∃ z : Int32, z = v2 + Int32.ofInt 1 := ⟨_, rfl⟩
          rw [← hz12]
          have fz12_0 : z12.toInt = v2.toInt + (Int32.ofInt 1).toInt := by rw [hz12]; exact pj_addI (by have := pj_i32 v2; have := pj_i32 (Int32.ofInt 1); omega) (by have := pj_i32 v2; have := pj_i32 (Int32.ofInt 1); omega)
          refine pj_X_of (fun r h => pj_R_to (G, 63, [(3, .int (v3 + Int32.ofInt 1)), (2, .int z12), (0, .ref 14), (1, .int v1)], [], 0, 0) 63 2 (fun _ => rfl) h) ?_
          obtain ⟨z13, hz13⟩ : ∃ z : Int32, z = v3 + Int32.ofInt 1 := ⟨_, rfl⟩
          rw [← hz13]
          have fz13_0 : z13.toInt = v3.toInt + (Int32.ofInt 1).toInt := by rw [hz13]; exact pj_addI (by have := pj_i32 v3; have := pj_i32 (Int32.ofInt 1); omega) (by have := pj_i32 v3; have := pj_i32 (Int32.ofInt 1); omega)
          refine pj_X_of (fun r h => pj_R_to (G, 14, [(3, .int z13), (2, .int z12), (0, .ref 14), (1, .int v1)], [], 0, 0) 14 2 (fun _ => rfl) h) ?_
          have q14 : (pj_fi G 14 1).toInt = y4.toInt := by rw [show pj_fi G 14 1 = y4 from hy4.symm]
          exact pj_X_sub [(0, .ref 14), (1, .int v1), (2, .int z12), (3, .int z13)] (show List.Nodup [0, 1, 2, 3] by decide) ⟨rfl, rfl, rfl, rfl, trivial⟩ (ih.2 G hI hK v1 z12 z13 ⟨by omega, by omega⟩ ⟨by omega, by omega⟩ ⟨by omega, by omega⟩ (by omega) (by omega) (by omega) (by omega))
        | false =>
          have ub11 := pj_u_ltF b11
          refine pj_X_of (fun r h => pj_R_icF rfl b11 h) ?_
          refine pj_X_of (fun r h => pj_R_to (G, 38, [(0, .ref 14), (1, .int v1), (2, .int v2), (3, .int v3)], [.ref 14], 0, 0) 38 2 (fun _ => rfl) h) ?_
          refine pj_X_of (fun r h => pj_T_gr hI rfl rfl rfl h) ?_
          refine pj_X_of (fun r h => pj_R_to (G, 42, [(0, .ref 14), (1, .int v1), (2, .int v2), (3, .int v3)], [.int v3, .ref 17], 0, 0) 42 2 (fun _ => rfl) h) ?_
          refine pj_X_of (fun r h => pj_T_il hI rfl rfl (by omega) (by omega) h) ?_
          show pj_X _ _ G 43 [(0, .ref 14), (1, .int v1), (2, .int v2), (3, .int v3)] [.int (pj_ai G 17 v3.toInt.toNat)] _
          rw [← hz9]
          refine pj_X_of (fun r h => pj_R_to (G, 44, [(0, .ref 14), (1, .int v1), (2, .int v2), (3, .int v3)], [.ref 14, .int z9], 0, 0) 44 2 (fun _ => rfl) h) ?_
          refine pj_X_of (fun r h => pj_T_gr hI rfl rfl rfl h) ?_
          refine pj_X_of (fun r h => pj_R_to (G, 48, [(0, .ref 14), (1, .int v1), (2, .int v2), (3, .int v3)], [.int v1, .ref 17, .int z9], 0, 0) 48 2 (fun _ => rfl) h) ?_
          refine pj_X_of (fun r h => pj_T_il hI rfl rfl (by omega) (by omega) h) ?_
          show pj_X _ _ G 49 [(0, .ref 14), (1, .int v1), (2, .int v2), (3, .int v3)] [.int (pj_ai G 17 v1.toInt.toNat), .int z9] _
          rw [← hz10]
          cases b15 : pj_c1 .ne z9 z10 with
          | true =>
            have ub15 := pj_u_neT b15
            refine pj_X_of (fun r h => pj_R_icT 60 rfl rfl b15 h) ?_
            refine pj_X_of (fun r h => pj_R_to (G, 63, [(3, .int (v3 + Int32.ofInt 1)), (0, .ref 14), (1, .int v1), (2, .int v2)], [], 0, 0) 63 2 (fun _ => rfl) h) ?_
            obtain ⟨z16, hz16⟩ : ∃ z : Int32, z = v3 + Int32.ofInt 1 := ⟨_, rfl⟩
            rw [← hz16]
            have fz16_0 : z16.toInt = v3.toInt + (Int32.ofInt 1).toInt := by rw [hz16]; exact pj_addI (by have := pj_i32 v3; have := pj_i32 (Int32.ofInt 1); omega) (by have := pj_i32 v3; have := pj_i32 (Int32.ofInt 1); omega)
            refine pj_X_of (fun r h => pj_R_to (G, 14, [(3, .int z16), (0, .ref 14), (1, .int v1), (2, .int v2)], [], 0, 0) 14 2 (fun _ => rfl) h) ?_
            have q17 : (pj_fi G 14 1).toInt = y4.toInt := by rw [show pj_fi G 14 1 = y4 from hy4.symm]
            exact pj_X_sub [(0, .ref 14), (1, .int v1), (2, .int v2), (3, .int z16)] (show List.Nodup [0, 1, 2, 3] by decide) ⟨rfl, rfl, rfl, rfl, trivial⟩ (ih.2 G hI hK v1 v2 z16 ⟨by omega, by omega⟩ ⟨by omega, by omega⟩ ⟨by omega, by omega⟩ (by omega) (by omega) (by omega) (by omega))
          | false =>
            have ub15 := pj_u_neF b15
            refine pj_X_of (fun r h => pj_R_icF rfl b15 h) ?_
            refine pj_X_of (fun r h => pj_R_to (G, 54, [(0, .ref 14), (1, .int v1), (2, .int v2), (3, .int v3)], [.int v1, .int v3], 0, 0) 54 3 (fun _ => rfl) h) ?_
            cases b18 : pj_c1 .ge v3 v1 with
            | true =>
              have ub18 := pj_u_geT b18
              refine pj_X_of (fun r h => pj_R_icT 60 rfl rfl b18 h) ?_
              refine pj_X_of (fun r h => pj_R_to (G, 63, [(3, .int (v3 + Int32.ofInt 1)), (0, .ref 14), (1, .int v1), (2, .int v2)], [], 0, 0) 63 2 (fun _ => rfl) h) ?_
              obtain ⟨z19, hz19⟩ : ∃ z : Int32, z = v3 + Int32.ofInt 1 := ⟨_, rfl⟩
              rw [← hz19]
              have fz19_0 : z19.toInt = v3.toInt + (Int32.ofInt 1).toInt := by rw [hz19]; exact pj_addI (by have := pj_i32 v3; have := pj_i32 (Int32.ofInt 1); omega) (by have := pj_i32 v3; have := pj_i32 (Int32.ofInt 1); omega)
              refine pj_X_of (fun r h => pj_R_to (G, 14, [(3, .int z19), (0, .ref 14), (1, .int v1), (2, .int v2)], [], 0, 0) 14 2 (fun _ => rfl) h) ?_
              have q20 : (pj_fi G 14 1).toInt = y4.toInt := by rw [show pj_fi G 14 1 = y4 from hy4.symm]
              exact pj_X_sub [(0, .ref 14), (1, .int v1), (2, .int v2), (3, .int z19)] (show List.Nodup [0, 1, 2, 3] by decide) ⟨rfl, rfl, rfl, rfl, trivial⟩ (ih.2 G hI hK v1 v2 z19 ⟨by omega, by omega⟩ ⟨by omega, by omega⟩ ⟨by omega, by omega⟩ (by omega) (by omega) (by omega) (by omega))
            | false =>
              have ub18 := pj_u_geF b18
              refine pj_X_of (fun r h => pj_R_icF rfl b18 h) ?_
              refine pj_X_of (fun r h => pj_R_to (G, 60, [(2, .int (v2 + Int32.ofInt 1)), (0, .ref 14), (1, .int v1), (3, .int v3)], [], 0, 0) 60 2 (fun _ => rfl) h) ?_
              obtain ⟨z21, hz21⟩ : ∃ z : Int32, z = v2 + Int32.ofInt 1 := ⟨_, rfl⟩
              rw [← hz21]
              have fz21_0 : z21.toInt = v2.toInt + (Int32.ofInt 1).toInt := by rw [hz21]; exact pj_addI (by have := pj_i32 v2; have := pj_i32 (Int32.ofInt 1); omega) (by have := pj_i32 v2; have := pj_i32 (Int32.ofInt 1); omega)
              refine pj_X_of (fun r h => pj_R_to (G, 63, [(3, .int (v3 + Int32.ofInt 1)), (2, .int z21), (0, .ref 14), (1, .int v1)], [], 0, 0) 63 2 (fun _ => rfl) h) ?_
              obtain ⟨z22, hz22⟩ : ∃ z : Int32, z = v3 + Int32.ofInt 1 := ⟨_, rfl⟩
              rw [← hz22]
              have fz22_0 : z22.toInt = v3.toInt + (Int32.ofInt 1).toInt := by rw [hz22]; exact pj_addI (by have := pj_i32 v3; have := pj_i32 (Int32.ofInt 1); omega) (by have := pj_i32 v3; have := pj_i32 (Int32.ofInt 1); omega)
              refine pj_X_of (fun r h => pj_R_to (G, 14, [(3, .int z22), (2, .int z21), (0, .ref 14), (1, .int v1)], [], 0, 0) 14 2 (fun _ => rfl) h) ?_
              have q23 : (pj_fi G 14 1).toInt = y4.toInt := by rw [show pj_fi G 14 1 = y4 from hy4.symm]
              exact pj_X_sub [(0, .ref 14), (1, .int v1), (2, .int z21), (3, .int z22)] (show List.Nodup [0, 1, 2, 3] by decide) ⟨rfl, rfl, rfl, rfl, trivial⟩ (ih.2 G hI hK v1 z21 z22 ⟨by omega, by omega⟩ ⟨by omega, by omega⟩ ⟨by omega, by omega⟩ (by omega) (by omega) (by omega) (by omega))
theorem ct_42_14 (G0 : pj_G) (hI : pj_Inv G0) : pj_Y 1 42 [.ref 14] G0 (fun v G' => v = none ∧ pj_Inv G' ∧ pj_kpt kc_42_14 G0 G') := by
  have c0_ : (Int32.ofInt 0).toInt = 0 := by decide
  have c1_ : (Int32.ofInt 1).toInt = 1 := by decide
  refine pj_Y_X (M := pj_m42) rfl rfl (Nat.le_of_ble_eq_true rfl) ?_
  have hK : pj_kpt kc_42_14 G0 G0 := pj_kpt_r _ _
  show pj_X _ _ G0 0 [(0, .ref 14)] [] _
  refine pj_X_of (fun r h => pj_R_to (G0, 2, [(1, .int (Int32.ofInt 0)), (0, .ref 14)], [], 0, 0) 2 3 (fun _ => rfl) h) ?_
  exact pj_X_sub [(0, .ref 14), (1, .int (Int32.ofInt 0))] (show List.Nodup [0, 1] by decide) ⟨rfl, rfl, trivial⟩ ((lp_ct_42_14 G0 hI   401).1 G0 hI hK (Int32.ofInt 0) ⟨by omega, by omega⟩ (by omega))
def kc_90 : pj_KT := ([(6, 0), (6, 1), (21, 0), (21, 5), (21, 7)], [6, 12, 13, 19, 20, 21], [12, 13, 19, 20])
theorem ct_90 (G0 : pj_G) (hI : pj_Inv G0) : pj_Y 2 90 [.ref 6] G0 (fun v G' => v = none ∧ pj_Inv G' ∧ pj_kpt kc_90 G0 G') := by
  have c0_ : (Int32.ofInt 0).toInt = 0 := by decide
  refine pj_Y_X (M := pj_m90) rfl rfl (Nat.le_of_ble_eq_true rfl) ?_
  have hK : pj_kpt kc_90 G0 G0 := pj_kpt_r _ _
  show pj_X _ _ G0 0 [(0, .ref 6)] [] _
  refine pj_X_of (fun r h => pj_R_to (G0, 1, [(0, .ref 6)], [.ref 6], 0, 0) 1 2 (fun _ => rfl) h) ?_
  refine pj_X_gm hI rfl rfl (fun q1 => ?_) (fun q1 => ?_)
  · refine pj_X_of (fun r h => pj_R_to (G0, 7, [(1, .ref 7), (0, .ref 6)], [.ref 6, .ref 6], 0, 0) 7 4 (fun _ => rfl) h) ?_
    refine pj_X_gm hI rfl rfl (fun q2 => ?_) (fun q2 => ?_)
    · refine pj_X_of (fun r h => pj_T_pf hI rfl rfl rfl h) ?_
      show pj_X _ _ (pj_wv G0 6 0 (.ref 7)) 13 [(1, .ref 7), (0, .ref 6)] [] _
      obtain ⟨G3, hG3⟩ : ∃ H, H = pj_wv G0 6 0 (.ref 7) := ⟨_, rfl⟩
      have iG3 : pj_Inv G3 := by rw [hG3]; exact pj_Inv_wv hI (ci := 10) rfl rfl rfl
      have kG3 : pj_kpt kc_90 G0 G3 := by rw [hG3]; exact pj_kpt_v hK rfl
      rw [← hG3]
      refine pj_X_of (fun r h => pj_R_to (G3, 15, [(1, .ref 7), (0, .ref 6)], [.ref 7, .ref 6], 0, 0) 15 3 (fun _ => rfl) h) ?_
      refine pj_X_of (fun r h => pj_T_pf iG3 rfl rfl rfl h) ?_
      show pj_X _ _ (pj_wv G3 6 1 (.ref 7)) 18 [(1, .ref 7), (0, .ref 6)] [] _
      obtain ⟨G4, hG4⟩ : ∃ H, H = pj_wv G3 6 1 (.ref 7) := ⟨_, rfl⟩
      have iG4 : pj_Inv G4 := by rw [hG4]; exact pj_Inv_wv iG3 (ci := 10) rfl rfl rfl
      have kG4 : pj_kpt kc_90 G0 G4 := by rw [hG4]; exact pj_kpt_v kG3 rfl
      rw [← hG4]
      refine pj_X_of (fun r h => pj_R_to (G4, 19, [(1, .ref 7), (0, .ref 6)], [.ref 6], 0, 0) 19 2 (fun _ => rfl) h) ?_
      refine pj_X_gm iG4 rfl rfl (fun q5 => ?_) (fun q5 => ?_)
      · refine pj_X_ca (vs := [.ref 7]) rfl (fun _ => rfl) ⟨Nat.le_of_ble_eq_true rfl, Nat.le_of_ble_eq_true rfl, pj_T_rcv iG4 rfl⟩ ⟨rfl, rfl⟩ (pj_Y_up (by decide) (ct_42_7 G4 iG4)) ?_
        rintro _ G7 ⟨rfl, iG7, jG7⟩
        have kG7 : pj_kpt kc_90 G0 G7 := pj_kpt_t kG4 (pj_kpt_s jG7 rfl)
        show pj_X _ _ G7 25 [(1, .ref 7), (0, .ref 6)] [] _
        refine pj_X_of (fun r h => pj_R_to (G7, 26, [(1, .ref 7), (0, .ref 6)], [.ref 6], 0, 0) 26 2 (fun _ => rfl) h) ?_
        refine pj_X_of (fun r h => pj_T_gr iG7 rfl rfl rfl h) ?_
        refine pj_X_of (fun r h => pj_R_to (G7, 30, [(1, .ref 7), (0, .ref 6)], [.int (Int32.ofInt 0), .ref 21], 0, 0) 30 2 (fun _ => rfl) h) ?_
        refine pj_X_of (fun r h => pj_T_pf iG7 rfl rfl rfl h) ?_
        show pj_X _ _ (pj_wv G7 21 0 (.int (Int32.ofInt 0))) 33 [(1, .ref 7), (0, .ref 6)] [] _
        obtain ⟨G8, hG8⟩ : ∃ H, H = pj_wv G7 21 0 (.int (Int32.ofInt 0)) := ⟨_, rfl⟩
        have iG8 : pj_Inv G8 := by rw [hG8]; exact pj_Inv_wi iG7 (ci := 8) rfl (fun q hq => by cases hq; exact ⟨by show (0 : Int) ≤ _; omega, by show _ ≤ (6 : Int); omega⟩)
        have kG8 : pj_kpt kc_90 G0 G8 := by rw [hG8]; exact pj_kpt_v kG7 rfl
        rw [← hG8]
        refine pj_X_of (fun r h => pj_R_to (G8, 34, [(1, .ref 7), (0, .ref 6)], [.ref 6], 0, 0) 34 2 (fun _ => rfl) h) ?_
        refine pj_X_of (fun r h => pj_T_gr iG8 rfl rfl rfl h) ?_
        refine pj_X_of (fun r h => pj_R_to (G8, 38, [(1, .ref 7), (0, .ref 6)], [.int (Int32.ofInt 0), .ref 21], 0, 0) 38 2 (fun _ => rfl) h) ?_
        refine pj_X_of (fun r h => pj_T_pf iG8 rfl rfl rfl h) ?_
        show pj_X _ _ (pj_wv G8 21 5 (.int (Int32.ofInt 0))) 41 [(1, .ref 7), (0, .ref 6)] [] _
        obtain ⟨G9, hG9⟩ : ∃ H, H = pj_wv G8 21 5 (.int (Int32.ofInt 0)) := ⟨_, rfl⟩
        have iG9 : pj_Inv G9 := by rw [hG9]; exact pj_Inv_wi iG8 (ci := 8) rfl (fun q hq => by cases hq; exact ⟨by show (0 : Int) ≤ _; omega, by show _ ≤ (6 : Int); omega⟩)
        have kG9 : pj_kpt kc_90 G0 G9 := by rw [hG9]; exact pj_kpt_v kG8 rfl
        rw [← hG9]
        refine pj_X_of (fun r h => pj_R_to (G9, 42, [(1, .ref 7), (0, .ref 6)], [.ref 6], 0, 0) 42 2 (fun _ => rfl) h) ?_
        refine pj_X_of (fun r h => pj_T_gr iG9 rfl rfl rfl h) ?_
        refine pj_X_of (fun r h => pj_R_to (G9, 46, [(1, .ref 7), (0, .ref 6)], [.int (Int32.ofInt 0), .ref 21], 0, 0) 46 2 (fun _ => rfl) h) ?_
        refine pj_X_of (fun r h => pj_T_pf iG9 rfl rfl rfl h) ?_
        show pj_X _ _ (pj_wv G9 21 7 (.int (Int32.ofInt 0))) 49 [(1, .ref 7), (0, .ref 6)] [] _
        obtain ⟨G10, hG10⟩ : ∃ H, H = pj_wv G9 21 7 (.int (Int32.ofInt 0)) := ⟨_, rfl⟩
        have iG10 : pj_Inv G10 := by rw [hG10]; exact pj_Inv_wi iG9 (ci := 8) rfl (fun q hq => by cases hq)
        have kG10 : pj_kpt kc_90 G0 G10 := by rw [hG10]; exact pj_kpt_v kG9 rfl
        rw [← hG10]
        exact pj_X_rt rfl rfl ⟨rfl, iG10, kG10⟩
      · refine pj_X_ca (vs := [.ref 14]) rfl (fun _ => rfl) ⟨Nat.le_of_ble_eq_true rfl, Nat.le_of_ble_eq_true rfl, pj_T_rcv iG4 rfl⟩ ⟨rfl, rfl⟩ (pj_Y_up (by decide) (ct_42_14 G4 iG4)) ?_
        rintro _ G12 ⟨rfl, iG12, jG12⟩
        have kG12 : pj_kpt kc_90 G0 G12 := pj_kpt_t kG4 (pj_kpt_s jG12 rfl)
        show pj_X _ _ G12 25 [(1, .ref 7), (0, .ref 6)] [] _
        refine pj_X_of (fun r h => pj_R_to (G12, 26, [(1, .ref 7), (0, .ref 6)], [.ref 6], 0, 0) 26 2 (fun _ => rfl) h) ?_
        refine pj_X_of (fun r h => pj_T_gr iG12 rfl rfl rfl h) ?_
        refine pj_X_of (fun r h => pj_R_to (G12, 30, [(1, .ref 7), (0, .ref 6)], [.int (Int32.ofInt 0), .ref 21], 0, 0) 30 2 (fun _ => rfl) h) ?_
        refine pj_X_of (fun r h => pj_T_pf iG12 rfl rfl rfl h) ?_
        show pj_X _ _ (pj_wv G12 21 0 (.int (Int32.ofInt 0))) 33 [(1, .ref 7), (0, .ref 6)] [] _
        obtain ⟨G13, hG13⟩ : ∃ H, H = pj_wv G12 21 0 (.int (Int32.ofInt 0)) := ⟨_, rfl⟩
        have iG13 : pj_Inv G13 := by rw [hG13]; exact pj_Inv_wi iG12 (ci := 8) rfl (fun q hq => by cases hq; exact ⟨by show (0 : Int) ≤ _; omega, by show _ ≤ (6 : Int); omega⟩)
        have kG13 : pj_kpt kc_90 G0 G13 := by rw [hG13]; exact pj_kpt_v kG12 rfl
        rw [← hG13]
        refine pj_X_of (fun r h => pj_R_to (G13, 34, [(1, .ref 7), (0, .ref 6)], [.ref 6], 0, 0) 34 2 (fun _ => rfl) h) ?_
        refine pj_X_of (fun r h => pj_T_gr iG13 rfl rfl rfl h) ?_
        refine pj_X_of (fun r h => pj_R_to (G13, 38, [(1, .ref 7), (0, .ref 6)], [.int (Int32.ofInt 0), .ref 21], 0, 0) 38 2 (fun _ => rfl) h) ?_
        refine pj_X_of (fun r h => pj_T_pf iG13 rfl rfl rfl h) ?_
        show pj_X _ _ (pj_wv G13 21 5 (.int (Int32.ofInt 0))) 41 [(1, .ref 7), (0, .ref 6)] [] _
        obtain ⟨G14, hG14⟩ : ∃ H, H = pj_wv G13 21 5 (.int (Int32.ofInt 0)) := ⟨_, rfl⟩
        have iG14 : pj_Inv G14 := by rw [hG14]; exact pj_Inv_wi iG13 (ci := 8) rfl (fun q hq => by cases hq; exact ⟨by show (0 : Int) ≤ _; omega, by show _ ≤ (6 : Int); omega⟩)
        have kG14 : pj_kpt kc_90 G0 G14 := by rw [hG14]; exact pj_kpt_v kG13 rfl
        rw [← hG14]
        refine pj_X_of (fun r h => pj_R_to (G14, 42, [(1, .ref 7), (0, .ref 6)], [.ref 6], 0, 0) 42 2 (fun _ => rfl) h) ?_
        refine pj_X_of (fun r h => pj_T_gr iG14 rfl rfl rfl h) ?_
        refine pj_X_of (fun r h => pj_R_to (G14, 46, [(1, .ref 7), (0, .ref 6)], [.int (Int32.ofInt 0), .ref 21], 0, 0) 46 2 (fun _ => rfl) h) ?_
        refine pj_X_of (fun r h => pj_T_pf iG14 rfl rfl rfl h) ?_
        show pj_X _ _ (pj_wv G14 21 7 (.int (Int32.ofInt 0))) 49 [(1, .ref 7), (0, .ref 6)] [] _
        obtain ⟨G15, hG15⟩ : ∃ H, H = pj_wv G14 21 7 (.int (Int32.ofInt 0)) := ⟨_, rfl⟩
        have iG15 : pj_Inv G15 := by rw [hG15]; exact pj_Inv_wi iG14 (ci := 8) rfl (fun q hq => by cases hq)
        have kG15 : pj_kpt kc_90 G0 G15 := by rw [hG15]; exact pj_kpt_v kG14 rfl
        rw [← hG15]
        exact pj_X_rt rfl rfl ⟨rfl, iG15, kG15⟩
    · refine pj_X_of (fun r h => pj_T_pf hI rfl rfl rfl h) ?_
      show pj_X _ _ (pj_wv G0 6 0 (.ref 14)) 13 [(1, .ref 7), (0, .ref 6)] [] _
      obtain ⟨G16, hG16⟩ : ∃ H, H = pj_wv G0 6 0 (.ref 14) := ⟨_, rfl⟩
      have iG16 : pj_Inv G16 := by rw [hG16]; exact pj_Inv_wv hI (ci := 10) rfl rfl rfl
      have kG16 : pj_kpt kc_90 G0 G16 := by rw [hG16]; exact pj_kpt_v hK rfl
      rw [← hG16]
      refine pj_X_of (fun r h => pj_R_to (G16, 15, [(1, .ref 7), (0, .ref 6)], [.ref 7, .ref 6], 0, 0) 15 3 (fun _ => rfl) h) ?_
      refine pj_X_of (fun r h => pj_T_pf iG16 rfl rfl rfl h) ?_
      show pj_X _ _ (pj_wv G16 6 1 (.ref 7)) 18 [(1, .ref 7), (0, .ref 6)] [] _
      obtain ⟨G17, hG17⟩ : ∃ H, H = pj_wv G16 6 1 (.ref 7) := ⟨_, rfl⟩
      have iG17 : pj_Inv G17 := by rw [hG17]; exact pj_Inv_wv iG16 (ci := 10) rfl rfl rfl
      have kG17 : pj_kpt kc_90 G0 G17 := by rw [hG17]; exact pj_kpt_v kG16 rfl
      rw [← hG17]
      refine pj_X_of (fun r h => pj_R_to (G17, 19, [(1, .ref 7), (0, .ref 6)], [.ref 6], 0, 0) 19 2 (fun _ => rfl) h) ?_
      refine pj_X_gm iG17 rfl rfl (fun q18 => ?_) (fun q18 => ?_)
      · refine pj_X_ca (vs := [.ref 7]) rfl (fun _ => rfl) ⟨Nat.le_of_ble_eq_true rfl, Nat.le_of_ble_eq_true rfl, pj_T_rcv iG17 rfl⟩ ⟨rfl, rfl⟩ (pj_Y_up (by decide) (ct_42_7 G17 iG17)) ?_
        rintro _ G20 ⟨rfl, iG20, jG20⟩
        have kG20 : pj_kpt kc_90 G0 G20 := pj_kpt_t kG17 (pj_kpt_s jG20 rfl)
        show pj_X _ _ G20 25 [(1, .ref 7), (0, .ref 6)] [] _
        refine pj_X_of (fun r h => pj_R_to (G20, 26, [(1, .ref 7), (0, .ref 6)], [.ref 6], 0, 0) 26 2 (fun _ => rfl) h) ?_
        refine pj_X_of (fun r h => pj_T_gr iG20 rfl rfl rfl h) ?_
        refine pj_X_of (fun r h => pj_R_to (G20, 30, [(1, .ref 7), (0, .ref 6)], [.int (Int32.ofInt 0), .ref 21], 0, 0) 30 2 (fun _ => rfl) h) ?_
        refine pj_X_of (fun r h => pj_T_pf iG20 rfl rfl rfl h) ?_
        show pj_X _ _ (pj_wv G20 21 0 (.int (Int32.ofInt 0))) 33 [(1, .ref 7), (0, .ref 6)] [] _
        obtain ⟨G21, hG21⟩ : ∃ H, H = pj_wv G20 21 0 (.int (Int32.ofInt 0)) := ⟨_, rfl⟩
        have iG21 : pj_Inv G21 := by rw [hG21]; exact pj_Inv_wi iG20 (ci := 8) rfl (fun q hq => by cases hq; exact ⟨by show (0 : Int) ≤ _; omega, by show _ ≤ (6 : Int); omega⟩)
        have kG21 : pj_kpt kc_90 G0 G21 := by rw [hG21]; exact pj_kpt_v kG20 rfl
        rw [← hG21]
        refine pj_X_of (fun r h => pj_R_to (G21, 34, [(1, .ref 7), (0, .ref 6)], [.ref 6], 0, 0) 34 2 (fun _ => rfl) h) ?_
        refine pj_X_of (fun r h => pj_T_gr iG21 rfl rfl rfl h) ?_
        refine pj_X_of (fun r h => pj_R_to (G21, 38, [(1, .ref 7), (0, .ref 6)], [.int (Int32.ofInt 0), .ref 21], 0, 0) 38 2 (fun _ => rfl) h) ?_
        refine pj_X_of (fun r h => pj_T_pf iG21 rfl rfl rfl h) ?_
        show pj_X _ _ (pj_wv G21 21 5 (.int (Int32.ofInt 0))) 41 [(1, .ref 7), (0, .ref 6)] [] _
        obtain ⟨G22, hG22⟩ : ∃ H, H = pj_wv G21 21 5 (.int (Int32.ofInt 0)) := ⟨_, rfl⟩
        have iG22 : pj_Inv G22 := by rw [hG22]; exact pj_Inv_wi iG21 (ci := 8) rfl (fun q hq => by cases hq; exact ⟨by show (0 : Int) ≤ _; omega, by show _ ≤ (6 : Int); omega⟩)
        have kG22 : pj_kpt kc_90 G0 G22 := by rw [hG22]; exact pj_kpt_v kG21 rfl
        rw [← hG22]
        refine pj_X_of (fun r h => pj_R_to (G22, 42, [(1, .ref 7), (0, .ref 6)], [.ref 6], 0, 0) 42 2 (fun _ => rfl) h) ?_
        refine pj_X_of (fun r h => pj_T_gr iG22 rfl rfl rfl h) ?_
        refine pj_X_of (fun r h => pj_R_to (G22, 46, [(1, .ref 7), (0, .ref 6)], [.int (Int32.ofInt 0), .ref 21], 0, 0) 46 2 (fun _ => rfl) h) ?_
        refine pj_X_of (fun r h => pj_T_pf iG22 rfl rfl rfl h) ?_
        show pj_X _ _ (pj_wv G22 21 7 (.int (Int32.ofInt 0))) 49 [(1, .ref 7), (0, .ref 6)] [] _
        obtain ⟨G23, hG23⟩ : ∃ H, H = pj_wv G22 21 7 (.int (Int32.ofInt 0)) := ⟨_, rfl⟩
        have iG23 : pj_Inv G23 := by rw [hG23]; exact pj_Inv_wi iG22 (ci := 8) rfl (fun q hq => by cases hq)
        have kG23 : pj_kpt kc_90 G0 G23 := by rw [hG23]; exact pj_kpt_v kG22 rfl
        rw [← hG23]
        exact pj_X_rt rfl rfl ⟨rfl, iG23, kG23⟩
      · refine pj_X_ca (vs := [.ref 14]) rfl (fun _ => rfl) ⟨Nat.le_of_ble_eq_true rfl, Nat.le_of_ble_eq_true rfl, pj_T_rcv iG17 rfl⟩ ⟨rfl, rfl⟩ (pj_Y_up (by decide) (ct_42_14 G17 iG17)) ?_
        rintro _ G25 ⟨rfl, iG25, jG25⟩
        have kG25 : pj_kpt kc_90 G0 G25 := pj_kpt_t kG17 (pj_kpt_s jG25 rfl)
        show pj_X _ _ G25 25 [(1, .ref 7), (0, .ref 6)] [] _
        refine pj_X_of (fun r h => pj_R_to (G25, 26, [(1, .ref 7), (0, .ref 6)], [.ref 6], 0, 0) 26 2 (fun _ => rfl) h) ?_
        refine pj_X_of (fun r h => pj_T_gr iG25 rfl rfl rfl h) ?_
        refine pj_X_of (fun r h => pj_R_to (G25, 30, [(1, .ref 7), (0, .ref 6)], [.int (Int32.ofInt 0), .ref 21], 0, 0) 30 2 (fun _ => rfl) h) ?_
        refine pj_X_of (fun r h => pj_T_pf iG25 rfl rfl rfl h) ?_
        show pj_X _ _ (pj_wv G25 21 0 (.int (Int32.ofInt 0))) 33 [(1, .ref 7), (0, .ref 6)] [] _
        obtain ⟨G26, hG26⟩ : ∃ H, H = pj_wv G25 21 0 (.int (Int32.ofInt 0)) := ⟨_, rfl⟩
        have iG26 : pj_Inv G26 := by rw [hG26]; exact pj_Inv_wi iG25 (ci := 8) rfl (fun q hq => by cases hq; exact ⟨by show (0 : Int) ≤ _; omega, by show _ ≤ (6 : Int); omega⟩)
        have kG26 : pj_kpt kc_90 G0 G26 := by rw [hG26]; exact pj_kpt_v kG25 rfl
        rw [← hG26]
        refine pj_X_of (fun r h => pj_R_to (G26, 34, [(1, .ref 7), (0, .ref 6)], [.ref 6], 0, 0) 34 2 (fun _ => rfl) h) ?_
        refine pj_X_of (fun r h => pj_T_gr iG26 rfl rfl rfl h) ?_
        refine pj_X_of (fun r h => pj_R_to (G26, 38, [(1, .ref 7), (0, .ref 6)], [.int (Int32.ofInt 0), .ref 21], 0, 0) 38 2 (fun _ => rfl) h) ?_
        refine pj_X_of (fun r h => pj_T_pf iG26 rfl rfl rfl h) ?_
        show pj_X _ _ (pj_wv G26 21 5 (.int (Int32.ofInt 0))) 41 [(1, .ref 7), (0, .ref 6)] [] _
        obtain ⟨G27, hG27⟩ : ∃ H, H = pj_wv G26 21 5 (.int (Int32.ofInt 0)) := ⟨_, rfl⟩
        have iG27 : pj_Inv G27 := by rw [hG27]; exact pj_Inv_wi iG26 (ci := 8) rfl (fun q hq => by cases hq; exact ⟨by show (0 : Int) ≤ _; omega, by show _ ≤ (6 : Int); omega⟩)
        have kG27 : pj_kpt kc_90 G0 G27 := by rw [hG27]; exact pj_kpt_v kG26 rfl
        rw [← hG27]
        refine pj_X_of (fun r h => pj_R_to (G27, 42, [(1, .ref 7), (0, .ref 6)], [.ref 6], 0, 0) 42 2 (fun _ => rfl) h) ?_
        refine pj_X_of (fun r h => pj_T_gr iG27 rfl rfl rfl h) ?_
        refine pj_X_of (fun r h => pj_R_to (G27, 46, [(1, .ref 7), (0, .ref 6)], [.int (Int32.ofInt 0), .ref 21], 0, 0) 46 2 (fun _ => rfl) h) ?_
        refine pj_X_of (fun r h => pj_T_pf iG27 rfl rfl rfl h) ?_
        show pj_X _ _ (pj_wv G27 21 7 (.int (Int32.ofInt 0))) 49 [(1, .ref 7), (0, .ref 6)] [] _
        obtain ⟨G28, hG28⟩ : ∃ H, H = pj_wv G27 21 7 (.int (Int32.ofInt 0)) := ⟨_, rfl⟩
        have iG28 : pj_Inv G28 := by rw [hG28]; exact pj_Inv_wi iG27 (ci := 8) rfl (fun q hq => by cases hq)
        have kG28 : pj_kpt kc_90 G0 G28 := by rw [hG28]; exact pj_kpt_v kG27 rfl
        rw [← hG28]
        exact pj_X_rt rfl rfl ⟨rfl, iG28, kG28⟩
  · refine pj_X_of (fun r h => pj_R_to (G0, 7, [(1, .ref 14), (0, .ref 6)], [.ref 6, .ref 6], 0, 0) 7 4 (fun _ => rfl) h) ?_
    refine pj_X_gm hI rfl rfl (fun q29 => ?_) (fun q29 => ?_)
    · refine pj_X_of (fun r h => pj_T_pf hI rfl rfl rfl h) ?_
      show pj_X _ _ (pj_wv G0 6 0 (.ref 7)) 13 [(1, .ref 14), (0, .ref 6)] [] _
      obtain ⟨G30, hG30⟩ : ∃ H, H = pj_wv G0 6 0 (.ref 7) := ⟨_, rfl⟩
      have iG30 : pj_Inv G30 := by rw [hG30]; exact pj_Inv_wv hI (ci := 10) rfl rfl rfl
      have kG30 : pj_kpt kc_90 G0 G30 := by rw [hG30]; exact pj_kpt_v hK rfl
      rw [← hG30]
      refine pj_X_of (fun r h => pj_R_to (G30, 15, [(1, .ref 14), (0, .ref 6)], [.ref 14, .ref 6], 0, 0) 15 3 (fun _ => rfl) h) ?_
      refine pj_X_of (fun r h => pj_T_pf iG30 rfl rfl rfl h) ?_
      show pj_X _ _ (pj_wv G30 6 1 (.ref 14)) 18 [(1, .ref 14), (0, .ref 6)] [] _
      obtain ⟨G31, hG31⟩ : ∃ H, H = pj_wv G30 6 1 (.ref 14) := ⟨_, rfl⟩
      have iG31 : pj_Inv G31 := by rw [hG31]; exact pj_Inv_wv iG30 (ci := 10) rfl rfl rfl
      have kG31 : pj_kpt kc_90 G0 G31 := by rw [hG31]; exact pj_kpt_v kG30 rfl
      rw [← hG31]
      refine pj_X_of (fun r h => pj_R_to (G31, 19, [(1, .ref 14), (0, .ref 6)], [.ref 6], 0, 0) 19 2 (fun _ => rfl) h) ?_
      refine pj_X_gm iG31 rfl rfl (fun q32 => ?_) (fun q32 => ?_)
      · refine pj_X_ca (vs := [.ref 7]) rfl (fun _ => rfl) ⟨Nat.le_of_ble_eq_true rfl, Nat.le_of_ble_eq_true rfl, pj_T_rcv iG31 rfl⟩ ⟨rfl, rfl⟩ (pj_Y_up (by decide) (ct_42_7 G31 iG31)) ?_
        rintro _ G34 ⟨rfl, iG34, jG34⟩
        have kG34 : pj_kpt kc_90 G0 G34 := pj_kpt_t kG31 (pj_kpt_s jG34 rfl)
        show pj_X _ _ G34 25 [(1, .ref 14), (0, .ref 6)] [] _
        refine pj_X_of (fun r h => pj_R_to (G34, 26, [(1, .ref 14), (0, .ref 6)], [.ref 6], 0, 0) 26 2 (fun _ => rfl) h) ?_
        refine pj_X_of (fun r h => pj_T_gr iG34 rfl rfl rfl h) ?_
        refine pj_X_of (fun r h => pj_R_to (G34, 30, [(1, .ref 14), (0, .ref 6)], [.int (Int32.ofInt 0), .ref 21], 0, 0) 30 2 (fun _ => rfl) h) ?_
        refine pj_X_of (fun r h => pj_T_pf iG34 rfl rfl rfl h) ?_
        show pj_X _ _ (pj_wv G34 21 0 (.int (Int32.ofInt 0))) 33 [(1, .ref 14), (0, .ref 6)] [] _
        obtain ⟨G35, hG35⟩ : ∃ H, H = pj_wv G34 21 0 (.int (Int32.ofInt 0)) := ⟨_, rfl⟩
        have iG35 : pj_Inv G35 := by rw [hG35]; exact pj_Inv_wi iG34 (ci := 8) rfl (fun q hq => by cases hq; exact ⟨by show (0 : Int) ≤ _; omega, by show _ ≤ (6 : Int); omega⟩)
        have kG35 : pj_kpt kc_90 G0 G35 := by rw [hG35]; exact pj_kpt_v kG34 rfl
        rw [← hG35]
        refine pj_X_of (fun r h => pj_R_to (G35, 34, [(1, .ref 14), (0, .ref 6)], [.ref 6], 0, 0) 34 2 (fun _ => rfl) h) ?_
        refine pj_X_of (fun r h => pj_T_gr iG35 rfl rfl rfl h) ?_
        refine pj_X_of (fun r h => pj_R_to (G35, 38, [(1, .ref 14), (0, .ref 6)], [.int (Int32.ofInt 0), .ref 21], 0, 0) 38 2 (fun _ => rfl) h) ?_
        refine pj_X_of (fun r h => pj_T_pf iG35 rfl rfl rfl h) ?_
        show pj_X _ _ (pj_wv G35 21 5 (.int (Int32.ofInt 0))) 41 [(1, .ref 14), (0, .ref 6)] [] _
        obtain ⟨G36, hG36⟩ : ∃ H, H = pj_wv G35 21 5 (.int (Int32.ofInt 0)) := ⟨_, rfl⟩
        have iG36 : pj_Inv G36 := by rw [hG36]; exact pj_Inv_wi iG35 (ci := 8) rfl (fun q hq => by cases hq; exact ⟨by show (0 : Int) ≤ _; omega, by show _ ≤ (6 : Int); omega⟩)
        have kG36 : pj_kpt kc_90 G0 G36 := by rw [hG36]; exact pj_kpt_v kG35 rfl
        rw [← hG36]
        refine pj_X_of (fun r h => pj_R_to (G36, 42, [(1, .ref 14), (0, .ref 6)], [.ref 6], 0, 0) 42 2 (fun _ => rfl) h) ?_
        refine pj_X_of (fun r h => pj_T_gr iG36 rfl rfl rfl h) ?_
        refine pj_X_of (fun r h => pj_R_to (G36, 46, [(1, .ref 14), (0, .ref 6)], [.int (Int32.ofInt 0), .ref 21], 0, 0) 46 2 (fun _ => rfl) h) ?_
        refine pj_X_of (fun r h => pj_T_pf iG36 rfl rfl rfl h) ?_
        show pj_X _ _ (pj_wv G36 21 7 (.int (Int32.ofInt 0))) 49 [(1, .ref 14), (0, .ref 6)] [] _
        obtain ⟨G37, hG37⟩ : ∃ H, H = pj_wv G36 21 7 (.int (Int32.ofInt 0)) := ⟨_, rfl⟩
        have iG37 : pj_Inv G37 := by rw [hG37]; exact pj_Inv_wi iG36 (ci := 8) rfl (fun q hq => by cases hq)
        have kG37 : pj_kpt kc_90 G0 G37 := by rw [hG37]; exact pj_kpt_v kG36 rfl
        rw [← hG37]
        exact pj_X_rt rfl rfl ⟨rfl, iG37, kG37⟩
      · refine pj_X_ca (vs := [.ref 14]) rfl (fun _ => rfl) ⟨Nat.le_of_ble_eq_true rfl, Nat.le_of_ble_eq_true rfl, pj_T_rcv iG31 rfl⟩ ⟨rfl, rfl⟩ (pj_Y_up (by decide) (ct_42_14 G31 iG31)) ?_
        rintro _ G39 ⟨rfl, iG39, jG39⟩
        have kG39 : pj_kpt kc_90 G0 G39 := pj_kpt_t kG31 (pj_kpt_s jG39 rfl)
        show pj_X _ _ G39 25 [(1, .ref 14), (0, .ref 6)] [] _
        refine pj_X_of (fun r h => pj_R_to (G39, 26, [(1, .ref 14), (0, .ref 6)], [.ref 6], 0, 0) 26 2 (fun _ => rfl) h) ?_
        refine pj_X_of (fun r h => pj_T_gr iG39 rfl rfl rfl h) ?_
        refine pj_X_of (fun r h => pj_R_to (G39, 30, [(1, .ref 14), (0, .ref 6)], [.int (Int32.ofInt 0), .ref 21], 0, 0) 30 2 (fun _ => rfl) h) ?_
        refine pj_X_of (fun r h => pj_T_pf iG39 rfl rfl rfl h) ?_
        show pj_X _ _ (pj_wv G39 21 0 (.int (Int32.ofInt 0))) 33 [(1, .ref 14), (0, .ref 6)] [] _
        obtain ⟨G40, hG40⟩ : ∃ H, H = pj_wv G39 21 0 (.int (Int32.ofInt 0)) := ⟨_, rfl⟩
        have iG40 : pj_Inv G40 := by rw [hG40]; exact pj_Inv_wi iG39 (ci := 8) rfl (fun q hq => by cases hq; exact ⟨by show (0 : Int) ≤ _; omega, by show _ ≤ (6 : Int); omega⟩)
        have kG40 : pj_kpt kc_90 G0 G40 := by rw [hG40]; exact pj_kpt_v kG39 rfl
        rw [← hG40]
        refine pj_X_of (fun r h => pj_R_to (G40, 34, [(1, .ref 14), (0, .ref 6)], [.ref 6], 0, 0) 34 2 (fun _ => rfl) h) ?_
        refine pj_X_of (fun r h => pj_T_gr iG40 rfl rfl rfl h) ?_
        refine pj_X_of (fun r h => pj_R_to (G40, 38, [(1, .ref 14), (0, .ref 6)], [.int (Int32.ofInt 0), .ref 21], 0, 0) 38 2 (fun _ => rfl) h) ?_
        refine pj_X_of (fun r h => pj_T_pf iG40 rfl rfl rfl h) ?_
        show pj_X _ _ (pj_wv G40 21 5 (.int (Int32.ofInt 0))) 41 [(1, .ref 14), (0, .ref 6)] [] _
        obtain ⟨G41, hG41⟩ : ∃ H, H = pj_wv G40 21 5 (.int (Int32.ofInt 0)) := ⟨_, rfl⟩
        have iG41 : pj_Inv G41 := by rw [hG41]; exact pj_Inv_wi iG40 (ci := 8) rfl (fun q hq => by cases hq; exact ⟨by show (0 : Int) ≤ _; omega, by show _ ≤ (6 : Int); omega⟩)
        have kG41 : pj_kpt kc_90 G0 G41 := by rw [hG41]; exact pj_kpt_v kG40 rfl
        rw [← hG41]
        refine pj_X_of (fun r h => pj_R_to (G41, 42, [(1, .ref 14), (0, .ref 6)], [.ref 6], 0, 0) 42 2 (fun _ => rfl) h) ?_
        refine pj_X_of (fun r h => pj_T_gr iG41 rfl rfl rfl h) ?_
        refine pj_X_of (fun r h => pj_R_to (G41, 46, [(1, .ref 14), (0, .ref 6)], [.int (Int32.ofInt 0), .ref 21], 0, 0) 46 2 (fun _ => rfl) h) ?_
        refine pj_X_of (fun r h => pj_T_pf iG41 rfl rfl rfl h) ?_
        show pj_X _ _ (pj_wv G41 21 7 (.int (Int32.ofInt 0))) 49 [(1, .ref 14), (0, .ref 6)] [] _
        obtain ⟨G42, hG42⟩ : ∃ H, H = pj_wv G41 21 7 (.int (Int32.ofInt 0)) := ⟨_, rfl⟩
        have iG42 : pj_Inv G42 := by rw [hG42]; exact pj_Inv_wi iG41 (ci := 8) rfl (fun q hq => by cases hq)
        have kG42 : pj_kpt kc_90 G0 G42 := by rw [hG42]; exact pj_kpt_v kG41 rfl
        rw [← hG42]
        exact pj_X_rt rfl rfl ⟨rfl, iG42, kG42⟩
    · refine pj_X_of (fun r h => pj_T_pf hI rfl rfl rfl h) ?_
      show pj_X _ _ (pj_wv G0 6 0 (.ref 14)) 13 [(1, .ref 14), (0, .ref 6)] [] _
      obtain ⟨G43, hG43⟩ : ∃ H, H = pj_wv G0 6 0 (.ref 14) := ⟨_, rfl⟩
      have iG43 : pj_Inv G43 := by rw [hG43]; exact pj_Inv_wv hI (ci := 10) rfl rfl rfl
      have kG43 : pj_kpt kc_90 G0 G43 := by rw [hG43]; exact pj_kpt_v hK rfl
      rw [← hG43]
      refine pj_X_of (fun r h => pj_R_to (G43, 15, [(1, .ref 14), (0, .ref 6)], [.ref 14, .ref 6], 0, 0) 15 3 (fun _ => rfl) h) ?_
      refine pj_X_of (fun r h => pj_T_pf iG43 rfl rfl rfl h) ?_
      show pj_X _ _ (pj_wv G43 6 1 (.ref 14)) 18 [(1, .ref 14), (0, .ref 6)] [] _
      obtain ⟨G44, hG44⟩ : ∃ H, H = pj_wv G43 6 1 (.ref 14) := ⟨_, rfl⟩
      have iG44 : pj_Inv G44 := by rw [hG44]; exact pj_Inv_wv iG43 (ci := 10) rfl rfl rfl
      have kG44 : pj_kpt kc_90 G0 G44 := by rw [hG44]; exact pj_kpt_v kG43 rfl
      rw [← hG44]
      refine pj_X_of (fun r h => pj_R_to (G44, 19, [(1, .ref 14), (0, .ref 6)], [.ref 6], 0, 0) 19 2 (fun _ => rfl) h) ?_
      refine pj_X_gm iG44 rfl rfl (fun q45 => ?_) (fun q45 => ?_)
      · refine pj_X_ca (vs := [.ref 7]) rfl (fun _ => rfl) ⟨Nat.le_of_ble_eq_true rfl, Nat.le_of_ble_eq_true rfl, pj_T_rcv iG44 rfl⟩ ⟨rfl, rfl⟩ (pj_Y_up (by decide) (ct_42_7 G44 iG44)) ?_
        rintro _ G47 ⟨rfl, iG47, jG47⟩
        have kG47 : pj_kpt kc_90 G0 G47 := pj_kpt_t kG44 (pj_kpt_s jG47 rfl)
        show pj_X _ _ G47 25 [(1, .ref 14), (0, .ref 6)] [] _
        refine pj_X_of (fun r h => pj_R_to (G47, 26, [(1, .ref 14), (0, .ref 6)], [.ref 6], 0, 0) 26 2 (fun _ => rfl) h) ?_
        refine pj_X_of (fun r h => pj_T_gr iG47 rfl rfl rfl h) ?_
        refine pj_X_of (fun r h => pj_R_to (G47, 30, [(1, .ref 14), (0, .ref 6)], [.int (Int32.ofInt 0), .ref 21], 0, 0) 30 2 (fun _ => rfl) h) ?_
        refine pj_X_of (fun r h => pj_T_pf iG47 rfl rfl rfl h) ?_
        show pj_X _ _ (pj_wv G47 21 0 (.int (Int32.ofInt 0))) 33 [(1, .ref 14), (0, .ref 6)] [] _
        obtain ⟨G48, hG48⟩ : ∃ H, H = pj_wv G47 21 0 (.int (Int32.ofInt 0)) := ⟨_, rfl⟩
        have iG48 : pj_Inv G48 := by rw [hG48]; exact pj_Inv_wi iG47 (ci := 8) rfl (fun q hq => by cases hq; exact ⟨by show (0 : Int) ≤ _; omega, by show _ ≤ (6 : Int); omega⟩)
        have kG48 : pj_kpt kc_90 G0 G48 := by rw [hG48]; exact pj_kpt_v kG47 rfl
        rw [← hG48]
        refine pj_X_of (fun r h => pj_R_to (G48, 34, [(1, .ref 14), (0, .ref 6)], [.ref 6], 0, 0) 34 2 (fun _ => rfl) h) ?_
        refine pj_X_of (fun r h => pj_T_gr iG48 rfl rfl rfl h) ?_
        refine pj_X_of (fun r h => pj_R_to (G48, 38, [(1, .ref 14), (0, .ref 6)], [.int (Int32.ofInt 0), .ref 21], 0, 0) 38 2 (fun _ => rfl) h) ?_
        refine pj_X_of (fun r h => pj_T_pf iG48 rfl rfl rfl h) ?_
        show pj_X _ _ (pj_wv G48 21 5 (.int (Int32.ofInt 0))) 41 [(1, .ref 14), (0, .ref 6)] [] _
        obtain ⟨G49, hG49⟩ : ∃ H, H = pj_wv G48 21 5 (.int (Int32.ofInt 0)) := ⟨_, rfl⟩
        have iG49 : pj_Inv G49 := by rw [hG49]; exact pj_Inv_wi iG48 (ci := 8) rfl (fun q hq => by cases hq; exact ⟨by show (0 : Int) ≤ _; omega, by show _ ≤ (6 : Int); omega⟩)
        have kG49 : pj_kpt kc_90 G0 G49 := by rw [hG49]; exact pj_kpt_v kG48 rfl
        rw [← hG49]
        refine pj_X_of (fun r h => pj_R_to (G49, 42, [(1, .ref 14), (0, .ref 6)], [.ref 6], 0, 0) 42 2 (fun _ => rfl) h) ?_
        refine pj_X_of (fun r h => pj_T_gr iG49 rfl rfl rfl h) ?_
        refine pj_X_of (fun r h => pj_R_to (G49, 46, [(1, .ref 14), (0, .ref 6)], [.int (Int32.ofInt 0), .ref 21], 0, 0) 46 2 (fun _ => rfl) h) ?_
        refine pj_X_of (fun r h => pj_T_pf iG49 rfl rfl rfl h) ?_
        show pj_X _ _ (pj_wv G49 21 7 (.int (Int32.ofInt 0))) 49 [(1, .ref 14), (0, .ref 6)] [] _
        obtain ⟨G50, hG50⟩ : ∃ H, H = pj_wv G49 21 7 (.int (Int32.ofInt 0)) := ⟨_, rfl⟩
        have iG50 : pj_Inv G50 := by rw [hG50]; exact pj_Inv_wi iG49 (ci := 8) rfl (fun q hq => by cases hq)
        have kG50 : pj_kpt kc_90 G0 G50 := by rw [hG50]; exact pj_kpt_v kG49 rfl
        rw [← hG50]
        exact pj_X_rt rfl rfl ⟨rfl, iG50, kG50⟩
      · refine pj_X_ca (vs := [.ref 14]) rfl (fun _ => rfl) ⟨Nat.le_of_ble_eq_true rfl, Nat.le_of_ble_eq_true rfl, pj_T_rcv iG44 rfl⟩ ⟨rfl, rfl⟩ (pj_Y_up (by decide) (ct_42_14 G44 iG44)) ?_
        rintro _ G52 ⟨rfl, iG52, jG52⟩
        have kG52 : pj_kpt kc_90 G0 G52 := pj_kpt_t kG44 (pj_kpt_s jG52 rfl)
        show pj_X _ _ G52 25 [(1, .ref 14), (0, .ref 6)] [] _
        refine pj_X_of (fun r h => pj_R_to (G52, 26, [(1, .ref 14), (0, .ref 6)], [.ref 6], 0, 0) 26 2 (fun _ => rfl) h) ?_
        refine pj_X_of (fun r h => pj_T_gr iG52 rfl rfl rfl h) ?_
        refine pj_X_of (fun r h => pj_R_to (G52, 30, [(1, .ref 14), (0, .ref 6)], [.int (Int32.ofInt 0), .ref 21], 0, 0) 30 2 (fun _ => rfl) h) ?_
        refine pj_X_of (fun r h => pj_T_pf iG52 rfl rfl rfl h) ?_
        show pj_X _ _ (pj_wv G52 21 0 (.int (Int32.ofInt 0))) 33 [(1, .ref 14), (0, .ref 6)] [] _
        obtain ⟨G53, hG53⟩ : ∃ H, H = pj_wv G52 21 0 (.int (Int32.ofInt 0)) := ⟨_, rfl⟩
        have iG53 : pj_Inv G53 := by rw [hG53]; exact pj_Inv_wi iG52 (ci := 8) rfl (fun q hq => by cases hq; exact ⟨by show (0 : Int) ≤ _; omega, by show _ ≤ (6 : Int); omega⟩)
        have kG53 : pj_kpt kc_90 G0 G53 := by rw [hG53]; exact pj_kpt_v kG52 rfl
        rw [← hG53]
        refine pj_X_of (fun r h => pj_R_to (G53, 34, [(1, .ref 14), (0, .ref 6)], [.ref 6], 0, 0) 34 2 (fun _ => rfl) h) ?_
        refine pj_X_of (fun r h => pj_T_gr iG53 rfl rfl rfl h) ?_
        refine pj_X_of (fun r h => pj_R_to (G53, 38, [(1, .ref 14), (0, .ref 6)], [.int (Int32.ofInt 0), .ref 21], 0, 0) 38 2 (fun _ => rfl) h) ?_
        refine pj_X_of (fun r h => pj_T_pf iG53 rfl rfl rfl h) ?_
        show pj_X _ _ (pj_wv G53 21 5 (.int (Int32.ofInt 0))) 41 [(1, .ref 14), (0, .ref 6)] [] _
        obtain ⟨G54, hG54⟩ : ∃ H, H = pj_wv G53 21 5 (.int (Int32.ofInt 0)) := ⟨_, rfl⟩
        have iG54 : pj_Inv G54 := by rw [hG54]; exact pj_Inv_wi iG53 (ci := 8) rfl (fun q hq => by cases hq; exact ⟨by show (0 : Int) ≤ _; omega, by show _ ≤ (6 : Int); omega⟩)
        have kG54 : pj_kpt kc_90 G0 G54 := by rw [hG54]; exact pj_kpt_v kG53 rfl
        rw [← hG54]
        refine pj_X_of (fun r h => pj_R_to (G54, 42, [(1, .ref 14), (0, .ref 6)], [.ref 6], 0, 0) 42 2 (fun _ => rfl) h) ?_
        refine pj_X_of (fun r h => pj_T_gr iG54 rfl rfl rfl h) ?_
        refine pj_X_of (fun r h => pj_R_to (G54, 46, [(1, .ref 14), (0, .ref 6)], [.int (Int32.ofInt 0), .ref 21], 0, 0) 46 2 (fun _ => rfl) h) ?_
        refine pj_X_of (fun r h => pj_T_pf iG54 rfl rfl rfl h) ?_
        show pj_X _ _ (pj_wv G54 21 7 (.int (Int32.ofInt 0))) 49 [(1, .ref 14), (0, .ref 6)] [] _
        obtain ⟨G55, hG55⟩ : ∃ H, H = pj_wv G54 21 7 (.int (Int32.ofInt 0)) := ⟨_, rfl⟩
        have iG55 : pj_Inv G55 := by rw [hG55]; exact pj_Inv_wi iG54 (ci := 8) rfl (fun q hq => by cases hq)
        have kG55 : pj_kpt kc_90 G0 G55 := by rw [hG55]; exact pj_kpt_v kG54 rfl
        rw [← hG55]
        exact pj_X_rt rfl rfl ⟨rfl, iG55, kG55⟩
def kc_119 : pj_KT := ([(2, 1), (2, 2), (2, 3), (2, 4), (6, 0), (6, 1), (7, 0), (7, 1), (14, 0), (14, 1), (21, 0), (21, 5), (21, 7), (53, 2)], [2, 6, 7, 8, 9, 10, 11, 12, 13, 14, 15, 16, 17, 18, 19, 20, 21, 53, 56], [8, 9, 10, 11, 12, 13, 15, 16, 17, 18, 19, 20, 56])
theorem ct_119 (G0 : pj_G) (hI : pj_Inv G0) : pj_Y 5 119 [.ref 1] G0 (fun v G' => ∃ y : Int32, v = some (.int y) ∧ pj_Inv G' ∧ pj_kpt kc_119 G0 G' ∧ ((-2147483648 : Int) ≤ y.toInt ∧ y.toInt ≤ 2147483647)) := by
  have c0_ : ((Int8.ofInt 72).toInt32).toInt = 72 := by decide
  have c1_ : (Int32.ofInt (-1)).toInt = -1 := by decide
  refine pj_Y_X (M := pj_m119) rfl rfl (Nat.le_of_ble_eq_true rfl) ?_
  have hK : pj_kpt kc_119 G0 G0 := pj_kpt_r _ _
  show pj_X _ _ G0 0 [(0, .ref 1)] [] _
  refine pj_X_of (fun r h => pj_R_to (G0, 1, [(0, .ref 1)], [.ref 1], 0, 0) 1 2 (fun _ => rfl) h) ?_
  refine pj_X_of (fun r h => pj_T_gr hI rfl rfl rfl h) ?_
  refine pj_X_of (fun r h => pj_R_to (G0, 6, [(0, .ref 1)], [.int ((Int8.ofInt 72).toInt32), .ref 2], 0, 0) 6 2 (fun _ => rfl) h) ?_
  refine pj_X_ca (vs := [.ref 2, .int ((Int8.ofInt 72).toInt32)]) rfl (fun _ => rfl) ⟨Nat.le_of_ble_eq_true rfl, Nat.le_of_ble_eq_true rfl, pj_T_rcv hI rfl⟩ ⟨rfl, rfl⟩ (pj_Y_up (by decide) (ct_79 G0 hI ((Int8.ofInt 72).toInt32) ⟨by omega, by omega⟩)) ?_
  rintro _ G2 ⟨rfl, iG2, jG2⟩
  have kG2 : pj_kpt kc_119 G0 G2 := pj_kpt_t hK (pj_kpt_s jG2 rfl)
  show pj_X _ _ G2 9 [(0, .ref 1)] [] _
  refine pj_X_of (fun r h => pj_R_to (G2, 10, [(0, .ref 1)], [.ref 1], 0, 0) 10 2 (fun _ => rfl) h) ?_
  refine pj_X_of (fun r h => pj_T_gr iG2 rfl rfl rfl h) ?_
  refine pj_X_gm iG2 rfl rfl (fun q3 => ?_) (fun q3 => ?_)
  · refine pj_X_of (fun r h => pj_R_to (G2, 17, [(0, .ref 1)], [.ref 1, .ref 7], 0, 0) 17 2 (fun _ => rfl) h) ?_
    refine pj_X_of (fun r h => pj_T_gr iG2 rfl rfl rfl h) ?_
    refine pj_X_ca (vs := [.ref 7, .ref 2]) rfl (fun _ => rfl) ⟨Nat.le_of_ble_eq_true rfl, Nat.le_of_ble_eq_true rfl, pj_T_rcv iG2 rfl⟩ ⟨rfl, rfl⟩ (pj_Y_up (by decide) (ct_41_7 G2 iG2)) ?_
    rintro _ G5 ⟨rfl, iG5, jG5⟩
    have kG5 : pj_kpt kc_119 G0 G5 := pj_kpt_t kG2 (pj_kpt_s jG5 rfl)
    show pj_X _ _ G5 23 [(0, .ref 1)] [] _
    refine pj_X_of (fun r h => pj_R_to (G5, 24, [(0, .ref 1)], [.ref 1], 0, 0) 24 2 (fun _ => rfl) h) ?_
    refine pj_X_of (fun r h => pj_T_gr iG5 rfl rfl rfl h) ?_
    refine pj_X_ca (vs := [.ref 2]) rfl (fun _ => rfl) ⟨Nat.le_of_ble_eq_true rfl, Nat.le_of_ble_eq_true rfl, pj_T_rcv iG5 rfl⟩ ⟨rfl, rfl⟩ (pj_Y_up (by decide) (ct_88 G5 iG5)) ?_
    rintro _ G7 ⟨y6, rfl, iG7, jG7, ry6, ey6⟩
    have kG7 : pj_kpt kc_119 G0 G7 := pj_kpt_t kG5 (pj_kpt_s jG7 rfl)
    show pj_X _ _ G7 30 [(0, .ref 1)] [.int y6] _
    refine pj_X_of (fun r h => pj_R_to (G7, 33, [(1, .int y6), (0, .ref 1)], [.int (Int32.ofInt (-1)), .int y6], 0, 0) 33 4 (fun _ => rfl) h) ?_
    cases b8 : pj_c1 .eq y6 (Int32.ofInt (-1)) with
    | true =>
      have ub8 := pj_u_eqT b8
      refine pj_X_of (fun r h => pj_R_icT 41 rfl rfl b8 h) ?_
      refine pj_X_of (fun r h => pj_R_to (G7, 42, [(1, .int y6), (0, .ref 1)], [.ref 1], 0, 0) 42 2 (fun _ => rfl) h) ?_
      refine pj_X_of (fun r h => pj_T_gr iG7 rfl rfl rfl h) ?_
      refine pj_X_ca (vs := [.ref 6]) rfl (fun _ => rfl) ⟨Nat.le_of_ble_eq_true rfl, Nat.le_of_ble_eq_true rfl, pj_T_rcv iG7 rfl⟩ ⟨rfl, rfl⟩ (pj_Y_up (by decide) (ct_90 G7 iG7)) ?_
      rintro _ G10 ⟨rfl, iG10, jG10⟩
      have kG10 : pj_kpt kc_119 G0 G10 := pj_kpt_t kG7 (pj_kpt_s jG10 rfl)
      show pj_X _ _ G10 48 [(1, .int y6), (0, .ref 1)] [] _
      refine pj_X_of (fun r h => pj_R_to (G10, 49, [(1, .int y6), (0, .ref 1)], [.ref 1], 0, 0) 49 2 (fun _ => rfl) h) ?_
      refine pj_X_of (fun r h => pj_T_gr iG10 rfl rfl rfl h) ?_
      refine pj_X_ca (vs := [.ref 53]) rfl (fun _ => rfl) ⟨Nat.le_of_ble_eq_true rfl, Nat.le_of_ble_eq_true rfl, pj_T_rcv iG10 rfl⟩ ⟨rfl, rfl⟩ (pj_Y_up (by decide) (ct_37 G10 iG10)) ?_
      rintro _ G12 ⟨rfl, iG12, jG12⟩
      have kG12 : pj_kpt kc_119 G0 G12 := pj_kpt_t kG10 (pj_kpt_s jG12 rfl)
      show pj_X _ _ G12 55 [(1, .int y6), (0, .ref 1)] [] _
      refine pj_X_of (fun r h => pj_R_to (G12, 56, [(1, .int y6), (0, .ref 1)], [.ref 1], 0, 0) 56 2 (fun _ => rfl) h) ?_
      refine pj_X_of (fun r h => pj_T_gr iG12 rfl rfl rfl h) ?_
      refine pj_X_gm iG12 rfl rfl (fun q13 => ?_) (fun q13 => ?_)
      · refine pj_X_of (fun r h => pj_T_gi iG12 rfl rfl h) ?_
        show pj_X _ _ G12 65 [(1, .int y6), (0, .ref 1)] [.int (pj_fi G12 7 1)] _
        obtain ⟨y14, hy14⟩ : ∃ z : Int32, z = pj_fi G12 7 1 := ⟨_, rfl⟩
        rw [← hy14]
        have ey14 : (pj_fi G12 7 1).toInt = y14.toInt := by rw [hy14]
        have ry14 : (0 : Int) ≤ y14.toInt ∧ y14.toInt ≤ 10 := by rw [hy14]; exact iG12.2.1 7 1 (0, 10) rfl
        exact pj_X_rt rfl rfl ⟨_, rfl, iG12, kG12, pj_i32 _⟩
      · refine pj_X_of (fun r h => pj_T_gi iG12 rfl rfl h) ?_
        show pj_X _ _ G12 65 [(1, .int y6), (0, .ref 1)] [.int (pj_fi G12 14 1)] _
        obtain ⟨y15, hy15⟩ : ∃ z : Int32, z = pj_fi G12 14 1 := ⟨_, rfl⟩
        rw [← hy15]
        have ey15 : (pj_fi G12 14 1).toInt = y15.toInt := by rw [hy15]
        have ry15 : (0 : Int) ≤ y15.toInt ∧ y15.toInt ≤ 10 := by rw [hy15]; exact iG12.2.1 14 1 (0, 10) rfl
        exact pj_X_rt rfl rfl ⟨_, rfl, iG12, kG12, pj_i32 _⟩
    | false =>
      have ub8 := pj_u_eqF b8
      refine pj_X_of (fun r h => pj_R_icF rfl b8 h) ?_
      refine pj_X_of (fun r h => pj_R_to (G7, 37, [(1, .int y6), (0, .ref 1)], [.int y6], 0, 0) 37 2 (fun _ => rfl) h) ?_
      refine pj_X_ca (vs := [.int y6]) rfl (fun _ => rfl) ⟨Nat.le_of_ble_eq_true rfl, Nat.le_of_ble_eq_true rfl, rfl⟩ ⟨rfl, rfl⟩ (pj_Y_up (by decide) (ct_162 G7 iG7 y6)) ?_
      rintro _ _ ⟨y16, rfl, rfl, ry16⟩
      show pj_X _ _ G7 40 [(1, .int y6), (0, .ref 1)] [.int y16] _
      exact pj_X_rt rfl rfl ⟨_, rfl, iG7, kG7, pj_i32 _⟩
  · refine pj_X_of (fun r h => pj_R_to (G2, 17, [(0, .ref 1)], [.ref 1, .ref 14], 0, 0) 17 2 (fun _ => rfl) h) ?_
    refine pj_X_of (fun r h => pj_T_gr iG2 rfl rfl rfl h) ?_
    refine pj_X_ca (vs := [.ref 14, .ref 2]) rfl (fun _ => rfl) ⟨Nat.le_of_ble_eq_true rfl, Nat.le_of_ble_eq_true rfl, pj_T_rcv iG2 rfl⟩ ⟨rfl, rfl⟩ (pj_Y_up (by decide) (ct_41_14 G2 iG2)) ?_
    rintro _ G18 ⟨rfl, iG18, jG18⟩
    have kG18 : pj_kpt kc_119 G0 G18 := pj_kpt_t kG2 (pj_kpt_s jG18 rfl)
    show pj_X _ _ G18 23 [(0, .ref 1)] [] _
    refine pj_X_of (fun r h => pj_R_to (G18, 24, [(0, .ref 1)], [.ref 1], 0, 0) 24 2 (fun _ => rfl) h) ?_
    refine pj_X_of (fun r h => pj_T_gr iG18 rfl rfl rfl h) ?_
    refine pj_X_ca (vs := [.ref 2]) rfl (fun _ => rfl) ⟨Nat.le_of_ble_eq_true rfl, Nat.le_of_ble_eq_true rfl, pj_T_rcv iG18 rfl⟩ ⟨rfl, rfl⟩ (pj_Y_up (by decide) (ct_88 G18 iG18)) ?_
    rintro _ G20 ⟨y19, rfl, iG20, jG20, ry19, ey19⟩
    have kG20 : pj_kpt kc_119 G0 G20 := pj_kpt_t kG18 (pj_kpt_s jG20 rfl)
    show pj_X _ _ G20 30 [(0, .ref 1)] [.int y19] _
    refine pj_X_of (fun r h => pj_R_to (G20, 33, [(1, .int y19), (0, .ref 1)], [.int (Int32.ofInt (-1)), .int y19], 0, 0) 33 4 (fun _ => rfl) h) ?_
    cases b21 : pj_c1 .eq y19 (Int32.ofInt (-1)) with
    | true =>
      have ub21 := pj_u_eqT b21
      refine pj_X_of (fun r h => pj_R_icT 41 rfl rfl b21 h) ?_
      refine pj_X_of (fun r h => pj_R_to (G20, 42, [(1, .int y19), (0, .ref 1)], [.ref 1], 0, 0) 42 2 (fun _ => rfl) h) ?_
      refine pj_X_of (fun r h => pj_T_gr iG20 rfl rfl rfl h) ?_
      refine pj_X_ca (vs := [.ref 6]) rfl (fun _ => rfl) ⟨Nat.le_of_ble_eq_true rfl, Nat.le_of_ble_eq_true rfl, pj_T_rcv iG20 rfl⟩ ⟨rfl, rfl⟩ (pj_Y_up (by decide) (ct_90 G20 iG20)) ?_
      rintro _ G23 ⟨rfl, iG23, jG23⟩
      have kG23 : pj_kpt kc_119 G0 G23 := pj_kpt_t kG20 (pj_kpt_s jG23 rfl)
      show pj_X _ _ G23 48 [(1, .int y19), (0, .ref 1)] [] _
      refine pj_X_of (fun r h => pj_R_to (G23, 49, [(1, .int y19), (0, .ref 1)], [.ref 1], 0, 0) 49 2 (fun _ => rfl) h) ?_
      refine pj_X_of (fun r h => pj_T_gr iG23 rfl rfl rfl h) ?_
      refine pj_X_ca (vs := [.ref 53]) rfl (fun _ => rfl) ⟨Nat.le_of_ble_eq_true rfl, Nat.le_of_ble_eq_true rfl, pj_T_rcv iG23 rfl⟩ ⟨rfl, rfl⟩ (pj_Y_up (by decide) (ct_37 G23 iG23)) ?_
      rintro _ G25 ⟨rfl, iG25, jG25⟩
      have kG25 : pj_kpt kc_119 G0 G25 := pj_kpt_t kG23 (pj_kpt_s jG25 rfl)
      show pj_X _ _ G25 55 [(1, .int y19), (0, .ref 1)] [] _
      refine pj_X_of (fun r h => pj_R_to (G25, 56, [(1, .int y19), (0, .ref 1)], [.ref 1], 0, 0) 56 2 (fun _ => rfl) h) ?_
      refine pj_X_of (fun r h => pj_T_gr iG25 rfl rfl rfl h) ?_
      refine pj_X_gm iG25 rfl rfl (fun q26 => ?_) (fun q26 => ?_)
      · refine pj_X_of (fun r h => pj_T_gi iG25 rfl rfl h) ?_
        show pj_X _ _ G25 65 [(1, .int y19), (0, .ref 1)] [.int (pj_fi G25 7 1)] _
        obtain ⟨y27, hy27⟩ : ∃ z : Int32, z = pj_fi G25 7 1 := ⟨_, rfl⟩
        rw [← hy27]
        have ey27 : (pj_fi G25 7 1).toInt = y27.toInt := by rw [hy27]
        have ry27 : (0 : Int) ≤ y27.toInt ∧ y27.toInt ≤ 10 := by rw [hy27]; exact iG25.2.1 7 1 (0, 10) rfl
        exact pj_X_rt rfl rfl ⟨_, rfl, iG25, kG25, pj_i32 _⟩
      · refine pj_X_of (fun r h => pj_T_gi iG25 rfl rfl h) ?_
        show pj_X _ _ G25 65 [(1, .int y19), (0, .ref 1)] [.int (pj_fi G25 14 1)] _
        obtain ⟨y28, hy28⟩ : ∃ z : Int32, z = pj_fi G25 14 1 := ⟨_, rfl⟩
        rw [← hy28]
        have ey28 : (pj_fi G25 14 1).toInt = y28.toInt := by rw [hy28]
        have ry28 : (0 : Int) ≤ y28.toInt ∧ y28.toInt ≤ 10 := by rw [hy28]; exact iG25.2.1 14 1 (0, 10) rfl
        exact pj_X_rt rfl rfl ⟨_, rfl, iG25, kG25, pj_i32 _⟩
    | false =>
      have ub21 := pj_u_eqF b21
      refine pj_X_of (fun r h => pj_R_icF rfl b21 h) ?_
      refine pj_X_of (fun r h => pj_R_to (G20, 37, [(1, .int y19), (0, .ref 1)], [.int y19], 0, 0) 37 2 (fun _ => rfl) h) ?_
      refine pj_X_ca (vs := [.int y19]) rfl (fun _ => rfl) ⟨Nat.le_of_ble_eq_true rfl, Nat.le_of_ble_eq_true rfl, rfl⟩ ⟨rfl, rfl⟩ (pj_Y_up (by decide) (ct_162 G20 iG20 y19)) ?_
      rintro _ _ ⟨y29, rfl, rfl, ry29⟩
      show pj_X _ _ G20 40 [(1, .int y19), (0, .ref 1)] [.int y29] _
      exact pj_X_rt rfl rfl ⟨_, rfl, iG20, kG20, pj_i32 _⟩
def kc_120 : pj_KT := ([(2, 1), (2, 2), (2, 3), (2, 4), (21, 0), (53, 2)], [2, 21, 22, 23, 24, 25, 31, 53], [22, 23, 24, 25, 31])
theorem ct_120 (G0 : pj_G) (hI : pj_Inv G0) : pj_Y 5 120 [.ref 1] G0 (fun v G' => ∃ y : Int32, v = some (.int y) ∧ pj_Inv G' ∧ pj_kpt kc_120 G0 G' ∧ ((-2147483648 : Int) ≤ y.toInt ∧ y.toInt ≤ 2147483647)) := by
  have c0_ : ((Int8.ofInt 17).toInt32).toInt = 17 := by decide
  have c1_ : (Int32.ofInt (-1)).toInt = -1 := by decide
  have c2_ : (Int32.ofInt 0).toInt = 0 := by decide
  have c3_ : (Int32.ofInt 1).toInt = 1 := by decide
  refine pj_Y_X (M := pj_m120) rfl rfl (Nat.le_of_ble_eq_true rfl) ?_
  have hK : pj_kpt kc_120 G0 G0 := pj_kpt_r _ _
  show pj_X _ _ G0 0 [(0, .ref 1)] [] _
  obtain ⟨y1, hy1⟩ : ∃ z : Int32, z = pj_fi G0 21 0 := ⟨_, rfl⟩
  have ey1 : (pj_fi G0 21 0).toInt = y1.toInt := by rw [hy1]
  have ry1 : (0 : Int) ≤ y1.toInt ∧ y1.toInt ≤ 6 := by rw [hy1]; exact hI.2.1 21 0 (0, 6) rfl
  obtain ⟨y2, hy2⟩ : ∃ z : Int32, z = pj_fi G0 2 4 := ⟨_, rfl⟩
  have ey2 : (pj_fi G0 2 4).toInt = y2.toInt := by rw [hy2]
  have ry2 : (-1 : Int) ≤ y2.toInt ∧ y2.toInt ≤ 80 := by rw [hy2]; exact hI.2.1 2 4 (-1, 80) rfl
  refine pj_X_of (fun r h => pj_R_to (G0, 1, [(0, .ref 1)], [.ref 1], 0, 0) 1 2 (fun _ => rfl) h) ?_
  refine pj_X_of (fun r h => pj_T_gr hI rfl rfl rfl h) ?_
  refine pj_X_of (fun r h => pj_R_to (G0, 6, [(0, .ref 1)], [.int ((Int8.ofInt 17).toInt32), .ref 2], 0, 0) 6 2 (fun _ => rfl) h) ?_
  have q3 : (pj_fi G0 21 0).toInt = y1.toInt := by rw [show pj_fi G0 21 0 = y1 from hy1.symm]
  have q4 : (pj_fi G0 2 4).toInt = y2.toInt := by rw [show pj_fi G0 2 4 = y2 from hy2.symm]
  refine pj_X_ca (vs := [.ref 2, .int ((Int8.ofInt 17).toInt32)]) rfl (fun _ => rfl) ⟨Nat.le_of_ble_eq_true rfl, Nat.le_of_ble_eq_true rfl, pj_T_rcv hI rfl⟩ ⟨rfl, rfl⟩ (pj_Y_up (by decide) (ct_79 G0 hI ((Int8.ofInt 17).toInt32) ⟨by omega, by omega⟩)) ?_
  rintro _ G6 ⟨rfl, iG6, jG6⟩
  have kG6 : pj_kpt kc_120 G0 G6 := pj_kpt_t hK (pj_kpt_s jG6 rfl)
  have q7 : (pj_fi G6 21 0).toInt = (pj_fi G0 21 0).toInt := by rw [jG6.1 (21, 0) (by decide)]
  obtain ⟨y8, hy8⟩ : ∃ z : Int32, z = pj_fi G6 21 0 := ⟨_, rfl⟩
  have ey8 : (pj_fi G6 21 0).toInt = y8.toInt := by rw [hy8]
  have ry8 : (0 : Int) ≤ y8.toInt ∧ y8.toInt ≤ 6 := by rw [hy8]; exact iG6.2.1 21 0 (0, 6) rfl
  obtain ⟨y9, hy9⟩ : ∃ z : Int32, z = pj_fi G6 2 4 := ⟨_, rfl⟩
  have ey9 : (pj_fi G6 2 4).toInt = y9.toInt := by rw [hy9]
  have ry9 : (-1 : Int) ≤ y9.toInt ∧ y9.toInt ≤ 80 := by rw [hy9]; exact iG6.2.1 2 4 (-1, 80) rfl
  show pj_X _ _ G6 9 [(0, .ref 1)] [] _
  refine pj_X_of (fun r h => pj_R_to (G6, 10, [(0, .ref 1)], [.ref 1], 0, 0) 10 2 (fun _ => rfl) h) ?_
  refine pj_X_of (fun r h => pj_T_gr iG6 rfl rfl rfl h) ?_
  refine pj_X_of (fun r h => pj_R_to (G6, 14, [(0, .ref 1)], [.ref 1, .ref 6], 0, 0) 14 2 (fun _ => rfl) h) ?_
  refine pj_X_of (fun r h => pj_T_gr iG6 rfl rfl rfl h) ?_
  have q10 : (pj_fi G6 21 0).toInt = y8.toInt := by rw [show pj_fi G6 21 0 = y8 from hy8.symm]
  have q11 : (pj_fi G6 2 4).toInt = y9.toInt := by rw [show pj_fi G6 2 4 = y9 from hy9.symm]
  refine pj_X_ca (vs := [.ref 6, .ref 2]) rfl (fun _ => rfl) ⟨Nat.le_of_ble_eq_true rfl, Nat.le_of_ble_eq_true rfl, pj_T_rcv iG6 rfl⟩ ⟨rfl, rfl⟩ (pj_Y_up (by decide) (ct_91 G6 iG6)) ?_
  rintro _ G13 ⟨y12, rfl, iG13, jG13, ry12, ey12⟩
  have kG13 : pj_kpt kc_120 G0 G13 := pj_kpt_t kG6 (pj_kpt_s jG13 rfl)
  have q14 : (pj_fi G13 21 0).toInt = (pj_fi G6 21 0).toInt := by rw [jG13.1 (21, 0) (by decide)]
  obtain ⟨y15, hy15⟩ : ∃ z : Int32, z = pj_fi G13 21 0 := ⟨_, rfl⟩
  have ey15 : (pj_fi G13 21 0).toInt = y15.toInt := by rw [hy15]
  have ry15 : (0 : Int) ≤ y15.toInt ∧ y15.toInt ≤ 6 := by rw [hy15]; exact iG13.2.1 21 0 (0, 6) rfl
  obtain ⟨y16, hy16⟩ : ∃ z : Int32, z = pj_fi G13 2 4 := ⟨_, rfl⟩
  have ey16 : (pj_fi G13 2 4).toInt = y16.toInt := by rw [hy16]
  have ry16 : (-1 : Int) ≤ y16.toInt ∧ y16.toInt ≤ 80 := by rw [hy16]; exact iG13.2.1 2 4 (-1, 80) rfl
  show pj_X _ _ G13 20 [(0, .ref 1)] [.int y12] _
  refine pj_X_of (fun r h => pj_R_to (G13, 22, [(1, .int y12), (0, .ref 1)], [.ref 1], 0, 0) 22 3 (fun _ => rfl) h) ?_
  refine pj_X_of (fun r h => pj_T_gr iG13 rfl rfl rfl h) ?_
  have q17 : (pj_fi G13 21 0).toInt = y15.toInt := by rw [show pj_fi G13 21 0 = y15 from hy15.symm]
  have q18 : (pj_fi G13 2 4).toInt = y16.toInt := by rw [show pj_fi G13 2 4 = y16 from hy16.symm]
  refine pj_X_ca (vs := [.ref 2]) rfl (fun _ => rfl) ⟨Nat.le_of_ble_eq_true rfl, Nat.le_of_ble_eq_true rfl, pj_T_rcv iG13 rfl⟩ ⟨rfl, rfl⟩ (pj_Y_up (by decide) (ct_88 G13 iG13)) ?_
  rintro _ G20 ⟨y19, rfl, iG20, jG20, ry19, ey19⟩
  have kG20 : pj_kpt kc_120 G0 G20 := pj_kpt_t kG13 (pj_kpt_s jG20 rfl)
  have q21 : (pj_fi G20 21 0).toInt = (pj_fi G13 21 0).toInt := by rw [jG20.1 (21, 0) (by decide)]
  obtain ⟨y22, hy22⟩ : ∃ z : Int32, z = pj_fi G20 21 0 := ⟨_, rfl⟩
  have ey22 : (pj_fi G20 21 0).toInt = y22.toInt := by rw [hy22]
  have ry22 : (0 : Int) ≤ y22.toInt ∧ y22.toInt ≤ 6 := by rw [hy22]; exact iG20.2.1 21 0 (0, 6) rfl
  obtain ⟨y23, hy23⟩ : ∃ z : Int32, z = pj_fi G20 2 4 := ⟨_, rfl⟩
  have ey23 : (pj_fi G20 2 4).toInt = y23.toInt := by rw [hy23]
  have ry23 : (-1 : Int) ≤ y23.toInt ∧ y23.toInt ≤ 80 := by rw [hy23]; exact iG20.2.1 2 4 (-1, 80) rfl
  show pj_X _ _ G20 28 [(1, .int y12), (0, .ref 1)] [.int y19] _
  refine pj_X_of (fun r h => pj_R_to (G20, 31, [(2, .int y19), (1, .int y12), (0, .ref 1)], [.int (Int32.ofInt (-1)), .int y19], 0, 0) 31 4 (fun _ => rfl) h) ?_
  cases b24 : pj_c1 .eq y19 (Int32.ofInt (-1)) with
  | true =>
    have ub24 := pj_u_eqT b24
    refine pj_X_of (fun r h => pj_R_icT 39 rfl rfl b24 h) ?_
    refine pj_X_of (fun r h => pj_R_to (G20, 40, [(2, .int y19), (1, .int y12), (0, .ref 1)], [.ref 1], 0, 0) 40 2 (fun _ => rfl) h) ?_
    refine pj_X_of (fun r h => pj_T_gr iG20 rfl rfl rfl h) ?_
    refine pj_X_of (fun r h => pj_T_gr iG20 rfl rfl rfl h) ?_
    refine pj_X_of (fun r h => pj_R_to (G20, 47, [(2, .int y19), (1, .int y12), (0, .ref 1)], [.ref 21, .ref 21], 0, 0) 47 2 (fun _ => rfl) h) ?_
    refine pj_X_of (fun r h => pj_T_gi iG20 rfl rfl h) ?_
    show pj_X _ _ G20 50 [(2, .int y19), (1, .int y12), (0, .ref 1)] [.int (pj_fi G20 21 0), .ref 21] _
    rw [show pj_fi G20 21 0 = y22 from hy22.symm]
    refine pj_X_of (fun r h => pj_R_to (G20, 52, [(2, .int y19), (1, .int y12), (0, .ref 1)], [.int (y22 + y12), .ref 21], 0, 0) 52 3 (fun _ => rfl) h) ?_
    obtain ⟨z25, hz25⟩ : ∃ z : Int32, z = y22 + y12 := ⟨_, rfl⟩
    rw [← hz25]
    have fz25_0 : z25.toInt = y22.toInt + y12.toInt := by rw [hz25]; exact pj_addI (by have := pj_i32 y22; have := pj_i32 y12; omega) (by have := pj_i32 y22; have := pj_i32 y12; omega)
    refine pj_X_of (fun r h => pj_T_pf iG20 rfl rfl rfl h) ?_
    show pj_X _ _ (pj_wv G20 21 0 (.int z25)) 55 [(2, .int y19), (1, .int y12), (0, .ref 1)] [] _
    obtain ⟨G26, hG26⟩ : ∃ H, H = pj_wv G20 21 0 (.int z25) := ⟨_, rfl⟩
    have iG26 : pj_Inv G26 := by rw [hG26]; exact pj_Inv_wi iG20 (ci := 8) rfl (fun q hq => by cases hq; exact ⟨by show (0 : Int) ≤ _; omega, by show _ ≤ (6 : Int); omega⟩)
    have kG26 : pj_kpt kc_120 G0 G26 := by rw [hG26]; exact pj_kpt_v kG20 rfl
    rw [← hG26]
    refine pj_X_of (fun r h => pj_R_to (G26, 57, [(2, .int y19), (1, .int y12), (0, .ref 1)], [.int y12, .ref 1], 0, 0) 57 3 (fun _ => rfl) h) ?_
    cases b27 : pj_c1 .le y12 0 with
    | true =>
      have ub27 := pj_u0_leT b27
      refine pj_X_of (fun r h => pj_R_ifT 64 rfl rfl b27 h) ?_
      refine pj_X_of (fun r h => pj_R_to (G26, 65, [(2, .int y19), (1, .int y12), (0, .ref 1)], [.int (Int32.ofInt 0), .ref 1], 0, 0) 65 2 (fun _ => rfl) h) ?_
      have q28 : (pj_fi G26 21 0).toInt = z25.toInt := by rw [show pj_fi G26 21 0 = z25 from by rw [hG26]; exact pj_fi_wi iG20.1 (ci := 8) rfl _]
      have q29 : (pj_fi G26 2 4).toInt = y23.toInt := by rw [show pj_fi G26 2 4 = y23 from by rw [hG26, pj_fi_wv_ne _ _ _ _ _ _ (by decide)]; exact hy23.symm]
      refine pj_X_ca (vs := [.ref 1, .int (Int32.ofInt 0)]) rfl (fun _ => rfl) ⟨Nat.le_of_ble_eq_true rfl, Nat.le_of_ble_eq_true rfl, pj_T_rcv iG26 rfl⟩ ⟨rfl, rfl⟩ (pj_Y_up (by decide) (ct_161 G26 iG26 (Int32.ofInt 0) ⟨by omega, by omega⟩)) ?_
      rintro _ G31 ⟨rfl, iG31, jG31⟩
      have kG31 : pj_kpt kc_120 G0 G31 := pj_kpt_t kG26 (pj_kpt_s jG31 rfl)
      have q32 : (pj_fi G31 21 0).toInt = (pj_fi G26 21 0).toInt := by rw [jG31.1 (21, 0) (by decide)]
      have q33 : (pj_fi G31 2 4).toInt = (pj_fi G26 2 4).toInt := by rw [jG31.1 (2, 4) (by decide)]
      obtain ⟨y34, hy34⟩ : ∃ z : Int32, z = pj_fi G31 21 0 := ⟨_, rfl⟩
      have ey34 : (pj_fi G31 21 0).toInt = y34.toInt := by rw [hy34]
      have ry34 : (0 : Int) ≤ y34.toInt ∧ y34.toInt ≤ 6 := by rw [hy34]; exact iG31.2.1 21 0 (0, 6) rfl
      obtain ⟨y35, hy35⟩ : ∃ z : Int32, z = pj_fi G31 2 4 := ⟨_, rfl⟩
      have ey35 : (pj_fi G31 2 4).toInt = y35.toInt := by rw [hy35]
      have ry35 : (-1 : Int) ≤ y35.toInt ∧ y35.toInt ≤ 80 := by rw [hy35]; exact iG31.2.1 2 4 (-1, 80) rfl
      show pj_X _ _ G31 68 [(2, .int y19), (1, .int y12), (0, .ref 1)] [] _
      refine pj_X_of (fun r h => pj_R_to (G31, 69, [(2, .int y19), (1, .int y12), (0, .ref 1)], [.int y12], 0, 0) 69 2 (fun _ => rfl) h) ?_
      have q36 : (pj_fi G31 21 0).toInt = y34.toInt := by rw [show pj_fi G31 21 0 = y34 from hy34.symm]
      have q37 : (pj_fi G31 2 4).toInt = y35.toInt := by rw [show pj_fi G31 2 4 = y35 from hy35.symm]
      exact pj_X_rt rfl rfl ⟨_, rfl, iG31, kG31, pj_i32 _⟩
    | false =>
      have ub27 := pj_u0_leF b27
      refine pj_X_of (fun r h => pj_R_ifF rfl b27 h) ?_
      refine pj_X_of (fun r h => pj_R_to (G26, 65, [(2, .int y19), (1, .int y12), (0, .ref 1)], [.int (Int32.ofInt 1), .ref 1], 0, 0) 65 3 (fun _ => rfl) h) ?_
      have q38 : (pj_fi G26 21 0).toInt = z25.toInt := by rw [show pj_fi G26 21 0 = z25 from by rw [hG26]; exact pj_fi_wi iG20.1 (ci := 8) rfl _]
      have q39 : (pj_fi G26 2 4).toInt = y23.toInt := by rw [show pj_fi G26 2 4 = y23 from by rw [hG26, pj_fi_wv_ne _ _ _ _ _ _ (by decide)]; exact hy23.symm]
      refine pj_X_ca (vs := [.ref 1, .int (Int32.ofInt 1)]) rfl (fun _ => rfl) ⟨Nat.le_of_ble_eq_true rfl, Nat.le_of_ble_eq_true rfl, pj_T_rcv iG26 rfl⟩ ⟨rfl, rfl⟩ (pj_Y_up (by decide) (ct_161 G26 iG26 (Int32.ofInt 1) ⟨by omega, by omega⟩)) ?_
      rintro _ G41 ⟨rfl, iG41, jG41⟩
      have kG41 : pj_kpt kc_120 G0 G41 := pj_kpt_t kG26 (pj_kpt_s jG41 rfl)
      have q42 : (pj_fi G41 21 0).toInt = (pj_fi G26 21 0).toInt := by rw [jG41.1 (21, 0) (by decide)]
      have q43 : (pj_fi G41 2 4).toInt = (pj_fi G26 2 4).toInt := by rw [jG41.1 (2, 4) (by decide)]
      obtain ⟨y44, hy44⟩ : ∃ z : Int32, z = pj_fi G41 21 0 := ⟨_, rfl⟩
      have ey44 : (pj_fi G41 21 0).toInt = y44.toInt := by rw [hy44]
      have ry44 : (0 : Int) ≤ y44.toInt ∧ y44.toInt ≤ 6 := by rw [hy44]; exact iG41.2.1 21 0 (0, 6) rfl
      obtain ⟨y45, hy45⟩ : ∃ z : Int32, z = pj_fi G41 2 4 := ⟨_, rfl⟩
      have ey45 : (pj_fi G41 2 4).toInt = y45.toInt := by rw [hy45]
      have ry45 : (-1 : Int) ≤ y45.toInt ∧ y45.toInt ≤ 80 := by rw [hy45]; exact iG41.2.1 2 4 (-1, 80) rfl
      show pj_X _ _ G41 68 [(2, .int y19), (1, .int y12), (0, .ref 1)] [] _
      refine pj_X_of (fun r h => pj_R_to (G41, 69, [(2, .int y19), (1, .int y12), (0, .ref 1)], [.int y12], 0, 0) 69 2 (fun _ => rfl) h) ?_
      have q46 : (pj_fi G41 21 0).toInt = y44.toInt := by rw [show pj_fi G41 21 0 = y44 from hy44.symm]
      have q47 : (pj_fi G41 2 4).toInt = y45.toInt := by rw [show pj_fi G41 2 4 = y45 from hy45.symm]
      exact pj_X_rt rfl rfl ⟨_, rfl, iG41, kG41, pj_i32 _⟩
  | false =>
    have ub24 := pj_u_eqF b24
    refine pj_X_of (fun r h => pj_R_icF rfl b24 h) ?_
    refine pj_X_of (fun r h => pj_R_to (G20, 35, [(2, .int y19), (1, .int y12), (0, .ref 1)], [.int y19], 0, 0) 35 2 (fun _ => rfl) h) ?_
    have q48 : (pj_fi G20 21 0).toInt = y22.toInt := by rw [show pj_fi G20 21 0 = y22 from hy22.symm]
    have q49 : (pj_fi G20 2 4).toInt = y23.toInt := by rw [show pj_fi G20 2 4 = y23 from hy23.symm]
    refine pj_X_ca (vs := [.int y19]) rfl (fun _ => rfl) ⟨Nat.le_of_ble_eq_true rfl, Nat.le_of_ble_eq_true rfl, rfl⟩ ⟨rfl, rfl⟩ (pj_Y_up (by decide) (ct_162 G20 iG20 y19)) ?_
    rintro _ _ ⟨y50, rfl, rfl, ry50⟩
    show pj_X _ _ G20 38 [(2, .int y19), (1, .int y12), (0, .ref 1)] [.int y50] _
    have q51 : (pj_fi G20 21 0).toInt = y22.toInt := by rw [show pj_fi G20 21 0 = y22 from hy22.symm]
    have q52 : (pj_fi G20 2 4).toInt = y23.toInt := by rw [show pj_fi G20 2 4 = y23 from hy23.symm]
    exact pj_X_rt rfl rfl ⟨_, rfl, iG20, kG20, pj_i32 _⟩
def kc_121 : pj_KT := ([(2, 1), (2, 2), (2, 3), (2, 4), (21, 5), (53, 2)], [2, 21, 26, 32, 53], [26, 32])
theorem ct_121 (G0 : pj_G) (hI : pj_Inv G0) : pj_Y 5 121 [.ref 1] G0 (fun v G' => ∃ y : Int32, v = some (.int y) ∧ pj_Inv G' ∧ pj_kpt kc_121 G0 G' ∧ ((-2147483648 : Int) ≤ y.toInt ∧ y.toInt ≤ 2147483647)) := by
  have c0_ : ((Int8.ofInt 17).toInt32).toInt = 17 := by decide
  have c1_ : (Int32.ofInt (-1)).toInt = -1 := by decide
  have c2_ : (Int32.ofInt 0).toInt = 0 := by decide
  have c3_ : (Int32.ofInt 1).toInt = 1 := by decide
  refine pj_Y_X (M := pj_m121) rfl rfl (Nat.le_of_ble_eq_true rfl) ?_
  have hK : pj_kpt kc_121 G0 G0 := pj_kpt_r _ _
  show pj_X _ _ G0 0 [(0, .ref 1)] [] _
  obtain ⟨y1, hy1⟩ : ∃ z : Int32, z = pj_fi G0 21 5 := ⟨_, rfl⟩
  have ey1 : (pj_fi G0 21 5).toInt = y1.toInt := by rw [hy1]
  have ry1 : (0 : Int) ≤ y1.toInt ∧ y1.toInt ≤ 6 := by rw [hy1]; exact hI.2.1 21 5 (0, 6) rfl
  obtain ⟨y2, hy2⟩ : ∃ z : Int32, z = pj_fi G0 2 4 := ⟨_, rfl⟩
  have ey2 : (pj_fi G0 2 4).toInt = y2.toInt := by rw [hy2]
  have ry2 : (-1 : Int) ≤ y2.toInt ∧ y2.toInt ≤ 80 := by rw [hy2]; exact hI.2.1 2 4 (-1, 80) rfl
  refine pj_X_of (fun r h => pj_R_to (G0, 1, [(0, .ref 1)], [.ref 1], 0, 0) 1 2 (fun _ => rfl) h) ?_
  refine pj_X_of (fun r h => pj_T_gr hI rfl rfl rfl h) ?_
  refine pj_X_of (fun r h => pj_R_to (G0, 6, [(0, .ref 1)], [.int ((Int8.ofInt 17).toInt32), .ref 2], 0, 0) 6 2 (fun _ => rfl) h) ?_
  have q3 : (pj_fi G0 21 5).toInt = y1.toInt := by rw [show pj_fi G0 21 5 = y1 from hy1.symm]
  have q4 : (pj_fi G0 2 4).toInt = y2.toInt := by rw [show pj_fi G0 2 4 = y2 from hy2.symm]
  refine pj_X_ca (vs := [.ref 2, .int ((Int8.ofInt 17).toInt32)]) rfl (fun _ => rfl) ⟨Nat.le_of_ble_eq_true rfl, Nat.le_of_ble_eq_true rfl, pj_T_rcv hI rfl⟩ ⟨rfl, rfl⟩ (pj_Y_up (by decide) (ct_79 G0 hI ((Int8.ofInt 17).toInt32) ⟨by omega, by omega⟩)) ?_
  rintro _ G6 ⟨rfl, iG6, jG6⟩
  have kG6 : pj_kpt kc_121 G0 G6 := pj_kpt_t hK (pj_kpt_s jG6 rfl)
  have q7 : (pj_fi G6 21 5).toInt = (pj_fi G0 21 5).toInt := by rw [jG6.1 (21, 5) (by decide)]
  obtain ⟨y8, hy8⟩ : ∃ z : Int32, z = pj_fi G6 21 5 := ⟨_, rfl⟩
  have ey8 : (pj_fi G6 21 5).toInt = y8.toInt := by rw [hy8]
  have ry8 : (0 : Int) ≤ y8.toInt ∧ y8.toInt ≤ 6 := by rw [hy8]; exact iG6.2.1 21 5 (0, 6) rfl
  obtain ⟨y9, hy9⟩ : ∃ z : Int32, z = pj_fi G6 2 4 := ⟨_, rfl⟩
  have ey9 : (pj_fi G6 2 4).toInt = y9.toInt := by rw [hy9]
  have ry9 : (-1 : Int) ≤ y9.toInt ∧ y9.toInt ≤ 80 := by rw [hy9]; exact iG6.2.1 2 4 (-1, 80) rfl
  show pj_X _ _ G6 9 [(0, .ref 1)] [] _
  refine pj_X_of (fun r h => pj_R_to (G6, 10, [(0, .ref 1)], [.ref 1], 0, 0) 10 2 (fun _ => rfl) h) ?_
  refine pj_X_of (fun r h => pj_T_gr iG6 rfl rfl rfl h) ?_
  refine pj_X_of (fun r h => pj_R_to (G6, 14, [(0, .ref 1)], [.ref 1, .ref 6], 0, 0) 14 2 (fun _ => rfl) h) ?_
  refine pj_X_of (fun r h => pj_T_gr iG6 rfl rfl rfl h) ?_
  have q10 : (pj_fi G6 21 5).toInt = y8.toInt := by rw [show pj_fi G6 21 5 = y8 from hy8.symm]
  have q11 : (pj_fi G6 2 4).toInt = y9.toInt := by rw [show pj_fi G6 2 4 = y9 from hy9.symm]
  refine pj_X_ca (vs := [.ref 6, .ref 2]) rfl (fun _ => rfl) ⟨Nat.le_of_ble_eq_true rfl, Nat.le_of_ble_eq_true rfl, pj_T_rcv iG6 rfl⟩ ⟨rfl, rfl⟩ (pj_Y_up (by decide) (ct_92 G6 iG6)) ?_
  rintro _ G13 ⟨y12, rfl, iG13, jG13, ry12, ey12⟩
  have kG13 : pj_kpt kc_121 G0 G13 := pj_kpt_t kG6 (pj_kpt_s jG13 rfl)
  have q14 : (pj_fi G13 21 5).toInt = (pj_fi G6 21 5).toInt := by rw [jG13.1 (21, 5) (by decide)]
  obtain ⟨y15, hy15⟩ : ∃ z : Int32, z = pj_fi G13 21 5 := ⟨_, rfl⟩
  have ey15 : (pj_fi G13 21 5).toInt = y15.toInt := by rw [hy15]
  have ry15 : (0 : Int) ≤ y15.toInt ∧ y15.toInt ≤ 6 := by rw [hy15]; exact iG13.2.1 21 5 (0, 6) rfl
  obtain ⟨y16, hy16⟩ : ∃ z : Int32, z = pj_fi G13 2 4 := ⟨_, rfl⟩
  have ey16 : (pj_fi G13 2 4).toInt = y16.toInt := by rw [hy16]
  have ry16 : (-1 : Int) ≤ y16.toInt ∧ y16.toInt ≤ 80 := by rw [hy16]; exact iG13.2.1 2 4 (-1, 80) rfl
  show pj_X _ _ G13 20 [(0, .ref 1)] [.int y12] _
  refine pj_X_of (fun r h => pj_R_to (G13, 22, [(1, .int y12), (0, .ref 1)], [.ref 1], 0, 0) 22 3 (fun _ => rfl) h) ?_
  refine pj_X_of (fun r h => pj_T_gr iG13 rfl rfl rfl h) ?_
  have q17 : (pj_fi G13 21 5).toInt = y15.toInt := by rw [show pj_fi G13 21 5 = y15 from hy15.symm]
  have q18 : (pj_fi G13 2 4).toInt = y16.toInt := by rw [show pj_fi G13 2 4 = y16 from hy16.symm]
  refine pj_X_ca (vs := [.ref 2]) rfl (fun _ => rfl) ⟨Nat.le_of_ble_eq_true rfl, Nat.le_of_ble_eq_true rfl, pj_T_rcv iG13 rfl⟩ ⟨rfl, rfl⟩ (pj_Y_up (by decide) (ct_88 G13 iG13)) ?_
  rintro _ G20 ⟨y19, rfl, iG20, jG20, ry19, ey19⟩
  have kG20 : pj_kpt kc_121 G0 G20 := pj_kpt_t kG13 (pj_kpt_s jG20 rfl)
  have q21 : (pj_fi G20 21 5).toInt = (pj_fi G13 21 5).toInt := by rw [jG20.1 (21, 5) (by decide)]
  obtain ⟨y22, hy22⟩ : ∃ z : Int32, z = pj_fi G20 21 5 := ⟨_, rfl⟩
  have ey22 : (pj_fi G20 21 5).toInt = y22.toInt := by rw [hy22]
  have ry22 : (0 : Int) ≤ y22.toInt ∧ y22.toInt ≤ 6 := by rw [hy22]; exact iG20.2.1 21 5 (0, 6) rfl
  obtain ⟨y23, hy23⟩ : ∃ z : Int32, z = pj_fi G20 2 4 := ⟨_, rfl⟩
  have ey23 : (pj_fi G20 2 4).toInt = y23.toInt := by rw [hy23]
  have ry23 : (-1 : Int) ≤ y23.toInt ∧ y23.toInt ≤ 80 := by rw [hy23]; exact iG20.2.1 2 4 (-1, 80) rfl
  show pj_X _ _ G20 28 [(1, .int y12), (0, .ref 1)] [.int y19] _
  refine pj_X_of (fun r h => pj_R_to (G20, 31, [(2, .int y19), (1, .int y12), (0, .ref 1)], [.int (Int32.ofInt (-1)), .int y19], 0, 0) 31 4 (fun _ => rfl) h) ?_
  cases b24 : pj_c1 .eq y19 (Int32.ofInt (-1)) with
  | true =>
    have ub24 := pj_u_eqT b24
    refine pj_X_of (fun r h => pj_R_icT 39 rfl rfl b24 h) ?_
    refine pj_X_of (fun r h => pj_R_to (G20, 40, [(2, .int y19), (1, .int y12), (0, .ref 1)], [.ref 1], 0, 0) 40 2 (fun _ => rfl) h) ?_
    refine pj_X_of (fun r h => pj_T_gr iG20 rfl rfl rfl h) ?_
    refine pj_X_of (fun r h => pj_T_gr iG20 rfl rfl rfl h) ?_
    refine pj_X_of (fun r h => pj_R_to (G20, 47, [(2, .int y19), (1, .int y12), (0, .ref 1)], [.ref 21, .ref 21], 0, 0) 47 2 (fun _ => rfl) h) ?_
    refine pj_X_of (fun r h => pj_T_gi iG20 rfl rfl h) ?_
    show pj_X _ _ G20 50 [(2, .int y19), (1, .int y12), (0, .ref 1)] [.int (pj_fi G20 21 5), .ref 21] _
    rw [show pj_fi G20 21 5 = y22 from hy22.symm]
    refine pj_X_of (fun r h => pj_R_to (G20, 52, [(2, .int y19), (1, .int y12), (0, .ref 1)], [.int (y22 + y12), .ref 21], 0, 0) 52 3 (fun _ => rfl) h) ?_
    obtain ⟨z25, hz25⟩ : ∃ z : Int32, z = y22 + y12 := ⟨_, rfl⟩
    rw [← hz25]
    have fz25_0 : z25.toInt = y22.toInt + y12.toInt := by rw [hz25]; exact pj_addI (by have := pj_i32 y22; have := pj_i32 y12; omega) (by have := pj_i32 y22; have := pj_i32 y12; omega)
    refine pj_X_of (fun r h => pj_T_pf iG20 rfl rfl rfl h) ?_
    show pj_X _ _ (pj_wv G20 21 5 (.int z25)) 55 [(2, .int y19), (1, .int y12), (0, .ref 1)] [] _
    obtain ⟨G26, hG26⟩ : ∃ H, H = pj_wv G20 21 5 (.int z25) := ⟨_, rfl⟩
    have iG26 : pj_Inv G26 := by rw [hG26]; exact pj_Inv_wi iG20 (ci := 8) rfl (fun q hq => by cases hq; exact ⟨by show (0 : Int) ≤ _; omega, by show _ ≤ (6 : Int); omega⟩)
    have kG26 : pj_kpt kc_121 G0 G26 := by rw [hG26]; exact pj_kpt_v kG20 rfl
    rw [← hG26]
    refine pj_X_of (fun r h => pj_R_to (G26, 57, [(2, .int y19), (1, .int y12), (0, .ref 1)], [.int y12, .ref 1], 0, 0) 57 3 (fun _ => rfl) h) ?_
    cases b27 : pj_c1 .le y12 0 with
    | true =>
      have ub27 := pj_u0_leT b27
      refine pj_X_of (fun r h => pj_R_ifT 64 rfl rfl b27 h) ?_
      refine pj_X_of (fun r h => pj_R_to (G26, 65, [(2, .int y19), (1, .int y12), (0, .ref 1)], [.int (Int32.ofInt 0), .ref 1], 0, 0) 65 2 (fun _ => rfl) h) ?_
      have q28 : (pj_fi G26 21 5).toInt = z25.toInt := by rw [show pj_fi G26 21 5 = z25 from by rw [hG26]; exact pj_fi_wi iG20.1 (ci := 8) rfl _]
      have q29 : (pj_fi G26 2 4).toInt = y23.toInt := by rw [show pj_fi G26 2 4 = y23 from by rw [hG26, pj_fi_wv_ne _ _ _ _ _ _ (by decide)]; exact hy23.symm]
      refine pj_X_ca (vs := [.ref 1, .int (Int32.ofInt 0)]) rfl (fun _ => rfl) ⟨Nat.le_of_ble_eq_true rfl, Nat.le_of_ble_eq_true rfl, pj_T_rcv iG26 rfl⟩ ⟨rfl, rfl⟩ (pj_Y_up (by decide) (ct_161 G26 iG26 (Int32.ofInt 0) ⟨by omega, by omega⟩)) ?_
      rintro _ G31 ⟨rfl, iG31, jG31⟩
      have kG31 : pj_kpt kc_121 G0 G31 := pj_kpt_t kG26 (pj_kpt_s jG31 rfl)
      have q32 : (pj_fi G31 21 5).toInt = (pj_fi G26 21 5).toInt := by rw [jG31.1 (21, 5) (by decide)]
      have q33 : (pj_fi G31 2 4).toInt = (pj_fi G26 2 4).toInt := by rw [jG31.1 (2, 4) (by decide)]
      obtain ⟨y34, hy34⟩ : ∃ z : Int32, z = pj_fi G31 21 5 := ⟨_, rfl⟩
      have ey34 : (pj_fi G31 21 5).toInt = y34.toInt := by rw [hy34]
      have ry34 : (0 : Int) ≤ y34.toInt ∧ y34.toInt ≤ 6 := by rw [hy34]; exact iG31.2.1 21 5 (0, 6) rfl
      obtain ⟨y35, hy35⟩ : ∃ z : Int32, z = pj_fi G31 2 4 := ⟨_, rfl⟩
      have ey35 : (pj_fi G31 2 4).toInt = y35.toInt := by rw [hy35]
      have ry35 : (-1 : Int) ≤ y35.toInt ∧ y35.toInt ≤ 80 := by rw [hy35]; exact iG31.2.1 2 4 (-1, 80) rfl
      show pj_X _ _ G31 68 [(2, .int y19), (1, .int y12), (0, .ref 1)] [] _
      refine pj_X_of (fun r h => pj_R_to (G31, 69, [(2, .int y19), (1, .int y12), (0, .ref 1)], [.int y12], 0, 0) 69 2 (fun _ => rfl) h) ?_
      have q36 : (pj_fi G31 21 5).toInt = y34.toInt := by rw [show pj_fi G31 21 5 = y34 from hy34.symm]
      have q37 : (pj_fi G31 2 4).toInt = y35.toInt := by rw [show pj_fi G31 2 4 = y35 from hy35.symm]
      exact pj_X_rt rfl rfl ⟨_, rfl, iG31, kG31, pj_i32 _⟩
    | false =>
      have ub27 := pj_u0_leF b27
      refine pj_X_of (fun r h => pj_R_ifF rfl b27 h) ?_
      refine pj_X_of (fun r h => pj_R_to (G26, 65, [(2, .int y19), (1, .int y12), (0, .ref 1)], [.int (Int32.ofInt 1), .ref 1], 0, 0) 65 3 (fun _ => rfl) h) ?_
      have q38 : (pj_fi G26 21 5).toInt = z25.toInt := by rw [show pj_fi G26 21 5 = z25 from by rw [hG26]; exact pj_fi_wi iG20.1 (ci := 8) rfl _]
      have q39 : (pj_fi G26 2 4).toInt = y23.toInt := by rw [show pj_fi G26 2 4 = y23 from by rw [hG26, pj_fi_wv_ne _ _ _ _ _ _ (by decide)]; exact hy23.symm]
      refine pj_X_ca (vs := [.ref 1, .int (Int32.ofInt 1)]) rfl (fun _ => rfl) ⟨Nat.le_of_ble_eq_true rfl, Nat.le_of_ble_eq_true rfl, pj_T_rcv iG26 rfl⟩ ⟨rfl, rfl⟩ (pj_Y_up (by decide) (ct_161 G26 iG26 (Int32.ofInt 1) ⟨by omega, by omega⟩)) ?_
      rintro _ G41 ⟨rfl, iG41, jG41⟩
      have kG41 : pj_kpt kc_121 G0 G41 := pj_kpt_t kG26 (pj_kpt_s jG41 rfl)
      have q42 : (pj_fi G41 21 5).toInt = (pj_fi G26 21 5).toInt := by rw [jG41.1 (21, 5) (by decide)]
      have q43 : (pj_fi G41 2 4).toInt = (pj_fi G26 2 4).toInt := by rw [jG41.1 (2, 4) (by decide)]
      obtain ⟨y44, hy44⟩ : ∃ z : Int32, z = pj_fi G41 21 5 := ⟨_, rfl⟩
      have ey44 : (pj_fi G41 21 5).toInt = y44.toInt := by rw [hy44]
      have ry44 : (0 : Int) ≤ y44.toInt ∧ y44.toInt ≤ 6 := by rw [hy44]; exact iG41.2.1 21 5 (0, 6) rfl
      obtain ⟨y45, hy45⟩ : ∃ z : Int32, z = pj_fi G41 2 4 := ⟨_, rfl⟩
      have ey45 : (pj_fi G41 2 4).toInt = y45.toInt := by rw [hy45]
      have ry45 : (-1 : Int) ≤ y45.toInt ∧ y45.toInt ≤ 80 := by rw [hy45]; exact iG41.2.1 2 4 (-1, 80) rfl
      show pj_X _ _ G41 68 [(2, .int y19), (1, .int y12), (0, .ref 1)] [] _
      refine pj_X_of (fun r h => pj_R_to (G41, 69, [(2, .int y19), (1, .int y12), (0, .ref 1)], [.int y12], 0, 0) 69 2 (fun _ => rfl) h) ?_
      have q46 : (pj_fi G41 21 5).toInt = y44.toInt := by rw [show pj_fi G41 21 5 = y44 from hy44.symm]
      have q47 : (pj_fi G41 2 4).toInt = y45.toInt := by rw [show pj_fi G41 2 4 = y45 from hy45.symm]
      exact pj_X_rt rfl rfl ⟨_, rfl, iG41, kG41, pj_i32 _⟩
  | false =>
    have ub24 := pj_u_eqF b24
    refine pj_X_of (fun r h => pj_R_icF rfl b24 h) ?_
    refine pj_X_of (fun r h => pj_R_to (G20, 35, [(2, .int y19), (1, .int y12), (0, .ref 1)], [.int y19], 0, 0) 35 2 (fun _ => rfl) h) ?_
    have q48 : (pj_fi G20 21 5).toInt = y22.toInt := by rw [show pj_fi G20 21 5 = y22 from hy22.symm]
    have q49 : (pj_fi G20 2 4).toInt = y23.toInt := by rw [show pj_fi G20 2 4 = y23 from hy23.symm]
    refine pj_X_ca (vs := [.int y19]) rfl (fun _ => rfl) ⟨Nat.le_of_ble_eq_true rfl, Nat.le_of_ble_eq_true rfl, rfl⟩ ⟨rfl, rfl⟩ (pj_Y_up (by decide) (ct_162 G20 iG20 y19)) ?_
    rintro _ _ ⟨y50, rfl, rfl, ry50⟩
    show pj_X _ _ G20 38 [(2, .int y19), (1, .int y12), (0, .ref 1)] [.int y50] _
    have q51 : (pj_fi G20 21 5).toInt = y22.toInt := by rw [show pj_fi G20 21 5 = y22 from hy22.symm]
    have q52 : (pj_fi G20 2 4).toInt = y23.toInt := by rw [show pj_fi G20 2 4 = y23 from hy23.symm]
    exact pj_X_rt rfl rfl ⟨_, rfl, iG20, kG20, pj_i32 _⟩
def kc_142 : pj_KT := ([(2, 1), (2, 2), (2, 3), (2, 4), (4, 1), (34, 2)], [2, 4, 5, 34, 35, 36, 37], [35, 36, 37])
theorem ct_142 (G0 : pj_G) (hI : pj_Inv G0) : pj_Y 6 142 [.ref 1] G0 (fun v G' => ∃ y : Int32, v = some (.int y) ∧ pj_Inv G' ∧ pj_kpt kc_142 G0 G' ∧ ((-2147483648 : Int) ≤ y.toInt ∧ y.toInt ≤ 2147483647)) := by
  have c0_ : ((Int8.ofInt 80).toInt32).toInt = 80 := by decide
  have c1_ : (Int32.ofInt (-1)).toInt = -1 := by decide
  refine pj_Y_X (M := pj_m142) rfl rfl (Nat.le_of_ble_eq_true rfl) ?_
  have hK : pj_kpt kc_142 G0 G0 := pj_kpt_r _ _
  show pj_X _ _ G0 0 [(0, .ref 1)] [] _
  refine pj_X_of (fun r h => pj_R_to (G0, 1, [(0, .ref 1)], [.ref 1], 0, 0) 1 2 (fun _ => rfl) h) ?_
  refine pj_X_of (fun r h => pj_T_gr hI rfl rfl rfl h) ?_
  refine pj_X_of (fun r h => pj_R_to (G0, 6, [(0, .ref 1)], [.int ((Int8.ofInt 80).toInt32), .ref 2], 0, 0) 6 2 (fun _ => rfl) h) ?_
  refine pj_X_ca (vs := [.ref 2, .int ((Int8.ofInt 80).toInt32)]) rfl (fun _ => rfl) ⟨Nat.le_of_ble_eq_true rfl, Nat.le_of_ble_eq_true rfl, pj_T_rcv hI rfl⟩ ⟨rfl, rfl⟩ (pj_Y_up (by decide) (ct_79 G0 hI ((Int8.ofInt 80).toInt32) ⟨by omega, by omega⟩)) ?_
  rintro _ G2 ⟨rfl, iG2, jG2⟩
  have kG2 : pj_kpt kc_142 G0 G2 := pj_kpt_t hK (pj_kpt_s jG2 rfl)
  show pj_X _ _ G2 9 [(0, .ref 1)] [] _
  refine pj_X_of (fun r h => pj_R_to (G2, 10, [(0, .ref 1)], [.ref 1], 0, 0) 10 2 (fun _ => rfl) h) ?_
  refine pj_X_of (fun r h => pj_T_gr iG2 rfl rfl rfl h) ?_
  refine pj_X_of (fun r h => pj_R_to (G2, 14, [(0, .ref 1)], [.ref 1, .ref 34], 0, 0) 14 2 (fun _ => rfl) h) ?_
  refine pj_X_of (fun r h => pj_T_gr iG2 rfl rfl rfl h) ?_
  refine pj_X_ca (vs := [.ref 34, .ref 2]) rfl (fun _ => rfl) ⟨Nat.le_of_ble_eq_true rfl, Nat.le_of_ble_eq_true rfl, pj_T_rcv iG2 rfl⟩ ⟨rfl, rfl⟩ (pj_Y_up (by decide) (ct_28 G2 iG2)) ?_
  rintro _ G4 ⟨rfl, iG4, jG4⟩
  have kG4 : pj_kpt kc_142 G0 G4 := pj_kpt_t kG2 (pj_kpt_s jG4 rfl)
  show pj_X _ _ G4 20 [(0, .ref 1)] [] _
  refine pj_X_of (fun r h => pj_R_to (G4, 21, [(0, .ref 1)], [.ref 1], 0, 0) 21 2 (fun _ => rfl) h) ?_
  refine pj_X_of (fun r h => pj_T_gr iG4 rfl rfl rfl h) ?_
  refine pj_X_ca (vs := [.ref 2]) rfl (fun _ => rfl) ⟨Nat.le_of_ble_eq_true rfl, Nat.le_of_ble_eq_true rfl, pj_T_rcv iG4 rfl⟩ ⟨rfl, rfl⟩ (pj_Y_up (by decide) (ct_88 G4 iG4)) ?_
  rintro _ G6 ⟨y5, rfl, iG6, jG6, ry5, ey5⟩
  have kG6 : pj_kpt kc_142 G0 G6 := pj_kpt_t kG4 (pj_kpt_s jG6 rfl)
  show pj_X _ _ G6 27 [(0, .ref 1)] [.int y5] _
  refine pj_X_of (fun r h => pj_R_to (G6, 30, [(1, .int y5), (0, .ref 1)], [.int (Int32.ofInt (-1)), .int y5], 0, 0) 30 4 (fun _ => rfl) h) ?_
  cases b7 : pj_c1 .eq y5 (Int32.ofInt (-1)) with
  | true =>
    have ub7 := pj_u_eqT b7
    refine pj_X_of (fun r h => pj_R_icT 38 rfl rfl b7 h) ?_
    refine pj_X_of (fun r h => pj_R_to (G6, 39, [(1, .int y5), (0, .ref 1)], [.ref 1], 0, 0) 39 2 (fun _ => rfl) h) ?_
    refine pj_X_of (fun r h => pj_T_gr iG6 rfl rfl rfl h) ?_
    refine pj_X_of (fun r h => pj_R_to (G6, 43, [(1, .int y5), (0, .ref 1)], [.ref 1, .ref 34], 0, 0) 43 2 (fun _ => rfl) h) ?_
    refine pj_X_of (fun r h => pj_T_gr iG6 rfl rfl rfl h) ?_
    refine pj_X_ca (vs := [.ref 34, .ref 4]) rfl (fun _ => rfl) ⟨Nat.le_of_ble_eq_true rfl, Nat.le_of_ble_eq_true rfl, pj_T_rcv iG6 rfl⟩ ⟨rfl, rfl⟩ (pj_Y_up (by decide) (ct_30 G6 iG6)) ?_
    rintro _ G9 ⟨y8, rfl, iG9, jG9, ry8⟩
    have kG9 : pj_kpt kc_142 G0 G9 := pj_kpt_t kG6 (pj_kpt_s jG9 rfl)
    show pj_X _ _ G9 49 [(1, .int y5), (0, .ref 1)] [.int y8] _
    exact pj_X_rt rfl rfl ⟨_, rfl, iG9, kG9, pj_i32 _⟩
  | false =>
    have ub7 := pj_u_eqF b7
    refine pj_X_of (fun r h => pj_R_icF rfl b7 h) ?_
    refine pj_X_of (fun r h => pj_R_to (G6, 34, [(1, .int y5), (0, .ref 1)], [.int y5], 0, 0) 34 2 (fun _ => rfl) h) ?_
    refine pj_X_ca (vs := [.int y5]) rfl (fun _ => rfl) ⟨Nat.le_of_ble_eq_true rfl, Nat.le_of_ble_eq_true rfl, rfl⟩ ⟨rfl, rfl⟩ (pj_Y_up (by decide) (ct_162 G6 iG6 y5)) ?_
    rintro _ _ ⟨y10, rfl, rfl, ry10⟩
    show pj_X _ _ G6 37 [(1, .int y5), (0, .ref 1)] [.int y10] _
    exact pj_X_rt rfl rfl ⟨_, rfl, iG6, kG6, pj_i32 _⟩
