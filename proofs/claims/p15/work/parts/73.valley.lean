def kc_104x : pj_KT := ([], [24, 26], [24, 26])
noncomputable def F_104x (G0 : pj_G) (p : Int32) (c : Int32) : Int32 × pj_G := pj_nm (F_96x G0 p) (fun y1 => cond (pj_c1 .eq y1 0) ((Int32.ofInt (-1), G0)) (pj_nm (F_94x G0 c) (fun y3 => cond (pj_c1 .ne y3 0) (cond (pj_rb G0 6 0 7) (pj_nm (pj_ai G0 26 p.toInt.toNat) (fun z6 => pj_nm (F_44_7x G0 c z6) (fun y7 => cond (pj_c1 .ne y7 (Int32.ofInt (-1))) (pj_nm (F_70_21x G0 c) (fun y9 => cond (pj_c1 .eq y9 (Int32.ofInt (-1))) (((Int8.ofInt (-3)).toInt32, G0)) (pj_nm (pj_ai G0 24 y9.toInt.toNat) (fun z11 => pj_nm (pj_ai G0 32 p.toInt.toNat) (fun z12 => cond (pj_c1 .ge z11 z12) (cond (pj_c1 .ne z11 z12) (pj_nm (pj_wa G0 26 p.toInt.toNat y7) (fun G15 => (y7, G15))) (pj_nm (z11 - (Int32.ofInt 1)) (fun z16 => pj_nm (pj_wa G0 24 y9.toInt.toNat z16) (fun G17 => pj_nm (pj_wa G17 26 p.toInt.toNat y7) (fun G18 => (y7, G18)))))) (((Int8.ofInt (-3)).toInt32, G0))))))) (((Int8.ofInt (-2)).toInt32, G0))))) (pj_nm (pj_ai G0 26 p.toInt.toNat) (fun z19 => pj_nm (F_44_14x G0 c z19) (fun y20 => cond (pj_c1 .ne y20 (Int32.ofInt (-1))) (pj_nm (F_70_21x G0 c) (fun y22 => cond (pj_c1 .eq y22 (Int32.ofInt (-1))) (((Int8.ofInt (-3)).toInt32, G0)) (pj_nm (pj_ai G0 24 y22.toInt.toNat) (fun z24 => pj_nm (pj_ai G0 32 p.toInt.toNat) (fun z25 => cond (pj_c1 .ge z24 z25) (cond (pj_c1 .ne z24 z25) (pj_nm (pj_wa G0 26 p.toInt.toNat y20) (fun G28 => (y20, G28))) (pj_nm (z24 - (Int32.ofInt 1)) (fun z29 => pj_nm (pj_wa G0 24 y22.toInt.toNat z29) (fun G30 => pj_nm (pj_wa G30 26 p.toInt.toNat y20) (fun G31 => (y20, G31)))))) (((Int8.ofInt (-3)).toInt32, G0))))))) (((Int8.ofInt (-2)).toInt32, G0)))))) ((Int32.ofInt (-1), G0)))))
theorem F_104x_e (G0 : pj_G) (p : Int32) (c : Int32) : F_104x G0 p c = pj_nm (F_96x G0 p) (fun y1 => cond (pj_c1 .eq y1 0) ((Int32.ofInt (-1), G0)) (pj_nm (F_94x G0 c) (fun y3 => cond (pj_c1 .ne y3 0) (cond (pj_rb G0 6 0 7) (pj_nm (pj_ai G0 26 p.toInt.toNat) (fun z6 => pj_nm (F_44_7x G0 c z6) (fun y7 => cond (pj_c1 .ne y7 (Int32.ofInt (-1))) (pj_nm (F_70_21x G0 c) (fun y9 => cond (pj_c1 .eq y9 (Int32.ofInt (-1))) (((Int8.ofInt (-3)).toInt32, G0)) (pj_nm (pj_ai G0 24 y9.toInt.toNat) (fun z11 => pj_nm (pj_ai G0 32 p.toInt.toNat) (fun z12 => cond (pj_c1 .ge z11 z12) (cond (pj_c1 .ne z11 z12) (pj_nm (pj_wa G0 26 p.toInt.toNat y7) (fun G15 => (y7, G15))) (pj_nm (z11 - (Int32.ofInt 1)) (fun z16 => pj_nm (pj_wa G0 24 y9.toInt.toNat z16) (fun G17 => pj_nm (pj_wa G17 26 p.toInt.toNat y7) (fun G18 => (y7, G18)))))) (((Int8.ofInt (-3)).toInt32, G0))))))) (((Int8.ofInt (-2)).toInt32, G0))))) (pj_nm (pj_ai G0 26 p.toInt.toNat) (fun z19 => pj_nm (F_44_14x G0 c z19) (fun y20 => cond (pj_c1 .ne y20 (Int32.ofInt (-1))) (pj_nm (F_70_21x G0 c) (fun y22 => cond (pj_c1 .eq y22 (Int32.ofInt (-1))) (((Int8.ofInt (-3)).toInt32, G0)) (pj_nm (pj_ai G0 24 y22.toInt.toNat) (fun z24 => pj_nm (pj_ai G0 32 p.toInt.toNat) (fun z25 => cond (pj_c1 .ge z24 z25) (cond (pj_c1 .ne z24 z25) (pj_nm (pj_wa G0 26 p.toInt.toNat y20) (fun G28 => (y20, G28))) (pj_nm (z24 - (Int32.ofInt 1)) (fun z29 => pj_nm (pj_wa G0 24 y22.toInt.toNat z29) (fun G30 => pj_nm (pj_wa G30 26 p.toInt.toNat y20) (fun G31 => (y20, G31)))))) (((Int8.ofInt (-3)).toInt32, G0))))))) (((Int8.ofInt (-2)).toInt32, G0)))))) ((Int32.ofInt (-1), G0))))) := rfl
theorem ct_104x (G0 : pj_G) (hI : pj_Inv G0) (p : Int32) (c : Int32) : pj_Y 3 104 [.ref 6, .int p, .int c] G0 (fun v' G' => ∃ y : Int32, v' = some (.int y) ∧ pj_Inv G' ∧ pj_kpt kc_104x G0 G' ∧ ((-3 : Int) ≤ y.toInt ∧ y.toInt ≤ 7) ∧ ((y, G') = F_104x G0 p c)) := by
  have c0_ : ((Int8.ofInt (-2)).toInt32).toInt = -2 := by decide
  have c1_ : ((Int8.ofInt (-3)).toInt32).toInt = -3 := by decide
  have c2_ : (Int32.ofInt (-1)).toInt = -1 := by decide
  have c3_ : (Int32.ofInt 1).toInt = 1 := by decide
  refine pj_Y_X (M := pj_m104) rfl rfl (Nat.le_of_ble_eq_true rfl) ?_
  have hK : pj_kpt kc_104x G0 G0 := pj_kpt_r _ _
  show pj_X _ _ G0 0 [(0, .ref 6), (1, .int p), (2, .int c)] [] _
  rw [F_104x_e]
  refine pj_X_of (fun r h => pj_R_to (G0, 2, [(0, .ref 6), (1, .int p), (2, .int c)], [.int p, .ref 6], 0, 0) 2 3 (fun _ => rfl) h) ?_
  refine pj_X_ca (vs := [.ref 6, .int p]) rfl (fun _ => rfl) ⟨Nat.le_of_ble_eq_true rfl, Nat.le_of_ble_eq_true rfl, pj_T_rcv hI rfl⟩ ⟨rfl, rfl⟩ (pj_Y_up (by decide) (ct_96x G0 hI p)) ?_
  rintro _ _ ⟨y1, rfl, rfl, ry1, ey1, fy1⟩
  rw [← fy1, pj_nm_e]
  show pj_X _ _ G0 5 [(0, .ref 6), (1, .int p), (2, .int c)] [.int y1] _
  cases b2 : pj_c1 .eq y1 0 with
  | true =>
    rw [pj_cT]
    have ub2 := pj_u0_eqT b2
    refine pj_X_of (fun r h => pj_R_ifT 16 rfl rfl b2 h) ?_
    refine pj_X_of (fun r h => pj_R_to (G0, 17, [(0, .ref 6), (1, .int p), (2, .int c)], [.int (Int32.ofInt (-1))], 0, 0) 17 2 (fun _ => rfl) h) ?_
    exact pj_X_rt rfl rfl ⟨_, rfl, hI, hK, ⟨by omega, by omega⟩, rfl⟩
  | false =>
    rw [pj_cF]
    have ub2 := pj_u0_eqF b2
    refine pj_X_of (fun r h => pj_R_ifF rfl b2 h) ?_
    refine pj_X_of (fun r h => pj_R_to (G0, 10, [(0, .ref 6), (1, .int p), (2, .int c)], [.int c, .ref 6], 0, 0) 10 3 (fun _ => rfl) h) ?_
    refine pj_X_ca (vs := [.ref 6, .int c]) rfl (fun _ => rfl) ⟨Nat.le_of_ble_eq_true rfl, Nat.le_of_ble_eq_true rfl, pj_T_rcv hI rfl⟩ ⟨rfl, rfl⟩ (pj_Y_up (by decide) (ct_94x G0 hI c)) ?_
    rintro _ _ ⟨y3, rfl, rfl, ry3, ey3, fy3⟩
    rw [← fy3, pj_nm_e]
    show pj_X _ _ G0 13 [(0, .ref 6), (1, .int p), (2, .int c)] [.int y3] _
    cases b4 : pj_c1 .ne y3 0 with
    | true =>
      rw [pj_cT]
      have ub4 := pj_u0_neT b4
      refine pj_X_of (fun r h => pj_R_ifT 18 rfl rfl b4 h) ?_
      refine pj_X_of (fun r h => pj_R_to (G0, 19, [(0, .ref 6), (1, .int p), (2, .int c)], [.ref 6], 0, 0) 19 2 (fun _ => rfl) h) ?_
      refine pj_X_gm hI rfl rfl (fun q5 => ?_) (fun q5 => ?_)
      · rw [show pj_rb G0 6 0 7 = true from pj_rb_t q5, pj_cT]
        refine pj_X_of (fun r h => pj_R_to (G0, 24, [(0, .ref 6), (1, .int p), (2, .int c)], [.ref 6, .int c, .ref 7], 0, 0) 24 3 (fun _ => rfl) h) ?_
        refine pj_X_of (fun r h => pj_T_gr hI rfl rfl rfl h) ?_
        refine pj_X_of (fun r h => pj_T_gr hI rfl rfl rfl h) ?_
        refine pj_X_of (fun r h => pj_R_to (G0, 31, [(0, .ref 6), (1, .int p), (2, .int c)], [.int p, .ref 26, .int c, .ref 7], 0, 0) 31 2 (fun _ => rfl) h) ?_
        refine pj_X_of (fun r h => pj_T_il hI rfl rfl (by omega) (by omega) h) ?_
        show pj_X _ _ G0 32 [(0, .ref 6), (1, .int p), (2, .int c)] [.int (pj_ai G0 26 p.toInt.toNat), .int c, .ref 7] _
        obtain ⟨z6, hz6⟩ : ∃ z : Int32, z = pj_ai G0 26 p.toInt.toNat := ⟨_, rfl⟩
        rw [← hz6]
        rw [pj_nm_e]
        have ez6 : (pj_ai G0 26 p.toInt.toNat).toInt = z6.toInt := by rw [hz6]
        have fz6_0 : (0 : Int) ≤ z6.toInt ∧ z6.toInt ≤ 7 ∧ (z6.toInt ≤ 0 ∨ 0 ≤ z6.toInt) := by rw [hz6]; exact hI.2.2.1 26 (6, 0, 7, 0, 0) rfl _ (by show _ < 6; omega)
        refine pj_X_ca (vs := [.ref 7, .int c, .int z6]) rfl (fun _ => rfl) ⟨Nat.le_of_ble_eq_true rfl, Nat.le_of_ble_eq_true rfl, pj_T_rcv hI rfl⟩ ⟨rfl, rfl⟩ (pj_Y_up (by decide) (ct_44_7x G0 hI c z6 ⟨by omega, by omega⟩)) ?_
        rintro _ _ ⟨y7, rfl, rfl, ry7, fy7⟩
        rw [← fy7, pj_nm_e]
        show pj_X _ _ G0 35 [(0, .ref 6), (1, .int p), (2, .int c)] [.int y7] _
        refine pj_X_of (fun r h => pj_R_to (G0, 38, [(3, .int y7), (0, .ref 6), (1, .int p), (2, .int c)], [.int (Int32.ofInt (-1)), .int y7], 0, 0) 38 4 (fun _ => rfl) h) ?_
        cases b8 : pj_c1 .ne y7 (Int32.ofInt (-1)) with
        | true =>
          rw [pj_cT]
          have ub8 := pj_u_neT b8
          refine pj_X_of (fun r h => pj_R_icT 44 rfl rfl b8 h) ?_
          refine pj_X_of (fun r h => pj_R_to (G0, 45, [(3, .int y7), (0, .ref 6), (1, .int p), (2, .int c)], [.ref 6], 0, 0) 45 2 (fun _ => rfl) h) ?_
          refine pj_X_of (fun r h => pj_T_gr hI rfl rfl rfl h) ?_
          refine pj_X_of (fun r h => pj_R_to (G0, 49, [(3, .int y7), (0, .ref 6), (1, .int p), (2, .int c)], [.int c, .ref 21], 0, 0) 49 2 (fun _ => rfl) h) ?_
          refine pj_X_ca (vs := [.ref 21, .int c]) rfl (fun _ => rfl) ⟨Nat.le_of_ble_eq_true rfl, Nat.le_of_ble_eq_true rfl, pj_T_rcv hI rfl⟩ ⟨rfl, rfl⟩ (pj_Y_up (by decide) (ct_70_21x G0 hI c)) ?_
          rintro _ _ ⟨y9, rfl, rfl, ry9, fy9⟩
          rw [← fy9, pj_nm_e]
          show pj_X _ _ G0 52 [(3, .int y7), (0, .ref 6), (1, .int p), (2, .int c)] [.int y9] _
          refine pj_X_of (fun r h => pj_R_to (G0, 57, [(4, .int y9), (3, .int y7), (0, .ref 6), (1, .int p), (2, .int c)], [.int (Int32.ofInt (-1)), .int y9], 0, 0) 57 4 (fun _ => rfl) h) ?_
          cases b10 : pj_c1 .eq y9 (Int32.ofInt (-1)) with
          | true =>
            rw [pj_cT]
            have ub10 := pj_u_eqT b10
            refine pj_X_of (fun r h => pj_R_icT 79 rfl rfl b10 h) ?_
            refine pj_X_of (fun r h => pj_R_to (G0, 81, [(4, .int y9), (3, .int y7), (0, .ref 6), (1, .int p), (2, .int c)], [.int ((Int8.ofInt (-3)).toInt32)], 0, 0) 81 2 (fun _ => rfl) h) ?_
            exact pj_X_rt rfl rfl ⟨_, rfl, hI, hK, ⟨by omega, by omega⟩, rfl⟩
          | false =>
            rw [pj_cF]
            have ub10 := pj_u_eqF b10
            refine pj_X_of (fun r h => pj_R_icF rfl b10 h) ?_
            refine pj_X_of (fun r h => pj_R_to (G0, 61, [(4, .int y9), (3, .int y7), (0, .ref 6), (1, .int p), (2, .int c)], [.ref 6], 0, 0) 61 2 (fun _ => rfl) h) ?_
            refine pj_X_of (fun r h => pj_T_gr hI rfl rfl rfl h) ?_
            refine pj_X_of (fun r h => pj_T_gr hI rfl rfl rfl h) ?_
            refine pj_X_of (fun r h => pj_R_to (G0, 69, [(4, .int y9), (3, .int y7), (0, .ref 6), (1, .int p), (2, .int c)], [.int y9, .ref 24], 0, 0) 69 2 (fun _ => rfl) h) ?_
            refine pj_X_of (fun r h => pj_T_il hI rfl rfl (by omega) (by omega) h) ?_
            show pj_X _ _ G0 70 [(4, .int y9), (3, .int y7), (0, .ref 6), (1, .int p), (2, .int c)] [.int (pj_ai G0 24 y9.toInt.toNat)] _
            obtain ⟨z11, hz11⟩ : ∃ z : Int32, z = pj_ai G0 24 y9.toInt.toNat := ⟨_, rfl⟩
            rw [← hz11]
            rw [pj_nm_e]
            have ez11 : (pj_ai G0 24 y9.toInt.toNat).toInt = z11.toInt := by rw [hz11]
            refine pj_X_of (fun r h => pj_R_to (G0, 71, [(4, .int y9), (3, .int y7), (0, .ref 6), (1, .int p), (2, .int c)], [.ref 6, .int z11], 0, 0) 71 2 (fun _ => rfl) h) ?_
            refine pj_X_of (fun r h => pj_T_gr hI rfl rfl rfl h) ?_
            refine pj_X_of (fun r h => pj_R_to (G0, 75, [(4, .int y9), (3, .int y7), (0, .ref 6), (1, .int p), (2, .int c)], [.int p, .ref 32, .int z11], 0, 0) 75 2 (fun _ => rfl) h) ?_
            refine pj_X_of (fun r h => pj_T_il hI rfl rfl (by omega) (by omega) h) ?_
            show pj_X _ _ G0 76 [(4, .int y9), (3, .int y7), (0, .ref 6), (1, .int p), (2, .int c)] [.int (pj_ai G0 32 p.toInt.toNat), .int z11] _
            obtain ⟨z12, hz12⟩ : ∃ z : Int32, z = pj_ai G0 32 p.toInt.toNat := ⟨_, rfl⟩
            rw [← hz12]
            rw [pj_nm_e]
            have ez12 : (pj_ai G0 32 p.toInt.toNat).toInt = z12.toInt := by rw [hz12]
            cases b13 : pj_c1 .ge z11 z12 with
            | true =>
              rw [pj_cT]
              have ub13 := pj_u_geT b13
              refine pj_X_of (fun r h => pj_R_icT 82 rfl rfl b13 h) ?_
              refine pj_X_of (fun r h => pj_R_to (G0, 83, [(4, .int y9), (3, .int y7), (0, .ref 6), (1, .int p), (2, .int c)], [.ref 6], 0, 0) 83 2 (fun _ => rfl) h) ?_
              refine pj_X_of (fun r h => pj_T_gr hI rfl rfl rfl h) ?_
              refine pj_X_of (fun r h => pj_T_gr hI rfl rfl rfl h) ?_
              refine pj_X_of (fun r h => pj_R_to (G0, 91, [(4, .int y9), (3, .int y7), (0, .ref 6), (1, .int p), (2, .int c)], [.int y9, .ref 24], 0, 0) 91 2 (fun _ => rfl) h) ?_
              refine pj_X_of (fun r h => pj_T_il hI rfl rfl (by omega) (by omega) h) ?_
              show pj_X _ _ G0 92 [(4, .int y9), (3, .int y7), (0, .ref 6), (1, .int p), (2, .int c)] [.int (pj_ai G0 24 y9.toInt.toNat)] _
              rw [← hz11]
              refine pj_X_of (fun r h => pj_R_to (G0, 93, [(4, .int y9), (3, .int y7), (0, .ref 6), (1, .int p), (2, .int c)], [.ref 6, .int z11], 0, 0) 93 2 (fun _ => rfl) h) ?_
              refine pj_X_of (fun r h => pj_T_gr hI rfl rfl rfl h) ?_
              refine pj_X_of (fun r h => pj_R_to (G0, 97, [(4, .int y9), (3, .int y7), (0, .ref 6), (1, .int p), (2, .int c)], [.int p, .ref 32, .int z11], 0, 0) 97 2 (fun _ => rfl) h) ?_
              refine pj_X_of (fun r h => pj_T_il hI rfl rfl (by omega) (by omega) h) ?_
              show pj_X _ _ G0 98 [(4, .int y9), (3, .int y7), (0, .ref 6), (1, .int p), (2, .int c)] [.int (pj_ai G0 32 p.toInt.toNat), .int z11] _
              rw [← hz12]
              cases b14 : pj_c1 .ne z11 z12 with
              | true =>
                rw [pj_cT]
                have ub14 := pj_u_neT b14
                refine pj_X_of (fun r h => pj_R_icT 115 rfl rfl b14 h) ?_
                refine pj_X_of (fun r h => pj_R_to (G0, 116, [(4, .int y9), (3, .int y7), (0, .ref 6), (1, .int p), (2, .int c)], [.ref 6], 0, 0) 116 2 (fun _ => rfl) h) ?_
                refine pj_X_of (fun r h => pj_T_gr hI rfl rfl rfl h) ?_
                refine pj_X_of (fun r h => pj_T_gr hI rfl rfl rfl h) ?_
                refine pj_X_of (fun r h => pj_R_to (G0, 124, [(4, .int y9), (3, .int y7), (0, .ref 6), (1, .int p), (2, .int c)], [.int y7, .int p, .ref 26], 0, 0) 124 3 (fun _ => rfl) h) ?_
                refine pj_X_of (fun r h => pj_T_is hI rfl rfl (by omega) (by omega) h) ?_
                show pj_X _ _ (pj_wa G0 26 p.toInt.toNat y7) 125 [(4, .int y9), (3, .int y7), (0, .ref 6), (1, .int p), (2, .int c)] [] _
                obtain ⟨G15, hG15⟩ : ∃ H, H = pj_wa G0 26 p.toInt.toNat y7 := ⟨_, rfl⟩
                have iG15 : pj_Inv G15 := by rw [hG15]; exact pj_Inv_wa hI rfl (fun q hq => by cases hq; exact ⟨by show (0 : Int) ≤ _; omega, by show _ ≤ (7 : Int); omega, by show _ ≤ (0 : Int) ∨ (0 : Int) ≤ _; omega⟩) (fun n hn => by cases hn)
                have kG15 : pj_kpt kc_104x G0 G15 := by rw [hG15]; exact pj_kpt_a hK rfl
                rw [← hG15]
                rw [pj_nm_e]
                refine pj_X_of (fun r h => pj_R_to (G15, 126, [(4, .int y9), (3, .int y7), (0, .ref 6), (1, .int p), (2, .int c)], [.int y7], 0, 0) 126 2 (fun _ => rfl) h) ?_
                exact pj_X_rt rfl rfl ⟨_, rfl, iG15, kG15, ⟨by omega, by omega⟩, rfl⟩
              | false =>
                rw [pj_cF]
                have ub14 := pj_u_neF b14
                refine pj_X_of (fun r h => pj_R_icF rfl b14 h) ?_
                refine pj_X_of (fun r h => pj_R_to (G0, 102, [(4, .int y9), (3, .int y7), (0, .ref 6), (1, .int p), (2, .int c)], [.ref 6], 0, 0) 102 2 (fun _ => rfl) h) ?_
                refine pj_X_of (fun r h => pj_T_gr hI rfl rfl rfl h) ?_
                refine pj_X_of (fun r h => pj_T_gr hI rfl rfl rfl h) ?_
                refine pj_X_of (fun r h => pj_R_to (G0, 111, [(4, .int y9), (3, .int y7), (0, .ref 6), (1, .int p), (2, .int c)], [.int y9, .ref 24, .int y9, .ref 24], 0, 0) 111 3 (fun _ => rfl) h) ?_
                refine pj_X_of (fun r h => pj_T_il hI rfl rfl (by omega) (by omega) h) ?_
                show pj_X _ _ G0 112 [(4, .int y9), (3, .int y7), (0, .ref 6), (1, .int p), (2, .int c)] [.int (pj_ai G0 24 y9.toInt.toNat), .int y9, .ref 24] _
                rw [← hz11]
                refine pj_X_of (fun r h => pj_R_to (G0, 114, [(4, .int y9), (3, .int y7), (0, .ref 6), (1, .int p), (2, .int c)], [.int (z11 - (Int32.ofInt 1)), .int y9, .ref 24], 0, 0) 114 3 (fun _ => rfl) h) ?_
                obtain ⟨z16, hz16⟩ : ∃ z : Int32, z = z11 - (Int32.ofInt 1) := ⟨_, rfl⟩
                rw [← hz16]
                rw [pj_nm_e]
                refine pj_X_of (fun r h => pj_T_is hI rfl rfl (by omega) (by omega) h) ?_
                show pj_X _ _ (pj_wa G0 24 y9.toInt.toNat z16) 115 [(4, .int y9), (3, .int y7), (0, .ref 6), (1, .int p), (2, .int c)] [] _
                obtain ⟨G17, hG17⟩ : ∃ H, H = pj_wa G0 24 y9.toInt.toNat z16 := ⟨_, rfl⟩
                have iG17 : pj_Inv G17 := by rw [hG17]; exact pj_Inv_wa hI rfl (fun q hq => by cases hq) (fun n hn => by cases hn)
                have kG17 : pj_kpt kc_104x G0 G17 := by rw [hG17]; exact pj_kpt_a hK rfl
                rw [← hG17]
                rw [pj_nm_e]
                refine pj_X_of (fun r h => pj_R_to (G17, 116, [(4, .int y9), (3, .int y7), (0, .ref 6), (1, .int p), (2, .int c)], [.ref 6], 0, 0) 116 2 (fun _ => rfl) h) ?_
                refine pj_X_of (fun r h => pj_T_gr iG17 rfl rfl rfl h) ?_
                refine pj_X_of (fun r h => pj_T_gr iG17 rfl rfl rfl h) ?_
                refine pj_X_of (fun r h => pj_R_to (G17, 124, [(4, .int y9), (3, .int y7), (0, .ref 6), (1, .int p), (2, .int c)], [.int y7, .int p, .ref 26], 0, 0) 124 3 (fun _ => rfl) h) ?_
                refine pj_X_of (fun r h => pj_T_is iG17 rfl rfl (by omega) (by omega) h) ?_
                show pj_X _ _ (pj_wa G17 26 p.toInt.toNat y7) 125 [(4, .int y9), (3, .int y7), (0, .ref 6), (1, .int p), (2, .int c)] [] _
                obtain ⟨G18, hG18⟩ : ∃ H, H = pj_wa G17 26 p.toInt.toNat y7 := ⟨_, rfl⟩
                have iG18 : pj_Inv G18 := by rw [hG18]; exact pj_Inv_wa iG17 rfl (fun q hq => by cases hq; exact ⟨by show (0 : Int) ≤ _; omega, by show _ ≤ (7 : Int); omega, by show _ ≤ (0 : Int) ∨ (0 : Int) ≤ _; omega⟩) (fun n hn => by cases hn)
                have kG18 : pj_kpt kc_104x G0 G18 := by rw [hG18]; exact pj_kpt_a kG17 rfl
                rw [← hG18]
                rw [pj_nm_e]
                refine pj_X_of (fun r h => pj_R_to (G18, 126, [(4, .int y9), (3, .int y7), (0, .ref 6), (1, .int p), (2, .int c)], [.int y7], 0, 0) 126 2 (fun _ => rfl) h) ?_
                exact pj_X_rt rfl rfl ⟨_, rfl, iG18, kG18, ⟨by omega, by omega⟩, rfl⟩
            | false =>
              rw [pj_cF]
              have ub13 := pj_u_geF b13
              refine pj_X_of (fun r h => pj_R_icF rfl b13 h) ?_
              refine pj_X_of (fun r h => pj_R_to (G0, 81, [(4, .int y9), (3, .int y7), (0, .ref 6), (1, .int p), (2, .int c)], [.int ((Int8.ofInt (-3)).toInt32)], 0, 0) 81 2 (fun _ => rfl) h) ?_
              exact pj_X_rt rfl rfl ⟨_, rfl, hI, hK, ⟨by omega, by omega⟩, rfl⟩
        | false =>
          rw [pj_cF]
          have ub8 := pj_u_neF b8
          refine pj_X_of (fun r h => pj_R_icF rfl b8 h) ?_
          refine pj_X_of (fun r h => pj_R_to (G0, 43, [(3, .int y7), (0, .ref 6), (1, .int p), (2, .int c)], [.int ((Int8.ofInt (-2)).toInt32)], 0, 0) 43 2 (fun _ => rfl) h) ?_
          exact pj_X_rt rfl rfl ⟨_, rfl, hI, hK, ⟨by omega, by omega⟩, rfl⟩
      · rw [show pj_rb G0 6 0 7 = false from pj_rb_f q5 rfl, pj_cF]
        refine pj_X_of (fun r h => pj_R_to (G0, 24, [(0, .ref 6), (1, .int p), (2, .int c)], [.ref 6, .int c, .ref 14], 0, 0) 24 3 (fun _ => rfl) h) ?_
        refine pj_X_of (fun r h => pj_T_gr hI rfl rfl rfl h) ?_
        refine pj_X_of (fun r h => pj_T_gr hI rfl rfl rfl h) ?_
        refine pj_X_of (fun r h => pj_R_to (G0, 31, [(0, .ref 6), (1, .int p), (2, .int c)], [.int p, .ref 26, .int c, .ref 14], 0, 0) 31 2 (fun _ => rfl) h) ?_
        refine pj_X_of (fun r h => pj_T_il hI rfl rfl (by omega) (by omega) h) ?_
        show pj_X _ _ G0 32 [(0, .ref 6), (1, .int p), (2, .int c)] [.int (pj_ai G0 26 p.toInt.toNat), .int c, .ref 14] _
        obtain ⟨z19, hz19⟩ : ∃ z : Int32, z = pj_ai G0 26 p.toInt.toNat := ⟨_, rfl⟩
        rw [← hz19]
        rw [pj_nm_e]
        have ez19 : (pj_ai G0 26 p.toInt.toNat).toInt = z19.toInt := by rw [hz19]
        have fz19_0 : (0 : Int) ≤ z19.toInt ∧ z19.toInt ≤ 7 ∧ (z19.toInt ≤ 0 ∨ 0 ≤ z19.toInt) := by rw [hz19]; exact hI.2.2.1 26 (6, 0, 7, 0, 0) rfl _ (by show _ < 6; omega)
        refine pj_X_ca (vs := [.ref 14, .int c, .int z19]) rfl (fun _ => rfl) ⟨Nat.le_of_ble_eq_true rfl, Nat.le_of_ble_eq_true rfl, pj_T_rcv hI rfl⟩ ⟨rfl, rfl⟩ (pj_Y_up (by decide) (ct_44_14x G0 hI c z19 ⟨by omega, by omega⟩)) ?_
        rintro _ _ ⟨y20, rfl, rfl, ry20, fy20⟩
        rw [← fy20, pj_nm_e]
        show pj_X _ _ G0 35 [(0, .ref 6), (1, .int p), (2, .int c)] [.int y20] _
        refine pj_X_of (fun r h => pj_R_to (G0, 38, [(3, .int y20), (0, .ref 6), (1, .int p), (2, .int c)], [.int (Int32.ofInt (-1)), .int y20], 0, 0) 38 4 (fun _ => rfl) h) ?_
        cases b21 : pj_c1 .ne y20 (Int32.ofInt (-1)) with
        | true =>
          rw [pj_cT]
          have ub21 := pj_u_neT b21
          refine pj_X_of (fun r h => pj_R_icT 44 rfl rfl b21 h) ?_
          refine pj_X_of (fun r h => pj_R_to (G0, 45, [(3, .int y20), (0, .ref 6), (1, .int p), (2, .int c)], [.ref 6], 0, 0) 45 2 (fun _ => rfl) h) ?_
          refine pj_X_of (fun r h => pj_T_gr hI rfl rfl rfl h) ?_
          refine pj_X_of (fun r h => pj_R_to (G0, 49, [(3, .int y20), (0, .ref 6), (1, .int p), (2, .int c)], [.int c, .ref 21], 0, 0) 49 2 (fun _ => rfl) h) ?_
          refine pj_X_ca (vs := [.ref 21, .int c]) rfl (fun _ => rfl) ⟨Nat.le_of_ble_eq_true rfl, Nat.le_of_ble_eq_true rfl, pj_T_rcv hI rfl⟩ ⟨rfl, rfl⟩ (pj_Y_up (by decide) (ct_70_21x G0 hI c)) ?_
          rintro _ _ ⟨y22, rfl, rfl, ry22, fy22⟩
          rw [← fy22, pj_nm_e]
          show pj_X _ _ G0 52 [(3, .int y20), (0, .ref 6), (1, .int p), (2, .int c)] [.int y22] _
          refine pj_X_of (fun r h => pj_R_to (G0, 57, [(4, .int y22), (3, .int y20), (0, .ref 6), (1, .int p), (2, .int c)], [.int (Int32.ofInt (-1)), .int y22], 0, 0) 57 4 (fun _ => rfl) h) ?_
          cases b23 : pj_c1 .eq y22 (Int32.ofInt (-1)) with
          | true =>
            rw [pj_cT]
            have ub23 := pj_u_eqT b23
            refine pj_X_of (fun r h => pj_R_icT 79 rfl rfl b23 h) ?_
            refine pj_X_of (fun r h => pj_R_to (G0, 81, [(4, .int y22), (3, .int y20), (0, .ref 6), (1, .int p), (2, .int c)], [.int ((Int8.ofInt (-3)).toInt32)], 0, 0) 81 2 (fun _ => rfl) h) ?_
            exact pj_X_rt rfl rfl ⟨_, rfl, hI, hK, ⟨by omega, by omega⟩, rfl⟩
          | false =>
            rw [pj_cF]
            have ub23 := pj_u_eqF b23
            refine pj_X_of (fun r h => pj_R_icF rfl b23 h) ?_
            refine pj_X_of (fun r h => pj_R_to (G0, 61, [(4, .int y22), (3, .int y20), (0, .ref 6), (1, .int p), (2, .int c)], [.ref 6], 0, 0) 61 2 (fun _ => rfl) h) ?_
            refine pj_X_of (fun r h => pj_T_gr hI rfl rfl rfl h) ?_
            refine pj_X_of (fun r h => pj_T_gr hI rfl rfl rfl h) ?_
            refine pj_X_of (fun r h => pj_R_to (G0, 69, [(4, .int y22), (3, .int y20), (0, .ref 6), (1, .int p), (2, .int c)], [.int y22, .ref 24], 0, 0) 69 2 (fun _ => rfl) h) ?_
            refine pj_X_of (fun r h => pj_T_il hI rfl rfl (by omega) (by omega) h) ?_
            show pj_X _ _ G0 70 [(4, .int y22), (3, .int y20), (0, .ref 6), (1, .int p), (2, .int c)] [.int (pj_ai G0 24 y22.toInt.toNat)] _
            obtain ⟨z24, hz24⟩ : ∃ z : Int32, z = pj_ai G0 24 y22.toInt.toNat := ⟨_, rfl⟩
            rw [← hz24]
            rw [pj_nm_e]
            have ez24 : (pj_ai G0 24 y22.toInt.toNat).toInt = z24.toInt := by rw [hz24]
            refine pj_X_of (fun r h => pj_R_to (G0, 71, [(4, .int y22), (3, .int y20), (0, .ref 6), (1, .int p), (2, .int c)], [.ref 6, .int z24], 0, 0) 71 2 (fun _ => rfl) h) ?_
            refine pj_X_of (fun r h => pj_T_gr hI rfl rfl rfl h) ?_
            refine pj_X_of (fun r h => pj_R_to (G0, 75, [(4, .int y22), (3, .int y20), (0, .ref 6), (1, .int p), (2, .int c)], [.int p, .ref 32, .int z24], 0, 0) 75 2 (fun _ => rfl) h) ?_
            refine pj_X_of (fun r h => pj_T_il hI rfl rfl (by omega) (by omega) h) ?_
            show pj_X _ _ G0 76 [(4, .int y22), (3, .int y20), (0, .ref 6), (1, .int p), (2, .int c)] [.int (pj_ai G0 32 p.toInt.toNat), .int z24] _
            obtain ⟨z25, hz25⟩ : ∃ z : Int32, z = pj_ai G0 32 p.toInt.toNat := ⟨_, rfl⟩
            rw [← hz25]
            rw [pj_nm_e]
            have ez25 : (pj_ai G0 32 p.toInt.toNat).toInt = z25.toInt := by rw [hz25]
            cases b26 : pj_c1 .ge z24 z25 with
            | true =>
              rw [pj_cT]
              have ub26 := pj_u_geT b26
              refine pj_X_of (fun r h => pj_R_icT 82 rfl rfl b26 h) ?_
              refine pj_X_of (fun r h => pj_R_to (G0, 83, [(4, .int y22), (3, .int y20), (0, .ref 6), (1, .int p), (2, .int c)], [.ref 6], 0, 0) 83 2 (fun _ => rfl) h) ?_
              refine pj_X_of (fun r h => pj_T_gr hI rfl rfl rfl h) ?_
              refine pj_X_of (fun r h => pj_T_gr hI rfl rfl rfl h) ?_
              refine pj_X_of (fun r h => pj_R_to (G0, 91, [(4, .int y22), (3, .int y20), (0, .ref 6), (1, .int p), (2, .int c)], [.int y22, .ref 24], 0, 0) 91 2 (fun _ => rfl) h) ?_
              refine pj_X_of (fun r h => pj_T_il hI rfl rfl (by omega) (by omega) h) ?_
              show pj_X _ _ G0 92 [(4, .int y22), (3, .int y20), (0, .ref 6), (1, .int p), (2, .int c)] [.int (pj_ai G0 24 y22.toInt.toNat)] _
              rw [← hz24]
              refine pj_X_of (fun r h => pj_R_to (G0, 93, [(4, .int y22), (3, .int y20), (0, .ref 6), (1, .int p), (2, .int c)], [.ref 6, .int z24], 0, 0) 93 2 (fun _ => rfl) h) ?_
              refine pj_X_of (fun r h => pj_T_gr hI rfl rfl rfl h) ?_
              refine pj_X_of (fun r h => pj_R_to (G0, 97, [(4, .int y22), (3, .int y20), (0, .ref 6), (1, .int p), (2, .int c)], [.int p, .ref 32, .int z24], 0, 0) 97 2 (fun _ => rfl) h) ?_
              refine pj_X_of (fun r h => pj_T_il hI rfl rfl (by omega) (by omega) h) ?_
              show pj_X _ _ G0 98 [(4, .int y22), (3, .int y20), (0, .ref 6), (1, .int p), (2, .int c)] [.int (pj_ai G0 32 p.toInt.toNat), .int z24] _
              rw [← hz25]
              cases b27 : pj_c1 .ne z24 z25 with
              | true =>
                rw [pj_cT]
                have ub27 := pj_u_neT b27
                refine pj_X_of (fun r h => pj_R_icT 115 rfl rfl b27 h) ?_
                refine pj_X_of (fun r h => pj_R_to (G0, 116, [(4, .int y22), (3, .int y20), (0, .ref 6), (1, .int p), (2, .int c)], [.ref 6], 0, 0) 116 2 (fun _ => rfl) h) ?_
                refine pj_X_of (fun r h => pj_T_gr hI rfl rfl rfl h) ?_
                refine pj_X_of (fun r h => pj_T_gr hI rfl rfl rfl h) ?_
                refine pj_X_of (fun r h => pj_R_to (G0, 124, [(4, .int y22), (3, .int y20), (0, .ref 6), (1, .int p), (2, .int c)], [.int y20, .int p, .ref 26], 0, 0) 124 3 (fun _ => rfl) h) ?_
                refine pj_X_of (fun r h => pj_T_is hI rfl rfl (by omega) (by omega) h) ?_
                show pj_X _ _ (pj_wa G0 26 p.toInt.toNat y20) 125 [(4, .int y22), (3, .int y20), (0, .ref 6), (1, .int p), (2, .int c)] [] _
                obtain ⟨G28, hG28⟩ : ∃ H, H = pj_wa G0 26 p.toInt.toNat y20 := ⟨_, rfl⟩
                have iG28 : pj_Inv G28 := by rw [hG28]; exact pj_Inv_wa hI rfl (fun q hq => by cases hq; exact ⟨by show (0 : Int) ≤ _; omega, by show _ ≤ (7 : Int); omega, by show _ ≤ (0 : Int) ∨ (0 : Int) ≤ _; omega⟩) (fun n hn => by cases hn)
                have kG28 : pj_kpt kc_104x G0 G28 := by rw [hG28]; exact pj_kpt_a hK rfl
                rw [← hG28]
                rw [pj_nm_e]
                refine pj_X_of (fun r h => pj_R_to (G28, 126, [(4, .int y22), (3, .int y20), (0, .ref 6), (1, .int p), (2, .int c)], [.int y20], 0, 0) 126 2 (fun _ => rfl) h) ?_
                exact pj_X_rt rfl rfl ⟨_, rfl, iG28, kG28, ⟨by omega, by omega⟩, rfl⟩
              | false =>
                rw [pj_cF]
                have ub27 := pj_u_neF b27
                refine pj_X_of (fun r h => pj_R_icF rfl b27 h) ?_
                refine pj_X_of (fun r h => pj_R_to (G0, 102, [(4, .int y22), (3, .int y20), (0, .ref 6), (1, .int p), (2, .int c)], [.ref 6], 0, 0) 102 2 (fun _ => rfl) h) ?_
                refine pj_X_of (fun r h => pj_T_gr hI rfl rfl rfl h) ?_
                refine pj_X_of (fun r h => pj_T_gr hI rfl rfl rfl h) ?_
                refine pj_X_of (fun r h => pj_R_to (G0, 111, [(4, .int y22), (3, .int y20), (0, .ref 6), (1, .int p), (2, .int c)], [.int y22, .ref 24, .int y22, .ref 24], 0, 0) 111 3 (fun _ => rfl) h) ?_
                refine pj_X_of (fun r h => pj_T_il hI rfl rfl (by omega) (by omega) h) ?_
                show pj_X _ _ G0 112 [(4, .int y22), (3, .int y20), (0, .ref 6), (1, .int p), (2, .int c)] [.int (pj_ai G0 24 y22.toInt.toNat), .int y22, .ref 24] _
                rw [← hz24]
                refine pj_X_of (fun r h => pj_R_to (G0, 114, [(4, .int y22), (3, .int y20), (0, .ref 6), (1, .int p), (2, .int c)], [.int (z24 - (Int32.ofInt 1)), .int y22, .ref 24], 0, 0) 114 3 (fun _ => rfl) h) ?_
                obtain ⟨z29, hz29⟩ : ∃ z : Int32, z = z24 - (Int32.ofInt 1) := ⟨_, rfl⟩
                rw [← hz29]
                rw [pj_nm_e]
                refine pj_X_of (fun r h => pj_T_is hI rfl rfl (by omega) (by omega) h) ?_
                show pj_X _ _ (pj_wa G0 24 y22.toInt.toNat z29) 115 [(4, .int y22), (3, .int y20), (0, .ref 6), (1, .int p), (2, .int c)] [] _
                obtain ⟨G30, hG30⟩ : ∃ H, H = pj_wa G0 24 y22.toInt.toNat z29 := ⟨_, rfl⟩
                have iG30 : pj_Inv G30 := by rw [hG30]; exact pj_Inv_wa hI rfl (fun q hq => by cases hq) (fun n hn => by cases hn)
                have kG30 : pj_kpt kc_104x G0 G30 := by rw [hG30]; exact pj_kpt_a hK rfl
                rw [← hG30]
                rw [pj_nm_e]
                refine pj_X_of (fun r h => pj_R_to (G30, 116, [(4, .int y22), (3, .int y20), (0, .ref 6), (1, .int p), (2, .int c)], [.ref 6], 0, 0) 116 2 (fun _ => rfl) h) ?_
                refine pj_X_of (fun r h => pj_T_gr iG30 rfl rfl rfl h) ?_
                refine pj_X_of (fun r h => pj_T_gr iG30 rfl rfl rfl h) ?_
                refine pj_X_of (fun r h => pj_R_to (G30, 124, [(4, .int y22), (3, .int y20), (0, .ref 6), (1, .int p), (2, .int c)], [.int y20, .int p, .ref 26], 0, 0) 124 3 (fun _ => rfl) h) ?_
                refine pj_X_of (fun r h => pj_T_is iG30 rfl rfl (by omega) (by omega) h) ?_
                show pj_X _ _ (pj_wa G30 26 p.toInt.toNat y20) 125 [(4, .int y22), (3, .int y20), (0, .ref 6), (1, .int p), (2, .int c)] [] _
                obtain ⟨G31, hG31⟩ : ∃ H, H = pj_wa G30 26 p.toInt.toNat y20 := ⟨_, rfl⟩
                have iG31 : pj_Inv G31 := by rw [hG31]; exact pj_Inv_wa iG30 rfl (fun q hq => by cases hq; exact ⟨by show (0 : Int) ≤ _; omega, by show _ ≤ (7 : Int); omega, by show _ ≤ (0 : Int) ∨ (0 : Int) ≤ _; omega⟩) (fun n hn => by cases hn)
                have kG31 : pj_kpt kc_104x G0 G31 := by rw [hG31]; exact pj_kpt_a kG30 rfl
                rw [← hG31]
                rw [pj_nm_e]
                refine pj_X_of (fun r h => pj_R_to (G31, 126, [(4, .int y22), (3, .int y20), (0, .ref 6), (1, .int p), (2, .int c)], [.int y20], 0, 0) 126 2 (fun _ => rfl) h) ?_
                exact pj_X_rt rfl rfl ⟨_, rfl, iG31, kG31, ⟨by omega, by omega⟩, rfl⟩
            | false =>
              rw [pj_cF]
              have ub26 := pj_u_geF b26
              refine pj_X_of (fun r h => pj_R_icF rfl b26 h) ?_
              refine pj_X_of (fun r h => pj_R_to (G0, 81, [(4, .int y22), (3, .int y20), (0, .ref 6), (1, .int p), (2, .int c)], [.int ((Int8.ofInt (-3)).toInt32)], 0, 0) 81 2 (fun _ => rfl) h) ?_
              exact pj_X_rt rfl rfl ⟨_, rfl, hI, hK, ⟨by omega, by omega⟩, rfl⟩
        | false =>
          rw [pj_cF]
          have ub21 := pj_u_neF b21
          refine pj_X_of (fun r h => pj_R_icF rfl b21 h) ?_
          refine pj_X_of (fun r h => pj_R_to (G0, 43, [(3, .int y20), (0, .ref 6), (1, .int p), (2, .int c)], [.int ((Int8.ofInt (-2)).toInt32)], 0, 0) 43 2 (fun _ => rfl) h) ?_
          exact pj_X_rt rfl rfl ⟨_, rfl, hI, hK, ⟨by omega, by omega⟩, rfl⟩
    | false =>
      rw [pj_cF]
      have ub4 := pj_u0_neF b4
      refine pj_X_of (fun r h => pj_R_ifF rfl b4 h) ?_
      refine pj_X_of (fun r h => pj_R_to (G0, 17, [(0, .ref 6), (1, .int p), (2, .int c)], [.int (Int32.ofInt (-1))], 0, 0) 17 2 (fun _ => rfl) h) ?_
      exact pj_X_rt rfl rfl ⟨_, rfl, hI, hK, ⟨by omega, by omega⟩, rfl⟩
theorem fr_104x (G0 : pj_G) (hI : pj_Inv G0) (p : Int32) (c : Int32) : pj_Inv (F_104x G0 p c).2 ∧ pj_kpt kc_104x G0 (F_104x G0 p c).2 ∧ ((-3 : Int) ≤ (F_104x G0 p c).1.toInt ∧ (F_104x G0 p c).1.toInt ≤ 7) := by
  obtain ⟨v, G', -, y, -, i, j, r, e⟩ := ct_104x G0 hI p c
  rw [← e]
  exact ⟨i, j, r⟩
def kc_105x : pj_KT := ([(6, 7), (6, 8), (21, 7), (21, 8)], [6, 21, 23, 25], [23, 25])
noncomputable def L_105x (G0 : pj_G) (n : Int32) (fu : Nat) : Int32 → pj_G → pj_G := Nat.rec (motive := fun _ => Int32 → pj_G → pj_G) (fun _ G => G) (fun _ ih v2 G => cond (pj_c1 .ge v2 n) (G) (pj_nm (pj_fi G 21 7) (fun y2 => pj_nm (y2 + (Int32.ofInt 1)) (fun z3 => pj_nm (pj_wv G 21 7 (.int z3)) (fun G4 => pj_nm (F_106x G4) (fun G6 => pj_nm (F_107x G6) (fun G8 => pj_nm (v2 + Int32.ofInt 1) (fun z9 => ih z9 G8)))))))) fu
theorem L_105x_s0 (G0 : pj_G) (n : Int32) (fu : Nat) (v2 : Int32) (G : pj_G) : L_105x G0 n (fu + 1) v2 G = cond (pj_c1 .ge v2 n) (G) (pj_nm (pj_fi G 21 7) (fun y2 => pj_nm (y2 + (Int32.ofInt 1)) (fun z3 => pj_nm (pj_wv G 21 7 (.int z3)) (fun G4 => pj_nm (F_106x G4) (fun G6 => pj_nm (F_107x G6) (fun G8 => pj_nm (v2 + Int32.ofInt 1) (fun z9 => L_105x G0 n fu z9 G8))))))) := rfl
noncomputable def F_105x (G0 : pj_G) (n : Int32) : pj_G := pj_nm (pj_wv G0 6 7 (.int (Int32.ofInt 0))) (fun G10 => pj_nm (pj_wv G10 6 8 (.int (Int32.ofInt 0))) (fun G11 => L_105x G0 n 1000 (Int32.ofInt 0) G11))
theorem F_105x_e (G0 : pj_G) (n : Int32) : F_105x G0 n = pj_nm (pj_wv G0 6 7 (.int (Int32.ofInt 0))) (fun G10 => pj_nm (pj_wv G10 6 8 (.int (Int32.ofInt 0))) (fun G11 => L_105x G0 n 1000 (Int32.ofInt 0) G11)) := rfl
theorem lp_ct_105x (G0 : pj_G) (hI0 : pj_Inv G0) (n : Int32) (rn : (0 : Int) ≤ n.toInt ∧ n.toInt ≤ 999) : ∀ mn : Nat, (∀ (G : pj_G) (hI : pj_Inv G) (hK : pj_kpt kc_105x G0 G) (v2 : Int32), ((0 : Int) ≤ v2.toInt ∧ v2.toInt ≤ 999) → 999 - v2.toInt < (mn : Int) → pj_X 1 pj_m105 G 12 [(0, .ref 6), (1, .int n), (2, .int v2)] [] (fun v' G' => v' = none ∧ pj_Inv G' ∧ pj_kpt kc_105x G0 G' ∧ (G' = L_105x G0 n mn v2 G))) := by
  have c0_ : (Int32.ofInt 0).toInt = 0 := by decide
  have c1_ : (Int32.ofInt 1).toInt = 1 := by decide
  intro mn
  induction mn with
  | zero =>
    intro G hI hK v2 rv2 hm
    exfalso
    omega
  | succ mn ih =>
    intro G hI hK v2 rv2 hm
    rw [L_105x_s0]
    refine pj_X_of (fun r h => pj_R_to (G, 14, [(0, .ref 6), (1, .int n), (2, .int v2)], [.int n, .int v2], 0, 0) 14 3 (fun _ => rfl) h) ?_
    cases b1 : pj_c1 .ge v2 n with
    | true =>
      rw [pj_cT]
      have ub1 := pj_u_geT b1
      refine pj_X_of (fun r h => pj_R_icT 44 rfl rfl b1 h) ?_
      exact pj_X_rt rfl rfl ⟨rfl, hI, hK, rfl⟩
    | false =>
      rw [pj_cF]
      have ub1 := pj_u_geF b1
      refine pj_X_of (fun r h => pj_R_icF rfl b1 h) ?_
      refine pj_X_of (fun r h => pj_R_to (G, 18, [(0, .ref 6), (1, .int n), (2, .int v2)], [.ref 6], 0, 0) 18 2 (fun _ => rfl) h) ?_
      refine pj_X_of (fun r h => pj_T_gr hI rfl rfl rfl h) ?_
      refine pj_X_of (fun r h => pj_R_to (G, 22, [(0, .ref 6), (1, .int n), (2, .int v2)], [.ref 21, .ref 21], 0, 0) 22 2 (fun _ => rfl) h) ?_
      refine pj_X_of (fun r h => pj_T_gi hI rfl rfl h) ?_
      show pj_X _ _ G 25 [(0, .ref 6), (1, .int n), (2, .int v2)] [.int (pj_fi G 21 7), .ref 21] _
      obtain ⟨y2, hy2⟩ : ∃ z : Int32, z = pj_fi G 21 7 := ⟨_, rfl⟩
      rw [← hy2]
      rw [pj_nm_e]
      have ey2 : (pj_fi G 21 7).toInt = y2.toInt := by rw [hy2]
      refine pj_X_of (fun r h => pj_R_to (G, 27, [(0, .ref 6), (1, .int n), (2, .int v2)], [.int (y2 + (Int32.ofInt 1)), .ref 21], 0, 0) 27 3 (fun _ => rfl) h) ?_
      obtain ⟨z3, hz3⟩ : ∃ z : Int32, z = y2 + (Int32.ofInt 1) := ⟨_, rfl⟩
      rw [← hz3]
      rw [pj_nm_e]
      refine pj_X_of (fun r h => pj_T_pf hI rfl rfl rfl h) ?_
      show pj_X _ _ (pj_wv G 21 7 (.int z3)) 30 [(0, .ref 6), (1, .int n), (2, .int v2)] [] _
      obtain ⟨G4, hG4⟩ : ∃ H, H = pj_wv G 21 7 (.int z3) := ⟨_, rfl⟩
      have iG4 : pj_Inv G4 := by rw [hG4]; exact pj_Inv_wi hI (ci := 8) rfl (fun q hq => by cases hq)
      have kG4 : pj_kpt kc_105x G0 G4 := by rw [hG4]; exact pj_kpt_v hK rfl
      rw [← hG4]
      rw [pj_nm_e]
      refine pj_X_of (fun r h => pj_R_to (G4, 31, [(0, .ref 6), (1, .int n), (2, .int v2)], [.ref 6], 0, 0) 31 2 (fun _ => rfl) h) ?_
      refine pj_X_ca (vs := [.ref 6]) rfl (fun _ => rfl) ⟨Nat.le_of_ble_eq_true rfl, Nat.le_of_ble_eq_true rfl, pj_T_rcv iG4 rfl⟩ ⟨rfl, rfl⟩ (pj_Y_up (by decide) (ct_106x G4 iG4)) ?_
      rintro _ G6 ⟨rfl, iG6, jG6, fy5⟩
      rw [← fy5, pj_nm_e]
      have kG6 : pj_kpt kc_105x G0 G6 := pj_kpt_t kG4 (pj_kpt_s jG6 rfl)
      show pj_X _ _ G6 34 [(0, .ref 6), (1, .int n), (2, .int v2)] [] _
      refine pj_X_of (fun r h => pj_R_to (G6, 35, [(0, .ref 6), (1, .int n), (2, .int v2)], [.ref 6], 0, 0) 35 2 (fun _ => rfl) h) ?_
      refine pj_X_ca (vs := [.ref 6]) rfl (fun _ => rfl) ⟨Nat.le_of_ble_eq_true rfl, Nat.le_of_ble_eq_true rfl, pj_T_rcv iG6 rfl⟩ ⟨rfl, rfl⟩ (pj_Y_up (by decide) (ct_107x G6 iG6)) ?_
      rintro _ G8 ⟨rfl, iG8, jG8, fy7⟩
      rw [← fy7, pj_nm_e]
      have kG8 : pj_kpt kc_105x G0 G8 := pj_kpt_t kG6 (pj_kpt_s jG8 rfl)
      show pj_X _ _ G8 38 [(0, .ref 6), (1, .int n), (2, .int v2)] [] _
      refine pj_X_of (fun r h => pj_R_to (G8, 41, [(2, .int (v2 + Int32.ofInt 1)), (0, .ref 6), (1, .int n)], [], 0, 0) 41 2 (fun _ => rfl) h) ?_
      obtain ⟨z9, hz9⟩ : ∃ z : Int32, z = v2 + Int32.ofInt 1 := ⟨_, rfl⟩
      rw [← hz9]
      rw [pj_nm_e]
      have fz9_0 : z9.toInt = v2.toInt + (Int32.ofInt 1).toInt := by rw [hz9]; exact pj_addI (by have := pj_i32 v2; have := pj_i32 (Int32.ofInt 1); omega) (by have := pj_i32 v2; have := pj_i32 (Int32.ofInt 1); omega)
      refine pj_X_of (fun r h => pj_R_to (G8, 12, [(2, .int z9), (0, .ref 6), (1, .int n)], [], 0, 0) 12 2 (fun _ => rfl) h) ?_
      exact pj_X_sub [(0, .ref 6), (1, .int n), (2, .int z9)] (show List.Nodup [0, 1, 2] by decide) ⟨rfl, rfl, rfl, trivial⟩ (ih G8 iG8 kG8 z9 ⟨by omega, by omega⟩ (by omega))
theorem ct_105x (G0 : pj_G) (hI : pj_Inv G0) (n : Int32) (rn : (0 : Int) ≤ n.toInt ∧ n.toInt ≤ 999) : pj_Y 2 105 [.ref 6, .int n] G0 (fun v' G' => v' = none ∧ pj_Inv G' ∧ pj_kpt kc_105x G0 G' ∧ (G' = F_105x G0 n)) := by
  have c0_ : (Int32.ofInt 0).toInt = 0 := by decide
  have c1_ : (Int32.ofInt 1).toInt = 1 := by decide
  refine pj_Y_X (M := pj_m105) rfl rfl (Nat.le_of_ble_eq_true rfl) ?_
  have hK : pj_kpt kc_105x G0 G0 := pj_kpt_r _ _
  show pj_X _ _ G0 0 [(0, .ref 6), (1, .int n)] [] _
  rw [F_105x_e]
  refine pj_X_of (fun r h => pj_R_to (G0, 2, [(0, .ref 6), (1, .int n)], [.int (Int32.ofInt 0), .ref 6], 0, 0) 2 3 (fun _ => rfl) h) ?_
  refine pj_X_of (fun r h => pj_T_pf hI rfl rfl rfl h) ?_
  show pj_X _ _ (pj_wv G0 6 7 (.int (Int32.ofInt 0))) 5 [(0, .ref 6), (1, .int n)] [] _
  obtain ⟨G10, hG10⟩ : ∃ H, H = pj_wv G0 6 7 (.int (Int32.ofInt 0)) := ⟨_, rfl⟩
  have iG10 : pj_Inv G10 := by rw [hG10]; exact pj_Inv_wi hI (ci := 10) rfl (fun q hq => by cases hq)
  have kG10 : pj_kpt kc_105x G0 G10 := by rw [hG10]; exact pj_kpt_v hK rfl
  rw [← hG10]
  rw [pj_nm_e]
  refine pj_X_of (fun r h => pj_R_to (G10, 7, [(0, .ref 6), (1, .int n)], [.int (Int32.ofInt 0), .ref 6], 0, 0) 7 3 (fun _ => rfl) h) ?_
  refine pj_X_of (fun r h => pj_T_pf iG10 rfl rfl rfl h) ?_
  show pj_X _ _ (pj_wv G10 6 8 (.int (Int32.ofInt 0))) 10 [(0, .ref 6), (1, .int n)] [] _
  obtain ⟨G11, hG11⟩ : ∃ H, H = pj_wv G10 6 8 (.int (Int32.ofInt 0)) := ⟨_, rfl⟩
  have iG11 : pj_Inv G11 := by rw [hG11]; exact pj_Inv_wi iG10 (ci := 10) rfl (fun q hq => by cases hq)
  have kG11 : pj_kpt kc_105x G0 G11 := by rw [hG11]; exact pj_kpt_v kG10 rfl
  rw [← hG11]
  rw [pj_nm_e]
  refine pj_X_of (fun r h => pj_R_to (G11, 12, [(2, .int (Int32.ofInt 0)), (0, .ref 6), (1, .int n)], [], 0, 0) 12 3 (fun _ => rfl) h) ?_
  exact pj_X_sub [(0, .ref 6), (1, .int n), (2, .int (Int32.ofInt 0))] (show List.Nodup [0, 1, 2] by decide) ⟨rfl, rfl, rfl, trivial⟩ ((lp_ct_105x G0 hI n rn 1000) G11 iG11 kG11 (Int32.ofInt 0) ⟨by omega, by omega⟩ (by omega))
theorem fr_105x (G0 : pj_G) (hI : pj_Inv G0) (n : Int32) (rn : (0 : Int) ≤ n.toInt ∧ n.toInt ≤ 999) : pj_Inv (F_105x G0 n) ∧ pj_kpt kc_105x G0 (F_105x G0 n) := by
  obtain ⟨v, G', -, -, i, j, e⟩ := ct_105x G0 hI n rn
  rw [← e]
  exact ⟨i, j⟩
def kc_112 : pj_KT := ([(4, 1)], [4, 5], [])
theorem lp_ct_112 (G0 : pj_G) (hI0 : pj_Inv G0) (p : Int32) (bk : Int32) (op : Int32) (rp : (0 : Int) ≤ p.toInt ∧ p.toInt ≤ 5) : ∀ mn : Nat, (∀ (G : pj_G) (hI : pj_Inv G) (hK : pj_kpt kc_112 G0 G) (v5 : Int32), ((0 : Int) ≤ v5.toInt ∧ v5.toInt ≤ 6) → 13 * (6 - v5.toInt) < (mn : Int) → pj_X 4 pj_m112 G 3 [(0, .ref 6), (1, .ref 4), (2, .int p), (3, .int bk), (4, .int op), (5, .int v5)] [] (fun v G' => ∃ y : Int32, v = some (.int y) ∧ pj_Inv G' ∧ pj_kpt kc_112 G0 G' ∧ ((0 : Int) ≤ y.toInt ∧ y.toInt ≤ 1))) ∧ (∀ (G : pj_G) (hI : pj_Inv G) (hK : pj_kpt kc_112 G0 G) (v5 : Int32) (v6 : Int32), ((0 : Int) ≤ v5.toInt ∧ v5.toInt ≤ 5) → ((0 : Int) ≤ v6.toInt ∧ v6.toInt ≤ 10) → 13 * (6 - v5.toInt) - 1 - v6.toInt < (mn : Int) → pj_X 4 pj_m112 G 18 [(0, .ref 6), (1, .ref 4), (2, .int p), (3, .int bk), (4, .int op), (5, .int v5), (6, .int v6)] [] (fun v G' => ∃ y : Int32, v = some (.int y) ∧ pj_Inv G' ∧ pj_kpt kc_112 G0 G' ∧ ((0 : Int) ≤ y.toInt ∧ y.toInt ≤ 1))) := by
  have c0_ : (Int32.ofInt 0).toInt = 0 := by decide
  have c1_ : (Int32.ofInt 1).toInt = 1 := by decide
  intro mn
  induction mn with
  | zero =>
    refine ⟨?_, ?_⟩
    · intro G hI hK v5 rv5 hm
      exfalso
      omega
    · intro G hI hK v5 v6 rv5 rv6 hm
      exfalso
      omega
  | succ mn ih =>
    refine ⟨?_, ?_⟩
    · intro G hI hK v5 rv5 hm
      refine pj_X_of (fun r h => pj_R_to (G, 6, [(0, .ref 6), (1, .ref 4), (2, .int p), (3, .int bk), (4, .int op), (5, .int v5)], [.ref 6, .int v5], 0, 0) 6 3 (fun _ => rfl) h) ?_
      refine pj_X_of (fun r h => pj_T_gr hI rfl rfl rfl h) ?_
      refine pj_X_of (fun r h => pj_T_gi hI rfl rfl h) ?_
      show pj_X _ _ G 12 [(0, .ref 6), (1, .ref 4), (2, .int p), (3, .int bk), (4, .int op), (5, .int v5)] [.int (pj_fi G 21 0), .int v5] _
      obtain ⟨y1, hy1⟩ : ∃ z : Int32, z = pj_fi G 21 0 := ⟨_, rfl⟩
      rw [← hy1]
      have ey1 : (pj_fi G 21 0).toInt = y1.toInt := by rw [hy1]
      have ry1 : (0 : Int) ≤ y1.toInt ∧ y1.toInt ≤ 6 := by rw [hy1]; exact hI.2.1 21 0 (0, 6) rfl
      cases b2 : pj_c1 .ge v5 y1 with
      | true =>
        have ub2 := pj_u_geT b2
        refine pj_X_of (fun r h => pj_R_icT 101 rfl rfl b2 h) ?_
        refine pj_X_of (fun r h => pj_R_to (G, 102, [(0, .ref 6), (1, .ref 4), (2, .int p), (3, .int bk), (4, .int op), (5, .int v5)], [.int (Int32.ofInt 0)], 0, 0) 102 2 (fun _ => rfl) h) ?_
        exact pj_X_rt rfl rfl ⟨_, rfl, hI, hK, ⟨by omega, by omega⟩⟩
      | false =>
        have ub2 := pj_u_geF b2
        refine pj_X_of (fun r h => pj_R_icF rfl b2 h) ?_
        refine pj_X_of (fun r h => pj_R_to (G, 18, [(6, .int (Int32.ofInt 0)), (0, .ref 6), (1, .ref 4), (2, .int p), (3, .int bk), (4, .int op), (5, .int v5)], [], 0, 0) 18 3 (fun _ => rfl) h) ?_
        exact pj_X_sub [(0, .ref 6), (1, .ref 4), (2, .int p), (3, .int bk), (4, .int op), (5, .int v5), (6, .int (Int32.ofInt 0))] (show List.Nodup [0, 1, 2, 3, 4, 5, 6] by decide) ⟨rfl, rfl, rfl, rfl, rfl, rfl, rfl, trivial⟩ (ih.2 G hI hK v5 (Int32.ofInt 0) ⟨by omega, by omega⟩ ⟨by omega, by omega⟩ (by omega))
    · intro G hI hK v5 v6 rv5 rv6 hm
      refine pj_X_of (fun r h => pj_R_to (G, 21, [(0, .ref 6), (1, .ref 4), (2, .int p), (3, .int bk), (4, .int op), (5, .int v5), (6, .int v6)], [.ref 6, .int v6], 0, 0) 21 3 (fun _ => rfl) h) ?_
      refine pj_X_gm hI rfl rfl (fun q3 => ?_) (fun q3 => ?_)
      · refine pj_X_of (fun r h => pj_T_gi hI rfl rfl h) ?_
        show pj_X _ _ G 27 [(0, .ref 6), (1, .ref 4), (2, .int p), (3, .int bk), (4, .int op), (5, .int v5), (6, .int v6)] [.int (pj_fi G 7 1), .int v6] _
        obtain ⟨y4, hy4⟩ : ∃ z : Int32, z = pj_fi G 7 1 := ⟨_, rfl⟩
        rw [← hy4]
        have ey4 : (pj_fi G 7 1).toInt = y4.toInt := by rw [hy4]
        have ry4 : (0 : Int) ≤ y4.toInt ∧ y4.toInt ≤ 10 := by rw [hy4]; exact hI.2.1 7 1 (0, 10) rfl
        cases b5 : pj_c1 .ge v6 y4 with
        | true =>
          have ub5 := pj_u_geT b5
          refine pj_X_of (fun r h => pj_R_icT 95 rfl rfl b5 h) ?_
          refine pj_X_of (fun r h => pj_R_to (G, 98, [(5, .int (v5 + Int32.ofInt 1)), (0, .ref 6), (1, .ref 4), (2, .int p), (3, .int bk), (4, .int op), (6, .int v6)], [], 0, 0) 98 2 (fun _ => rfl) h) ?_
          obtain ⟨z6, hz6⟩ : ∃ z : Int32, z = v5 + Int32.ofInt 1 := ⟨_, rfl⟩
          rw [← hz6]
          have fz6_0 : z6.toInt = v5.toInt + (Int32.ofInt 1).toInt := by rw [hz6]; exact pj_addI (by have := pj_i32 v5; have := pj_i32 (Int32.ofInt 1); omega) (by have := pj_i32 v5; have := pj_i32 (Int32.ofInt 1); omega)
          refine pj_X_of (fun r h => pj_R_to (G, 3, [(5, .int z6), (0, .ref 6), (1, .ref 4), (2, .int p), (3, .int bk), (4, .int op), (6, .int v6)], [], 0, 0) 3 2 (fun _ => rfl) h) ?_
          exact pj_X_sub [(0, .ref 6), (1, .ref 4), (2, .int p), (3, .int bk), (4, .int op), (5, .int z6)] (show List.Nodup [0, 1, 2, 3, 4, 5] by decide) ⟨rfl, rfl, rfl, rfl, rfl, rfl, trivial⟩ (ih.1 G hI hK z6 ⟨by omega, by omega⟩ (by omega))
        | false =>
          have ub5 := pj_u_geF b5
          refine pj_X_of (fun r h => pj_R_icF rfl b5 h) ?_
          refine pj_X_of (fun r h => pj_R_to (G, 35, [(0, .ref 6), (1, .ref 4), (2, .int p), (3, .int bk), (4, .int op), (5, .int v5), (6, .int v6)], [.int v6, .int v5, .ref 6], 0, 0) 35 4 (fun _ => rfl) h) ?_
          refine pj_X_ca (vs := [.ref 6, .int v5, .int v6]) rfl (fun _ => rfl) ⟨Nat.le_of_ble_eq_true rfl, Nat.le_of_ble_eq_true rfl, pj_T_rcv hI rfl⟩ ⟨rfl, rfl⟩ (pj_Y_up (by decide) (ct_110 G hI v5 v6 ⟨by omega, by omega⟩ ⟨by omega, by omega⟩)) ?_
          rintro _ _ ⟨y7, rfl, rfl, ry7⟩
          show pj_X _ _ G 38 [(0, .ref 6), (1, .ref 4), (2, .int p), (3, .int bk), (4, .int op), (5, .int v5), (6, .int v6)] [.int y7] _
          cases b8 : pj_c1 .eq y7 0 with
          | true =>
            have ub8 := pj_u0_eqT b8
            refine pj_X_of (fun r h => pj_R_ifT 89 rfl rfl b8 h) ?_
            refine pj_X_of (fun r h => pj_R_to (G, 92, [(6, .int (v6 + Int32.ofInt 1)), (0, .ref 6), (1, .ref 4), (2, .int p), (3, .int bk), (4, .int op), (5, .int v5)], [], 0, 0) 92 2 (fun _ => rfl) h) ?_
            obtain ⟨z9, hz9⟩ : ∃ z : Int32, z = v6 + Int32.ofInt 1 := ⟨_, rfl⟩
            rw [← hz9]
            have fz9_0 : z9.toInt = v6.toInt + (Int32.ofInt 1).toInt := by rw [hz9]; exact pj_addI (by have := pj_i32 v6; have := pj_i32 (Int32.ofInt 1); omega) (by have := pj_i32 v6; have := pj_i32 (Int32.ofInt 1); omega)
            refine pj_X_of (fun r h => pj_R_to (G, 18, [(6, .int z9), (0, .ref 6), (1, .ref 4), (2, .int p), (3, .int bk), (4, .int op), (5, .int v5)], [], 0, 0) 18 2 (fun _ => rfl) h) ?_
            exact pj_X_sub [(0, .ref 6), (1, .ref 4), (2, .int p), (3, .int bk), (4, .int op), (5, .int v5), (6, .int z9)] (show List.Nodup [0, 1, 2, 3, 4, 5, 6] by decide) ⟨rfl, rfl, rfl, rfl, rfl, rfl, rfl, trivial⟩ (ih.2 G hI hK v5 z9 ⟨by omega, by omega⟩ ⟨by omega, by omega⟩ (by omega))
          | false =>
            have ub8 := pj_u0_eqF b8
            refine pj_X_of (fun r h => pj_R_ifF rfl b8 h) ?_
            refine pj_X_of (fun r h => pj_R_to (G, 42, [(0, .ref 6), (1, .ref 4), (2, .int p), (3, .int bk), (4, .int op), (5, .int v5), (6, .int v6)], [.ref 6], 0, 0) 42 2 (fun _ => rfl) h) ?_
            refine pj_X_gk hI rfl rfl q3 ?_
            refine pj_X_of (fun r h => pj_R_to (G, 46, [(0, .ref 6), (1, .ref 4), (2, .int p), (3, .int bk), (4, .int op), (5, .int v5), (6, .int v6)], [.ref 6, .ref 7], 0, 0) 46 2 (fun _ => rfl) h) ?_
            refine pj_X_of (fun r h => pj_T_gr hI rfl rfl rfl h) ?_
            refine pj_X_of (fun r h => pj_T_gr hI rfl rfl rfl h) ?_
            refine pj_X_of (fun r h => pj_R_to (G, 53, [(0, .ref 6), (1, .ref 4), (2, .int p), (3, .int bk), (4, .int op), (5, .int v5), (6, .int v6)], [.int p, .ref 26, .ref 7], 0, 0) 53 2 (fun _ => rfl) h) ?_
            refine pj_X_of (fun r h => pj_T_il hI rfl rfl (by omega) (by omega) h) ?_
            show pj_X _ _ G 54 [(0, .ref 6), (1, .ref 4), (2, .int p), (3, .int bk), (4, .int op), (5, .int v5), (6, .int v6)] [.int (pj_ai G 26 p.toInt.toNat), .ref 7] _
            obtain ⟨z10, hz10⟩ : ∃ z : Int32, z = pj_ai G 26 p.toInt.toNat := ⟨_, rfl⟩
            rw [← hz10]
            have ez10 : (pj_ai G 26 p.toInt.toNat).toInt = z10.toInt := by rw [hz10]
            have fz10_0 : (0 : Int) ≤ z10.toInt ∧ z10.toInt ≤ 7 ∧ (z10.toInt ≤ 0 ∨ 0 ≤ z10.toInt) := by rw [hz10]; exact hI.2.2.1 26 (6, 0, 7, 0, 0) rfl _ (by show _ < 6; omega)
            refine pj_X_of (fun r h => pj_R_to (G, 63, [(0, .ref 6), (1, .ref 4), (2, .int p), (3, .int bk), (4, .int op), (5, .int v5), (6, .int v6)], [.ref 6, .int v6, .int v5, .int op, .ref 6, .int bk, .int z10, .ref 7], 0, 0) 63 7 (fun _ => rfl) h) ?_
            refine pj_X_of (fun r h => pj_T_gr hI rfl rfl rfl h) ?_
            refine pj_X_of (fun r h => pj_R_to (G, 67, [(0, .ref 6), (1, .ref 4), (2, .int p), (3, .int bk), (4, .int op), (5, .int v5), (6, .int v6)], [.int p, .ref 32, .int v6, .int v5, .int op, .ref 6, .int bk, .int z10, .ref 7], 0, 0) 67 2 (fun _ => rfl) h) ?_
            refine pj_X_of (fun r h => pj_T_il hI rfl rfl (by omega) (by omega) h) ?_
            show pj_X _ _ G 68 [(0, .ref 6), (1, .ref 4), (2, .int p), (3, .int bk), (4, .int op), (5, .int v5), (6, .int v6)] [.int (pj_ai G 32 p.toInt.toNat), .int v6, .int v5, .int op, .ref 6, .int bk, .int z10, .ref 7] _
            obtain ⟨z11, hz11⟩ : ∃ z : Int32, z = pj_ai G 32 p.toInt.toNat := ⟨_, rfl⟩
            rw [← hz11]
            have ez11 : (pj_ai G 32 p.toInt.toNat).toInt = z11.toInt := by rw [hz11]
            refine pj_X_ca (vs := [.ref 6, .int op, .int v5, .int v6, .int z11]) rfl (fun _ => rfl) ⟨Nat.le_of_ble_eq_true rfl, Nat.le_of_ble_eq_true rfl, pj_T_rcv hI rfl⟩ ⟨rfl, rfl⟩ (pj_Y_up (by decide) (ct_111 G hI op v5 v6 z11 ⟨by omega, by omega⟩ ⟨by omega, by omega⟩)) ?_
            rintro _ _ ⟨y12, rfl, rfl, ry12⟩
            show pj_X _ _ G 71 [(0, .ref 6), (1, .ref 4), (2, .int p), (3, .int bk), (4, .int op), (5, .int v5), (6, .int v6)] [.int y12, .int bk, .int z10, .ref 7] _
            refine pj_X_ca (vs := [.ref 7, .int z10, .int bk, .int y12]) rfl (fun _ => rfl) ⟨Nat.le_of_ble_eq_true rfl, Nat.le_of_ble_eq_true rfl, pj_T_rcv hI rfl⟩ ⟨rfl, rfl⟩ (pj_Y_up (by decide) (ct_48_7 G hI z10 bk y12)) ?_
            rintro _ _ ⟨y13, rfl, rfl, ry13⟩
            show pj_X _ _ G 74 [(0, .ref 6), (1, .ref 4), (2, .int p), (3, .int bk), (4, .int op), (5, .int v5), (6, .int v6)] [.int y13] _
            cases b14 : pj_c1 .eq y13 0 with
            | true =>
              have ub14 := pj_u0_eqT b14
              refine pj_X_of (fun r h => pj_R_ifT 89 rfl rfl b14 h) ?_
              refine pj_X_of (fun r h => pj_R_to (G, 92, [(6, .int (v6 + Int32.ofInt 1)), (0, .ref 6), (1, .ref 4), (2, .int p), (3, .int bk), (4, .int op), (5, .int v5)], [], 0, 0) 92 2 (fun _ => rfl) h) ?_
              obtain ⟨z15, hz15⟩ : ∃ z : Int32, z = v6 + Int32.ofInt 1 := ⟨_, rfl⟩
              rw [← hz15]
              have fz15_0 : z15.toInt = v6.toInt + (Int32.ofInt 1).toInt := by rw [hz15]; exact pj_addI (by have := pj_i32 v6; have := pj_i32 (Int32.ofInt 1); omega) (by have := pj_i32 v6; have := pj_i32 (Int32.ofInt 1); omega)
              refine pj_X_of (fun r h => pj_R_to (G, 18, [(6, .int z15), (0, .ref 6), (1, .ref 4), (2, .int p), (3, .int bk), (4, .int op), (5, .int v5)], [], 0, 0) 18 2 (fun _ => rfl) h) ?_
              exact pj_X_sub [(0, .ref 6), (1, .ref 4), (2, .int p), (3, .int bk), (4, .int op), (5, .int v5), (6, .int z15)] (show List.Nodup [0, 1, 2, 3, 4, 5, 6] by decide) ⟨rfl, rfl, rfl, rfl, rfl, rfl, rfl, trivial⟩ (ih.2 G hI hK v5 z15 ⟨by omega, by omega⟩ ⟨by omega, by omega⟩ (by omega))
            | false =>
              have ub14 := pj_u0_eqF b14
              refine pj_X_of (fun r h => pj_R_ifF rfl b14 h) ?_
              refine pj_X_of (fun r h => pj_R_to (G, 84, [(0, .ref 6), (1, .ref 4), (2, .int p), (3, .int bk), (4, .int op), (5, .int v5), (6, .int v6)], [.long v6.toInt64, .long v5.toInt64, .ref 4], 0, 0) 84 6 (fun _ => rfl) h) ?_
              have lc16 : (v5.toInt64).toInt = v5.toInt := Int32.toInt_toInt64 _
              have lc17 : (v6.toInt64).toInt = v6.toInt := Int32.toInt_toInt64 _
              refine pj_X_ca (vs := [.ref 4, .long v5.toInt64, .long v6.toInt64]) rfl (fun _ => rfl) ⟨Nat.le_of_ble_eq_true rfl, Nat.le_of_ble_eq_true rfl, pj_T_rcv hI rfl⟩ ⟨rfl, rfl⟩ (pj_Y_up (by decide) (ct_56x G hI v5.toInt64 v6.toInt64)) ?_
              rintro _ G19 ⟨rfl, iG19, jG19, fy18⟩
              have kG19 : pj_kpt kc_112 G0 G19 := pj_kpt_t hK (pj_kpt_s jG19 rfl)
              show pj_X _ _ G19 87 [(0, .ref 6), (1, .ref 4), (2, .int p), (3, .int bk), (4, .int op), (5, .int v5), (6, .int v6)] [] _
              refine pj_X_of (fun r h => pj_R_to (G19, 88, [(0, .ref 6), (1, .ref 4), (2, .int p), (3, .int bk), (4, .int op), (5, .int v5), (6, .int v6)], [.int (Int32.ofInt 1)], 0, 0) 88 2 (fun _ => rfl) h) ?_
              exact pj_X_rt rfl rfl ⟨_, rfl, iG19, kG19, ⟨by omega, by omega⟩⟩
      · refine pj_X_of (fun r h => pj_T_gi hI rfl rfl h) ?_
        show pj_X _ _ G 27 [(0, .ref 6), (1, .ref 4), (2, .int p), (3, .int bk), (4, .int op), (5, .int v5), (6, .int v6)] [.int (pj_fi G 14 1), .int v6] _
        obtain ⟨y20, hy20⟩ : ∃ z : Int32, z = pj_fi G 14 1 := ⟨_, rfl⟩
        rw [← hy20]
        have ey20 : (pj_fi G 14 1).toInt = y20.toInt := by rw [hy20]
        have ry20 : (0 : Int) ≤ y20.toInt ∧ y20.toInt ≤ 10 := by rw [hy20]; exact hI.2.1 14 1 (0, 10) rfl
        cases b21 : pj_c1 .ge v6 y20 with
        | true =>
          have ub21 := pj_u_geT b21
          refine pj_X_of (fun r h => pj_R_icT 95 rfl rfl b21 h) ?_
          refine pj_X_of (fun r h => pj_R_to (G, 98, [(5, .int (v5 + Int32.ofInt 1)), (0, .ref 6), (1, .ref 4), (2, .int p), (3, .int bk), (4, .int op), (6, .int v6)], [], 0, 0) 98 2 (fun _ => rfl) h) ?_
          obtain ⟨z22, hz22⟩ : ∃ z : Int32, z = v5 + Int32.ofInt 1 := ⟨_, rfl⟩
          rw [← hz22]
          have fz22_0 : z22.toInt = v5.toInt + (Int32.ofInt 1).toInt := by rw [hz22]; exact pj_addI (by have := pj_i32 v5; have := pj_i32 (Int32.ofInt 1); omega) (by have := pj_i32 v5; have := pj_i32 (Int32.ofInt 1); omega)
          refine pj_X_of (fun r h => pj_R_to (G, 3, [(5, .int z22), (0, .ref 6), (1, .ref 4), (2, .int p), (3, .int bk), (4, .int op), (6, .int v6)], [], 0, 0) 3 2 (fun _ => rfl) h) ?_
          exact pj_X_sub [(0, .ref 6), (1, .ref 4), (2, .int p), (3, .int bk), (4, .int op), (5, .int z22)] (show List.Nodup [0, 1, 2, 3, 4, 5] by decide) ⟨rfl, rfl, rfl, rfl, rfl, rfl, trivial⟩ (ih.1 G hI hK z22 ⟨by omega, by omega⟩ (by omega))
        | false =>
          have ub21 := pj_u_geF b21
          refine pj_X_of (fun r h => pj_R_icF rfl b21 h) ?_
          refine pj_X_of (fun r h => pj_R_to (G, 35, [(0, .ref 6), (1, .ref 4), (2, .int p), (3, .int bk), (4, .int op), (5, .int v5), (6, .int v6)], [.int v6, .int v5, .ref 6], 0, 0) 35 4 (fun _ => rfl) h) ?_
          refine pj_X_ca (vs := [.ref 6, .int v5, .int v6]) rfl (fun _ => rfl) ⟨Nat.le_of_ble_eq_true rfl, Nat.le_of_ble_eq_true rfl, pj_T_rcv hI rfl⟩ ⟨rfl, rfl⟩ (pj_Y_up (by decide) (ct_110 G hI v5 v6 ⟨by omega, by omega⟩ ⟨by omega, by omega⟩)) ?_
          rintro _ _ ⟨y23, rfl, rfl, ry23⟩
          show pj_X _ _ G 38 [(0, .ref 6), (1, .ref 4), (2, .int p), (3, .int bk), (4, .int op), (5, .int v5), (6, .int v6)] [.int y23] _
          cases b24 : pj_c1 .eq y23 0 with
          | true =>
            have ub24 := pj_u0_eqT b24
            refine pj_X_of (fun r h => pj_R_ifT 89 rfl rfl b24 h) ?_
            refine pj_X_of (fun r h => pj_R_to (G, 92, [(6, .int (v6 + Int32.ofInt 1)), (0, .ref 6), (1, .ref 4), (2, .int p), (3, .int bk), (4, .int op), (5, .int v5)], [], 0, 0) 92 2 (fun _ => rfl) h) ?_
            obtain ⟨z25, hz25⟩ : ∃ z : Int32, z = v6 + Int32.ofInt 1 := ⟨_, rfl⟩
            rw [← hz25]
            have fz25_0 : z25.toInt = v6.toInt + (Int32.ofInt 1).toInt := by rw [hz25]; exact pj_addI (by have := pj_i32 v6; have := pj_i32 (Int32.ofInt 1); omega) (by have := pj_i32 v6; have := pj_i32 (Int32.ofInt 1); omega)
            refine pj_X_of (fun r h => pj_R_to (G, 18, [(6, .int z25), (0, .ref 6), (1, .ref 4), (2, .int p), (3, .int bk), (4, .int op), (5, .int v5)], [], 0, 0) 18 2 (fun _ => rfl) h) ?_
            exact pj_X_sub [(0, .ref 6), (1, .ref 4), (2, .int p), (3, .int bk), (4, .int op), (5, .int v5), (6, .int z25)] (show List.Nodup [0, 1, 2, 3, 4, 5, 6] by decide) ⟨rfl, rfl, rfl, rfl, rfl, rfl, rfl, trivial⟩ (ih.2 G hI hK v5 z25 ⟨by omega, by omega⟩ ⟨by omega, by omega⟩ (by omega))
          | false =>
            have ub24 := pj_u0_eqF b24
            refine pj_X_of (fun r h => pj_R_ifF rfl b24 h) ?_
            refine pj_X_of (fun r h => pj_R_to (G, 42, [(0, .ref 6), (1, .ref 4), (2, .int p), (3, .int bk), (4, .int op), (5, .int v5), (6, .int v6)], [.ref 6], 0, 0) 42 2 (fun _ => rfl) h) ?_
            refine pj_X_gk hI rfl rfl q3 ?_
            refine pj_X_of (fun r h => pj_R_to (G, 46, [(0, .ref 6), (1, .ref 4), (2, .int p), (3, .int bk), (4, .int op), (5, .int v5), (6, .int v6)], [.ref 6, .ref 14], 0, 0) 46 2 (fun _ => rfl) h) ?_
            refine pj_X_of (fun r h => pj_T_gr hI rfl rfl rfl h) ?_
            refine pj_X_of (fun r h => pj_T_gr hI rfl rfl rfl h) ?_
            refine pj_X_of (fun r h => pj_R_to (G, 53, [(0, .ref 6), (1, .ref 4), (2, .int p), (3, .int bk), (4, .int op), (5, .int v5), (6, .int v6)], [.int p, .ref 26, .ref 14], 0, 0) 53 2 (fun _ => rfl) h) ?_
            refine pj_X_of (fun r h => pj_T_il hI rfl rfl (by omega) (by omega) h) ?_
            show pj_X _ _ G 54 [(0, .ref 6), (1, .ref 4), (2, .int p), (3, .int bk), (4, .int op), (5, .int v5), (6, .int v6)] [.int (pj_ai G 26 p.toInt.toNat), .ref 14] _
            obtain ⟨z26, hz26⟩ : ∃ z : Int32, z = pj_ai G 26 p.toInt.toNat := ⟨_, rfl⟩
            rw [← hz26]
            have ez26 : (pj_ai G 26 p.toInt.toNat).toInt = z26.toInt := by rw [hz26]
            have fz26_0 : (0 : Int) ≤ z26.toInt ∧ z26.toInt ≤ 7 ∧ (z26.toInt ≤ 0 ∨ 0 ≤ z26.toInt) := by rw [hz26]; exact hI.2.2.1 26 (6, 0, 7, 0, 0) rfl _ (by show _ < 6; omega)
            refine pj_X_of (fun r h => pj_R_to (G, 63, [(0, .ref 6), (1, .ref 4), (2, .int p), (3, .int bk), (4, .int op), (5, .int v5), (6, .int v6)], [.ref 6, .int v6, .int v5, .int op, .ref 6, .int bk, .int z26, .ref 14], 0, 0) 63 7 (fun _ => rfl) h) ?_
            refine pj_X_of (fun r h => pj_T_gr hI rfl rfl rfl h) ?_
            refine pj_X_of (fun r h => pj_R_to (G, 67, [(0, .ref 6), (1, .ref 4), (2, .int p), (3, .int bk), (4, .int op), (5, .int v5), (6, .int v6)], [.int p, .ref 32, .int v6, .int v5, .int op, .ref 6, .int bk, .int z26, .ref 14], 0, 0) 67 2 (fun _ => rfl) h) ?_
            refine pj_X_of (fun r h => pj_T_il hI rfl rfl (by omega) (by omega) h) ?_
            show pj_X _ _ G 68 [(0, .ref 6), (1, .ref 4), (2, .int p), (3, .int bk), (4, .int op), (5, .int v5), (6, .int v6)] [.int (pj_ai G 32 p.toInt.toNat), .int v6, .int v5, .int op, .ref 6, .int bk, .int z26, .ref 14] _
            obtain ⟨z27, hz27⟩ : ∃ z : Int32, z = pj_ai G 32 p.toInt.toNat := ⟨_, rfl⟩
            rw [← hz27]
            have ez27 : (pj_ai G 32 p.toInt.toNat).toInt = z27.toInt := by rw [hz27]
            refine pj_X_ca (vs := [.ref 6, .int op, .int v5, .int v6, .int z27]) rfl (fun _ => rfl) ⟨Nat.le_of_ble_eq_true rfl, Nat.le_of_ble_eq_true rfl, pj_T_rcv hI rfl⟩ ⟨rfl, rfl⟩ (pj_Y_up (by decide) (ct_111 G hI op v5 v6 z27 ⟨by omega, by omega⟩ ⟨by omega, by omega⟩)) ?_
            rintro _ _ ⟨y28, rfl, rfl, ry28⟩
            show pj_X _ _ G 71 [(0, .ref 6), (1, .ref 4), (2, .int p), (3, .int bk), (4, .int op), (5, .int v5), (6, .int v6)] [.int y28, .int bk, .int z26, .ref 14] _
            refine pj_X_ca (vs := [.ref 14, .int z26, .int bk, .int y28]) rfl (fun _ => rfl) ⟨Nat.le_of_ble_eq_true rfl, Nat.le_of_ble_eq_true rfl, pj_T_rcv hI rfl⟩ ⟨rfl, rfl⟩ (pj_Y_up (by decide) (ct_48_14 G hI z26 bk y28)) ?_
            rintro _ _ ⟨y29, rfl, rfl, ry29⟩
            show pj_X _ _ G 74 [(0, .ref 6), (1, .ref 4), (2, .int p), (3, .int bk), (4, .int op), (5, .int v5), (6, .int v6)] [.int y29] _
            cases b30 : pj_c1 .eq y29 0 with
            | true =>
              have ub30 := pj_u0_eqT b30
              refine pj_X_of (fun r h => pj_R_ifT 89 rfl rfl b30 h) ?_
              refine pj_X_of (fun r h => pj_R_to (G, 92, [(6, .int (v6 + Int32.ofInt 1)), (0, .ref 6), (1, .ref 4), (2, .int p), (3, .int bk), (4, .int op), (5, .int v5)], [], 0, 0) 92 2 (fun _ => rfl) h) ?_
              obtain ⟨z31, hz31⟩ : ∃ z : Int32, z = v6 + Int32.ofInt 1 := ⟨_, rfl⟩
              rw [← hz31]
              have fz31_0 : z31.toInt = v6.toInt + (Int32.ofInt 1).toInt := by rw [hz31]; exact pj_addI (by have := pj_i32 v6; have := pj_i32 (Int32.ofInt 1); omega) (by have := pj_i32 v6; have := pj_i32 (Int32.ofInt 1); omega)
              refine pj_X_of (fun r h => pj_R_to (G, 18, [(6, .int z31), (0, .ref 6), (1, .ref 4), (2, .int p), (3, .int bk), (4, .int op), (5, .int v5)], [], 0, 0) 18 2 (fun _ => rfl) h) ?_
              exact pj_X_sub [(0, .ref 6), (1, .ref 4), (2, .int p), (3, .int bk), (4, .int op), (5, .int v5), (6, .int z31)] (show List.Nodup [0, 1, 2, 3, 4, 5, 6] by decide) ⟨rfl, rfl, rfl, rfl, rfl, rfl, rfl, trivial⟩ (ih.2 G hI hK v5 z31 ⟨by omega, by omega⟩ ⟨by omega, by omega⟩ (by omega))
            | false =>
              have ub30 := pj_u0_eqF b30
              refine pj_X_of (fun r h => pj_R_ifF rfl b30 h) ?_
              refine pj_X_of (fun r h => pj_R_to (G, 84, [(0, .ref 6), (1, .ref 4), (2, .int p), (3, .int bk), (4, .int op), (5, .int v5), (6, .int v6)], [.long v6.toInt64, .long v5.toInt64, .ref 4], 0, 0) 84 6 (fun _ => rfl) h) ?_
              have lc32 : (v5.toInt64).toInt = v5.toInt := Int32.toInt_toInt64 _
              have lc33 : (v6.toInt64).toInt = v6.toInt := Int32.toInt_toInt64 _
              refine pj_X_ca (vs := [.ref 4, .long v5.toInt64, .long v6.toInt64]) rfl (fun _ => rfl) ⟨Nat.le_of_ble_eq_true rfl, Nat.le_of_ble_eq_true rfl, pj_T_rcv hI rfl⟩ ⟨rfl, rfl⟩ (pj_Y_up (by decide) (ct_56x G hI v5.toInt64 v6.toInt64)) ?_
              rintro _ G35 ⟨rfl, iG35, jG35, fy34⟩
              have kG35 : pj_kpt kc_112 G0 G35 := pj_kpt_t hK (pj_kpt_s jG35 rfl)
              show pj_X _ _ G35 87 [(0, .ref 6), (1, .ref 4), (2, .int p), (3, .int bk), (4, .int op), (5, .int v5), (6, .int v6)] [] _
              refine pj_X_of (fun r h => pj_R_to (G35, 88, [(0, .ref 6), (1, .ref 4), (2, .int p), (3, .int bk), (4, .int op), (5, .int v5), (6, .int v6)], [.int (Int32.ofInt 1)], 0, 0) 88 2 (fun _ => rfl) h) ?_
              exact pj_X_rt rfl rfl ⟨_, rfl, iG35, kG35, ⟨by omega, by omega⟩⟩
theorem ct_112 (G0 : pj_G) (hI : pj_Inv G0) (p : Int32) (bk : Int32) (op : Int32) (rp : (0 : Int) ≤ p.toInt ∧ p.toInt ≤ 5) : pj_Y 5 112 [.ref 6, .ref 4, .int p, .int bk, .int op] G0 (fun v G' => ∃ y : Int32, v = some (.int y) ∧ pj_Inv G' ∧ pj_kpt kc_112 G0 G' ∧ ((0 : Int) ≤ y.toInt ∧ y.toInt ≤ 1)) := by
  have c0_ : (Int32.ofInt 0).toInt = 0 := by decide
  have c1_ : (Int32.ofInt 1).toInt = 1 := by decide
  refine pj_Y_X (M := pj_m112) rfl rfl (Nat.le_of_ble_eq_true rfl) ?_
  have hK : pj_kpt kc_112 G0 G0 := pj_kpt_r _ _
  show pj_X _ _ G0 0 [(0, .ref 6), (1, .ref 4), (2, .int p), (3, .int bk), (4, .int op)] [] _
  refine pj_X_of (fun r h => pj_R_to (G0, 3, [(5, .int (Int32.ofInt 0)), (0, .ref 6), (1, .ref 4), (2, .int p), (3, .int bk), (4, .int op)], [], 0, 0) 3 3 (fun _ => rfl) h) ?_
  exact pj_X_sub [(0, .ref 6), (1, .ref 4), (2, .int p), (3, .int bk), (4, .int op), (5, .int (Int32.ofInt 0))] (show List.Nodup [0, 1, 2, 3, 4, 5] by decide) ⟨rfl, rfl, rfl, rfl, rfl, rfl, trivial⟩ ((lp_ct_112 G0 hI p bk op rp 101).1 G0 hI hK (Int32.ofInt 0) ⟨by omega, by omega⟩ (by omega))
def kc_114 : pj_KT := ([(4, 1)], [4, 5], [])
theorem lp_ct_114 (G0 : pj_G) (hI0 : pj_Inv G0) (p : Int32) (bk : Int32) (op : Int32) (fi : Int32) (tk : Int32) (rp : (0 : Int) ≤ p.toInt ∧ p.toInt ≤ 5) (rfi : (0 : Int) ≤ fi.toInt ∧ fi.toInt ≤ 5) (rtk : (0 : Int) ≤ tk.toInt ∧ tk.toInt ≤ 9) : ∀ mn : Nat, (∀ (G : pj_G) (hI : pj_Inv G) (hK : pj_kpt kc_114 G0 G) (v7 : Int32) (v8 : Int32), ((-2147483648 : Int) ≤ v7.toInt ∧ v7.toInt ≤ 2147483647) → ((0 : Int) ≤ v8.toInt ∧ v8.toInt ≤ 6) → 13 * (6 - v8.toInt) < (mn : Int) → pj_X 4 pj_m114 G 24 [(0, .ref 6), (1, .ref 4), (2, .int p), (3, .int bk), (4, .int op), (5, .int fi), (6, .int tk), (7, .int v7), (8, .int v8)] [] (fun v G' => ∃ y : Int32, v = some (.int y) ∧ pj_Inv G' ∧ pj_kpt kc_114 G0 G' ∧ ((0 : Int) ≤ y.toInt ∧ y.toInt ≤ 1))) ∧ (∀ (G : pj_G) (hI : pj_Inv G) (hK : pj_kpt kc_114 G0 G) (v7 : Int32) (v8 : Int32) (v9 : Int32), ((-2147483648 : Int) ≤ v7.toInt ∧ v7.toInt ≤ 2147483647) → ((0 : Int) ≤ v8.toInt ∧ v8.toInt ≤ 5) → ((0 : Int) ≤ v9.toInt ∧ v9.toInt ≤ 10) → 13 * (6 - v8.toInt) - 1 - v9.toInt < (mn : Int) → pj_X 4 pj_m114 G 39 [(0, .ref 6), (1, .ref 4), (2, .int p), (3, .int bk), (4, .int op), (5, .int fi), (6, .int tk), (7, .int v7), (8, .int v8), (9, .int v9)] [] (fun v G' => ∃ y : Int32, v = some (.int y) ∧ pj_Inv G' ∧ pj_kpt kc_114 G0 G' ∧ ((0 : Int) ≤ y.toInt ∧ y.toInt ≤ 1))) := by
  have c0_ : (Int32.ofInt 0).toInt = 0 := by decide
  have c1_ : (Int32.ofInt 1).toInt = 1 := by decide
  intro mn
  induction mn with
  | zero =>
    refine ⟨?_, ?_⟩
    · intro G hI hK v7 v8 rv7 rv8 hm
      exfalso
      omega
    · intro G hI hK v7 v8 v9 rv7 rv8 rv9 hm
      exfalso
      omega
  | succ mn ih =>
    refine ⟨?_, ?_⟩
    · intro G hI hK v7 v8 rv7 rv8 hm
      refine pj_X_of (fun r h => pj_R_to (G, 27, [(0, .ref 6), (1, .ref 4), (2, .int p), (3, .int bk), (4, .int op), (5, .int fi), (6, .int tk), (7, .int v7), (8, .int v8)], [.ref 6, .int v8], 0, 0) 27 3 (fun _ => rfl) h) ?_
      refine pj_X_of (fun r h => pj_T_gr hI rfl rfl rfl h) ?_
      refine pj_X_of (fun r h => pj_T_gi hI rfl rfl h) ?_
      show pj_X _ _ G 33 [(0, .ref 6), (1, .ref 4), (2, .int p), (3, .int bk), (4, .int op), (5, .int fi), (6, .int tk), (7, .int v7), (8, .int v8)] [.int (pj_fi G 21 0), .int v8] _
      obtain ⟨y1, hy1⟩ : ∃ z : Int32, z = pj_fi G 21 0 := ⟨_, rfl⟩
      rw [← hy1]
      have ey1 : (pj_fi G 21 0).toInt = y1.toInt := by rw [hy1]
      have ry1 : (0 : Int) ≤ y1.toInt ∧ y1.toInt ≤ 6 := by rw [hy1]; exact hI.2.1 21 0 (0, 6) rfl
      cases b2 : pj_c1 .ge v8 y1 with
      | true =>
        have ub2 := pj_u_geT b2
        refine pj_X_of (fun r h => pj_R_icT 143 rfl rfl b2 h) ?_
        refine pj_X_of (fun r h => pj_R_to (G, 144, [(0, .ref 6), (1, .ref 4), (2, .int p), (3, .int bk), (4, .int op), (5, .int fi), (6, .int tk), (7, .int v7), (8, .int v8)], [.int (Int32.ofInt 0)], 0, 0) 144 2 (fun _ => rfl) h) ?_
        exact pj_X_rt rfl rfl ⟨_, rfl, hI, hK, ⟨by omega, by omega⟩⟩
      | false =>
        have ub2 := pj_u_geF b2
        refine pj_X_of (fun r h => pj_R_icF rfl b2 h) ?_
        refine pj_X_of (fun r h => pj_R_to (G, 39, [(9, .int (Int32.ofInt 0)), (0, .ref 6), (1, .ref 4), (2, .int p), (3, .int bk), (4, .int op), (5, .int fi), (6, .int tk), (7, .int v7), (8, .int v8)], [], 0, 0) 39 3 (fun _ => rfl) h) ?_
        exact pj_X_sub [(0, .ref 6), (1, .ref 4), (2, .int p), (3, .int bk), (4, .int op), (5, .int fi), (6, .int tk), (7, .int v7), (8, .int v8), (9, .int (Int32.ofInt 0))] (show List.Nodup [0, 1, 2, 3, 4, 5, 6, 7, 8, 9] by decide) ⟨rfl, rfl, rfl, rfl, rfl, rfl, rfl, rfl, rfl, rfl, trivial⟩ (ih.2 G hI hK v7 v8 (Int32.ofInt 0) (pj_i32 _) ⟨by omega, by omega⟩ ⟨by omega, by omega⟩ (by omega))
    · intro G hI hK v7 v8 v9 rv7 rv8 rv9 hm
      refine pj_X_of (fun r h => pj_R_to (G, 42, [(0, .ref 6), (1, .ref 4), (2, .int p), (3, .int bk), (4, .int op), (5, .int fi), (6, .int tk), (7, .int v7), (8, .int v8), (9, .int v9)], [.ref 6, .int v9], 0, 0) 42 3 (fun _ => rfl) h) ?_
      refine pj_X_gm hI rfl rfl (fun q3 => ?_) (fun q3 => ?_)
      · refine pj_X_of (fun r h => pj_T_gi hI rfl rfl h) ?_
        show pj_X _ _ G 48 [(0, .ref 6), (1, .ref 4), (2, .int p), (3, .int bk), (4, .int op), (5, .int fi), (6, .int tk), (7, .int v7), (8, .int v8), (9, .int v9)] [.int (pj_fi G 7 1), .int v9] _
        obtain ⟨y4, hy4⟩ : ∃ z : Int32, z = pj_fi G 7 1 := ⟨_, rfl⟩
        rw [← hy4]
        have ey4 : (pj_fi G 7 1).toInt = y4.toInt := by rw [hy4]
        have ry4 : (0 : Int) ≤ y4.toInt ∧ y4.toInt ≤ 10 := by rw [hy4]; exact hI.2.1 7 1 (0, 10) rfl
        cases b5 : pj_c1 .ge v9 y4 with
        | true =>
          have ub5 := pj_u_geT b5
          refine pj_X_of (fun r h => pj_R_icT 137 rfl rfl b5 h) ?_
          refine pj_X_of (fun r h => pj_R_to (G, 140, [(8, .int (v8 + Int32.ofInt 1)), (0, .ref 6), (1, .ref 4), (2, .int p), (3, .int bk), (4, .int op), (5, .int fi), (6, .int tk), (7, .int v7), (9, .int v9)], [], 0, 0) 140 2 (fun _ => rfl) h) ?_
          obtain ⟨z6, hz6⟩ : ∃ z : Int32, z = v8 + Int32.ofInt 1 := ⟨_, rfl⟩
          rw [← hz6]
          have fz6_0 : z6.toInt = v8.toInt + (Int32.ofInt 1).toInt := by rw [hz6]; exact pj_addI (by have := pj_i32 v8; have := pj_i32 (Int32.ofInt 1); omega) (by have := pj_i32 v8; have := pj_i32 (Int32.ofInt 1); omega)
          refine pj_X_of (fun r h => pj_R_to (G, 24, [(8, .int z6), (0, .ref 6), (1, .ref 4), (2, .int p), (3, .int bk), (4, .int op), (5, .int fi), (6, .int tk), (7, .int v7), (9, .int v9)], [], 0, 0) 24 2 (fun _ => rfl) h) ?_
          exact pj_X_sub [(0, .ref 6), (1, .ref 4), (2, .int p), (3, .int bk), (4, .int op), (5, .int fi), (6, .int tk), (7, .int v7), (8, .int z6)] (show List.Nodup [0, 1, 2, 3, 4, 5, 6, 7, 8] by decide) ⟨rfl, rfl, rfl, rfl, rfl, rfl, rfl, rfl, rfl, trivial⟩ (ih.1 G hI hK v7 z6 (pj_i32 _) ⟨by omega, by omega⟩ (by omega))
        | false =>
          have ub5 := pj_u_geF b5
          refine pj_X_of (fun r h => pj_R_icF rfl b5 h) ?_
          refine pj_X_of (fun r h => pj_R_to (G, 55, [(0, .ref 6), (1, .ref 4), (2, .int p), (3, .int bk), (4, .int op), (5, .int fi), (6, .int tk), (7, .int v7), (8, .int v8), (9, .int v9)], [.int tk, .int v9], 0, 0) 55 3 (fun _ => rfl) h) ?_
          cases b7 : pj_c1 .eq v9 tk with
          | true =>
            have ub7 := pj_u_eqT b7
            refine pj_X_of (fun r h => pj_R_icT 131 rfl rfl b7 h) ?_
            refine pj_X_of (fun r h => pj_R_to (G, 134, [(9, .int (v9 + Int32.ofInt 1)), (0, .ref 6), (1, .ref 4), (2, .int p), (3, .int bk), (4, .int op), (5, .int fi), (6, .int tk), (7, .int v7), (8, .int v8)], [], 0, 0) 134 2 (fun _ => rfl) h) ?_
            obtain ⟨z8, hz8⟩ : ∃ z : Int32, z = v9 + Int32.ofInt 1 := ⟨_, rfl⟩
            rw [← hz8]
            have fz8_0 : z8.toInt = v9.toInt + (Int32.ofInt 1).toInt := by rw [hz8]; exact pj_addI (by have := pj_i32 v9; have := pj_i32 (Int32.ofInt 1); omega) (by have := pj_i32 v9; have := pj_i32 (Int32.ofInt 1); omega)
            refine pj_X_of (fun r h => pj_R_to (G, 39, [(9, .int z8), (0, .ref 6), (1, .ref 4), (2, .int p), (3, .int bk), (4, .int op), (5, .int fi), (6, .int tk), (7, .int v7), (8, .int v8)], [], 0, 0) 39 2 (fun _ => rfl) h) ?_
            exact pj_X_sub [(0, .ref 6), (1, .ref 4), (2, .int p), (3, .int bk), (4, .int op), (5, .int fi), (6, .int tk), (7, .int v7), (8, .int v8), (9, .int z8)] (show List.Nodup [0, 1, 2, 3, 4, 5, 6, 7, 8, 9] by decide) ⟨rfl, rfl, rfl, rfl, rfl, rfl, rfl, rfl, rfl, rfl, trivial⟩ (ih.2 G hI hK v7 v8 z8 (pj_i32 _) ⟨by omega, by omega⟩ ⟨by omega, by omega⟩ (by omega))
          | false =>
            have ub7 := pj_u_eqF b7
            refine pj_X_of (fun r h => pj_R_icF rfl b7 h) ?_
            refine pj_X_of (fun r h => pj_R_to (G, 63, [(0, .ref 6), (1, .ref 4), (2, .int p), (3, .int bk), (4, .int op), (5, .int fi), (6, .int tk), (7, .int v7), (8, .int v8), (9, .int v9)], [.int v9, .int v8, .ref 6], 0, 0) 63 4 (fun _ => rfl) h) ?_
            refine pj_X_ca (vs := [.ref 6, .int v8, .int v9]) rfl (fun _ => rfl) ⟨Nat.le_of_ble_eq_true rfl, Nat.le_of_ble_eq_true rfl, pj_T_rcv hI rfl⟩ ⟨rfl, rfl⟩ (pj_Y_up (by decide) (ct_110 G hI v8 v9 ⟨by omega, by omega⟩ ⟨by omega, by omega⟩)) ?_
            rintro _ _ ⟨y9, rfl, rfl, ry9⟩
            show pj_X _ _ G 66 [(0, .ref 6), (1, .ref 4), (2, .int p), (3, .int bk), (4, .int op), (5, .int fi), (6, .int tk), (7, .int v7), (8, .int v8), (9, .int v9)] [.int y9] _
            cases b10 : pj_c1 .eq y9 0 with
            | true =>
              have ub10 := pj_u0_eqT b10
              refine pj_X_of (fun r h => pj_R_ifT 131 rfl rfl b10 h) ?_
              refine pj_X_of (fun r h => pj_R_to (G, 134, [(9, .int (v9 + Int32.ofInt 1)), (0, .ref 6), (1, .ref 4), (2, .int p), (3, .int bk), (4, .int op), (5, .int fi), (6, .int tk), (7, .int v7), (8, .int v8)], [], 0, 0) 134 2 (fun _ => rfl) h) ?_
              obtain ⟨z11, hz11⟩ : ∃ z : Int32, z = v9 + Int32.ofInt 1 := ⟨_, rfl⟩
              rw [← hz11]
              have fz11_0 : z11.toInt = v9.toInt + (Int32.ofInt 1).toInt := by rw [hz11]; exact pj_addI (by have := pj_i32 v9; have := pj_i32 (Int32.ofInt 1); omega) (by have := pj_i32 v9; have := pj_i32 (Int32.ofInt 1); omega)
              refine pj_X_of (fun r h => pj_R_to (G, 39, [(9, .int z11), (0, .ref 6), (1, .ref 4), (2, .int p), (3, .int bk), (4, .int op), (5, .int fi), (6, .int tk), (7, .int v7), (8, .int v8)], [], 0, 0) 39 2 (fun _ => rfl) h) ?_
              exact pj_X_sub [(0, .ref 6), (1, .ref 4), (2, .int p), (3, .int bk), (4, .int op), (5, .int fi), (6, .int tk), (7, .int v7), (8, .int v8), (9, .int z11)] (show List.Nodup [0, 1, 2, 3, 4, 5, 6, 7, 8, 9] by decide) ⟨rfl, rfl, rfl, rfl, rfl, rfl, rfl, rfl, rfl, rfl, trivial⟩ (ih.2 G hI hK v7 v8 z11 (pj_i32 _) ⟨by omega, by omega⟩ ⟨by omega, by omega⟩ (by omega))
            | false =>
              have ub10 := pj_u0_eqF b10
              refine pj_X_of (fun r h => pj_R_ifF rfl b10 h) ?_
              refine pj_X_of (fun r h => pj_R_to (G, 70, [(0, .ref 6), (1, .ref 4), (2, .int p), (3, .int bk), (4, .int op), (5, .int fi), (6, .int tk), (7, .int v7), (8, .int v8), (9, .int v9)], [.ref 6], 0, 0) 70 2 (fun _ => rfl) h) ?_
              refine pj_X_gk hI rfl rfl q3 ?_
              refine pj_X_of (fun r h => pj_R_to (G, 74, [(0, .ref 6), (1, .ref 4), (2, .int p), (3, .int bk), (4, .int op), (5, .int fi), (6, .int tk), (7, .int v7), (8, .int v8), (9, .int v9)], [.ref 6, .ref 7], 0, 0) 74 2 (fun _ => rfl) h) ?_
              refine pj_X_of (fun r h => pj_T_gr hI rfl rfl rfl h) ?_
              refine pj_X_of (fun r h => pj_T_gr hI rfl rfl rfl h) ?_
              refine pj_X_of (fun r h => pj_R_to (G, 81, [(0, .ref 6), (1, .ref 4), (2, .int p), (3, .int bk), (4, .int op), (5, .int fi), (6, .int tk), (7, .int v7), (8, .int v8), (9, .int v9)], [.int p, .ref 26, .ref 7], 0, 0) 81 2 (fun _ => rfl) h) ?_
              refine pj_X_of (fun r h => pj_T_il hI rfl rfl (by omega) (by omega) h) ?_
              show pj_X _ _ G 82 [(0, .ref 6), (1, .ref 4), (2, .int p), (3, .int bk), (4, .int op), (5, .int fi), (6, .int tk), (7, .int v7), (8, .int v8), (9, .int v9)] [.int (pj_ai G 26 p.toInt.toNat), .ref 7] _
              obtain ⟨z12, hz12⟩ : ∃ z : Int32, z = pj_ai G 26 p.toInt.toNat := ⟨_, rfl⟩
              rw [← hz12]
              have ez12 : (pj_ai G 26 p.toInt.toNat).toInt = z12.toInt := by rw [hz12]
              have fz12_0 : (0 : Int) ≤ z12.toInt ∧ z12.toInt ≤ 7 ∧ (z12.toInt ≤ 0 ∨ 0 ≤ z12.toInt) := by rw [hz12]; exact hI.2.2.1 26 (6, 0, 7, 0, 0) rfl _ (by show _ < 6; omega)
              refine pj_X_of (fun r h => pj_R_to (G, 91, [(0, .ref 6), (1, .ref 4), (2, .int p), (3, .int bk), (4, .int op), (5, .int fi), (6, .int tk), (7, .int v7), (8, .int v8), (9, .int v9)], [.ref 6, .int v9, .int v8, .int v7, .ref 6, .int bk, .int z12, .ref 7], 0, 0) 91 7 (fun _ => rfl) h) ?_
              refine pj_X_of (fun r h => pj_T_gr hI rfl rfl rfl h) ?_
              refine pj_X_of (fun r h => pj_R_to (G, 95, [(0, .ref 6), (1, .ref 4), (2, .int p), (3, .int bk), (4, .int op), (5, .int fi), (6, .int tk), (7, .int v7), (8, .int v8), (9, .int v9)], [.int p, .ref 32, .int v9, .int v8, .int v7, .ref 6, .int bk, .int z12, .ref 7], 0, 0) 95 2 (fun _ => rfl) h) ?_
              refine pj_X_of (fun r h => pj_T_il hI rfl rfl (by omega) (by omega) h) ?_
              show pj_X _ _ G 96 [(0, .ref 6), (1, .ref 4), (2, .int p), (3, .int bk), (4, .int op), (5, .int fi), (6, .int tk), (7, .int v7), (8, .int v8), (9, .int v9)] [.int (pj_ai G 32 p.toInt.toNat), .int v9, .int v8, .int v7, .ref 6, .int bk, .int z12, .ref 7] _
              obtain ⟨z13, hz13⟩ : ∃ z : Int32, z = pj_ai G 32 p.toInt.toNat := ⟨_, rfl⟩
              rw [← hz13]
              have ez13 : (pj_ai G 32 p.toInt.toNat).toInt = z13.toInt := by rw [hz13]
              refine pj_X_ca (vs := [.ref 6, .int v7, .int v8, .int v9, .int z13]) rfl (fun _ => rfl) ⟨Nat.le_of_ble_eq_true rfl, Nat.le_of_ble_eq_true rfl, pj_T_rcv hI rfl⟩ ⟨rfl, rfl⟩ (pj_Y_up (by decide) (ct_111 G hI v7 v8 v9 z13 ⟨by omega, by omega⟩ ⟨by omega, by omega⟩)) ?_
              rintro _ _ ⟨y14, rfl, rfl, ry14⟩
              show pj_X _ _ G 99 [(0, .ref 6), (1, .ref 4), (2, .int p), (3, .int bk), (4, .int op), (5, .int fi), (6, .int tk), (7, .int v7), (8, .int v8), (9, .int v9)] [.int y14, .int bk, .int z12, .ref 7] _
              refine pj_X_ca (vs := [.ref 7, .int z12, .int bk, .int y14]) rfl (fun _ => rfl) ⟨Nat.le_of_ble_eq_true rfl, Nat.le_of_ble_eq_true rfl, pj_T_rcv hI rfl⟩ ⟨rfl, rfl⟩ (pj_Y_up (by decide) (ct_48_7 G hI z12 bk y14)) ?_
              rintro _ _ ⟨y15, rfl, rfl, ry15⟩
              show pj_X _ _ G 102 [(0, .ref 6), (1, .ref 4), (2, .int p), (3, .int bk), (4, .int op), (5, .int fi), (6, .int tk), (7, .int v7), (8, .int v8), (9, .int v9)] [.int y15] _
              cases b16 : pj_c1 .eq y15 0 with
              | true =>
                have ub16 := pj_u0_eqT b16
                refine pj_X_of (fun r h => pj_R_ifT 131 rfl rfl b16 h) ?_
                refine pj_X_of (fun r h => pj_R_to (G, 134, [(9, .int (v9 + Int32.ofInt 1)), (0, .ref 6), (1, .ref 4), (2, .int p), (3, .int bk), (4, .int op), (5, .int fi), (6, .int tk), (7, .int v7), (8, .int v8)], [], 0, 0) 134 2 (fun _ => rfl) h) ?_
                obtain ⟨z17, hz17⟩ : ∃ z : Int32, z = v9 + Int32.ofInt 1 := ⟨_, rfl⟩
                rw [← hz17]
                have fz17_0 : z17.toInt = v9.toInt + (Int32.ofInt 1).toInt := by rw [hz17]; exact pj_addI (by have := pj_i32 v9; have := pj_i32 (Int32.ofInt 1); omega) (by have := pj_i32 v9; have := pj_i32 (Int32.ofInt 1); omega)
                refine pj_X_of (fun r h => pj_R_to (G, 39, [(9, .int z17), (0, .ref 6), (1, .ref 4), (2, .int p), (3, .int bk), (4, .int op), (5, .int fi), (6, .int tk), (7, .int v7), (8, .int v8)], [], 0, 0) 39 2 (fun _ => rfl) h) ?_
                exact pj_X_sub [(0, .ref 6), (1, .ref 4), (2, .int p), (3, .int bk), (4, .int op), (5, .int fi), (6, .int tk), (7, .int v7), (8, .int v8), (9, .int z17)] (show List.Nodup [0, 1, 2, 3, 4, 5, 6, 7, 8, 9] by decide) ⟨rfl, rfl, rfl, rfl, rfl, rfl, rfl, rfl, rfl, rfl, trivial⟩ (ih.2 G hI hK v7 v8 z17 (pj_i32 _) ⟨by omega, by omega⟩ ⟨by omega, by omega⟩ (by omega))
              | false =>
                have ub16 := pj_u0_eqF b16
                refine pj_X_of (fun r h => pj_R_ifF rfl b16 h) ?_
                refine pj_X_of (fun r h => pj_R_to (G, 112, [(0, .ref 6), (1, .ref 4), (2, .int p), (3, .int bk), (4, .int op), (5, .int fi), (6, .int tk), (7, .int v7), (8, .int v8), (9, .int v9)], [.long tk.toInt64, .long fi.toInt64, .ref 4], 0, 0) 112 6 (fun _ => rfl) h) ?_
                have lc18 : (fi.toInt64).toInt = fi.toInt := Int32.toInt_toInt64 _
                have lc19 : (tk.toInt64).toInt = tk.toInt := Int32.toInt_toInt64 _
                refine pj_X_ca (vs := [.ref 4, .long fi.toInt64, .long tk.toInt64]) rfl (fun _ => rfl) ⟨Nat.le_of_ble_eq_true rfl, Nat.le_of_ble_eq_true rfl, pj_T_rcv hI rfl⟩ ⟨rfl, rfl⟩ (pj_Y_up (by decide) (ct_56x G hI fi.toInt64 tk.toInt64)) ?_
                rintro _ G21 ⟨rfl, iG21, jG21, fy20⟩
                have kG21 : pj_kpt kc_114 G0 G21 := pj_kpt_t hK (pj_kpt_s jG21 rfl)
                show pj_X _ _ G21 115 [(0, .ref 6), (1, .ref 4), (2, .int p), (3, .int bk), (4, .int op), (5, .int fi), (6, .int tk), (7, .int v7), (8, .int v8), (9, .int v9)] [] _
                refine pj_X_of (fun r h => pj_R_to (G21, 119, [(0, .ref 6), (1, .ref 4), (2, .int p), (3, .int bk), (4, .int op), (5, .int fi), (6, .int tk), (7, .int v7), (8, .int v8), (9, .int v9)], [.long v8.toInt64, .ref 4], 0, 0) 119 4 (fun _ => rfl) h) ?_
                have lc22 : (v8.toInt64).toInt = v8.toInt := Int32.toInt_toInt64 _
                refine pj_X_ca (vs := [.ref 4, .long v8.toInt64]) rfl (fun _ => rfl) ⟨Nat.le_of_ble_eq_true rfl, Nat.le_of_ble_eq_true rfl, pj_T_rcv iG21 rfl⟩ ⟨rfl, rfl⟩ (pj_Y_up (by decide) (ct_54x G21 iG21 v8.toInt64)) ?_
                rintro _ G24 ⟨rfl, iG24, jG24, fy23⟩
                have kG24 : pj_kpt kc_114 G0 G24 := pj_kpt_t kG21 (pj_kpt_s jG24 rfl)
                show pj_X _ _ G24 122 [(0, .ref 6), (1, .ref 4), (2, .int p), (3, .int bk), (4, .int op), (5, .int fi), (6, .int tk), (7, .int v7), (8, .int v8), (9, .int v9)] [] _
                refine pj_X_of (fun r h => pj_R_to (G24, 126, [(0, .ref 6), (1, .ref 4), (2, .int p), (3, .int bk), (4, .int op), (5, .int fi), (6, .int tk), (7, .int v7), (8, .int v8), (9, .int v9)], [.long v9.toInt64, .ref 4], 0, 0) 126 4 (fun _ => rfl) h) ?_
                have lc25 : (v9.toInt64).toInt = v9.toInt := Int32.toInt_toInt64 _
                refine pj_X_ca (vs := [.ref 4, .long v9.toInt64]) rfl (fun _ => rfl) ⟨Nat.le_of_ble_eq_true rfl, Nat.le_of_ble_eq_true rfl, pj_T_rcv iG24 rfl⟩ ⟨rfl, rfl⟩ (pj_Y_up (by decide) (ct_54x G24 iG24 v9.toInt64)) ?_
                rintro _ G27 ⟨rfl, iG27, jG27, fy26⟩
                have kG27 : pj_kpt kc_114 G0 G27 := pj_kpt_t kG24 (pj_kpt_s jG27 rfl)
                show pj_X _ _ G27 129 [(0, .ref 6), (1, .ref 4), (2, .int p), (3, .int bk), (4, .int op), (5, .int fi), (6, .int tk), (7, .int v7), (8, .int v8), (9, .int v9)] [] _
                refine pj_X_of (fun r h => pj_R_to (G27, 130, [(0, .ref 6), (1, .ref 4), (2, .int p), (3, .int bk), (4, .int op), (5, .int fi), (6, .int tk), (7, .int v7), (8, .int v8), (9, .int v9)], [.int (Int32.ofInt 1)], 0, 0) 130 2 (fun _ => rfl) h) ?_
                exact pj_X_rt rfl rfl ⟨_, rfl, iG27, kG27, ⟨by omega, by omega⟩⟩
      · refine pj_X_of (fun r h => pj_T_gi hI rfl rfl h) ?_
        show pj_X _ _ G 48 [(0, .ref 6), (1, .ref 4), (2, .int p), (3, .int bk), (4, .int op), (5, .int fi), (6, .int tk), (7, .int v7), (8, .int v8), (9, .int v9)] [.int (pj_fi G 14 1), .int v9] _
        obtain ⟨y28, hy28⟩ : ∃ z : Int32, z = pj_fi G 14 1 := ⟨_, rfl⟩
        rw [← hy28]
        have ey28 : (pj_fi G 14 1).toInt = y28.toInt := by rw [hy28]
        have ry28 : (0 : Int) ≤ y28.toInt ∧ y28.toInt ≤ 10 := by rw [hy28]; exact hI.2.1 14 1 (0, 10) rfl
        cases b29 : pj_c1 .ge v9 y28 with
        | true =>
          have ub29 := pj_u_geT b29
          refine pj_X_of (fun r h => pj_R_icT 137 rfl rfl b29 h) ?_
          refine pj_X_of (fun r h => pj_R_to (G, 140, [(8, .int (v8 + Int32.ofInt 1)), (0, .ref 6), (1, .ref 4), (2, .int p), (3, .int bk), (4, .int op), (5, .int fi), (6, .int tk), (7, .int v7), (9, .int v9)], [], 0, 0) 140 2 (fun _ => rfl) h) ?_
          obtain ⟨z30, hz30⟩ : ∃ z : Int32, z = v8 + Int32.ofInt 1 := ⟨_, rfl⟩
          rw [← hz30]
          have fz30_0 : z30.toInt = v8.toInt + (Int32.ofInt 1).toInt := by rw [hz30]; exact pj_addI (by have := pj_i32 v8; have := pj_i32 (Int32.ofInt 1); omega) (by have := pj_i32 v8; have := pj_i32 (Int32.ofInt 1); omega)
          refine pj_X_of (fun r h => pj_R_to (G, 24, [(8, .int z30), (0, .ref 6), (1, .ref 4), (2, .int p), (3, .int bk), (4, .int op), (5, .int fi), (6, .int tk), (7, .int v7), (9, .int v9)], [], 0, 0) 24 2 (fun _ => rfl) h) ?_
          exact pj_X_sub [(0, .ref 6), (1, .ref 4), (2, .int p), (3, .int bk), (4, .int op), (5, .int fi), (6, .int tk), (7, .int v7), (8, .int z30)] (show List.Nodup [0, 1, 2, 3, 4, 5, 6, 7, 8] by decide) ⟨rfl, rfl, rfl, rfl, rfl, rfl, rfl, rfl, rfl, trivial⟩ (ih.1 G hI hK v7 z30 (pj_i32 _) ⟨by omega, by omega⟩ (by omega))
        | false =>
          have ub29 := pj_u_geF b29
          refine pj_X_of (fun r h => pj_R_icF rfl b29 h) ?_
          refine pj_X_of (fun r h => pj_R_to (G, 55, [(0, .ref 6), (1, .ref 4), (2, .int p), (3, .int bk), (4, .int op), (5, .int fi), (6, .int tk), (7, .int v7), (8, .int v8), (9, .int v9)], [.int tk, .int v9], 0, 0) 55 3 (fun _ => rfl) h) ?_
          cases b31 : pj_c1 .eq v9 tk with
          | true =>
            have ub31 := pj_u_eqT b31
            refine pj_X_of (fun r h => pj_R_icT 131 rfl rfl b31 h) ?_
            refine pj_X_of (fun r h => pj_R_to (G, 134, [(9, .int (v9 + Int32.ofInt 1)), (0, .ref 6), (1, .ref 4), (2, .int p), (3, .int bk), (4, .int op), (5, .int fi), (6, .int tk), (7, .int v7), (8, .int v8)], [], 0, 0) 134 2 (fun _ => rfl) h) ?_
            obtain ⟨z32, hz32⟩ : ∃ z : Int32, z = v9 + Int32.ofInt 1 := ⟨_, rfl⟩
            rw [← hz32]
            have fz32_0 : z32.toInt = v9.toInt + (Int32.ofInt 1).toInt := by rw [hz32]; exact pj_addI (by have := pj_i32 v9; have := pj_i32 (Int32.ofInt 1); omega) (by have := pj_i32 v9; have := pj_i32 (Int32.ofInt 1); omega)
            refine pj_X_of (fun r h => pj_R_to (G, 39, [(9, .int z32), (0, .ref 6), (1, .ref 4), (2, .int p), (3, .int bk), (4, .int op), (5, .int fi), (6, .int tk), (7, .int v7), (8, .int v8)], [], 0, 0) 39 2 (fun _ => rfl) h) ?_
            exact pj_X_sub [(0, .ref 6), (1, .ref 4), (2, .int p), (3, .int bk), (4, .int op), (5, .int fi), (6, .int tk), (7, .int v7), (8, .int v8), (9, .int z32)] (show List.Nodup [0, 1, 2, 3, 4, 5, 6, 7, 8, 9] by decide) ⟨rfl, rfl, rfl, rfl, rfl, rfl, rfl, rfl, rfl, rfl, trivial⟩ (ih.2 G hI hK v7 v8 z32 (pj_i32 _) ⟨by omega, by omega⟩ ⟨by omega, by omega⟩ (by omega))
          | false =>
            have ub31 := pj_u_eqF b31
            refine pj_X_of (fun r h => pj_R_icF rfl b31 h) ?_
            refine pj_X_of (fun r h => pj_R_to (G, 63, [(0, .ref 6), (1, .ref 4), (2, .int p), (3, .int bk), (4, .int op), (5, .int fi), (6, .int tk), (7, .int v7), (8, .int v8), (9, .int v9)], [.int v9, .int v8, .ref 6], 0, 0) 63 4 (fun _ => rfl) h) ?_
            refine pj_X_ca (vs := [.ref 6, .int v8, .int v9]) rfl (fun _ => rfl) ⟨Nat.le_of_ble_eq_true rfl, Nat.le_of_ble_eq_true rfl, pj_T_rcv hI rfl⟩ ⟨rfl, rfl⟩ (pj_Y_up (by decide) (ct_110 G hI v8 v9 ⟨by omega, by omega⟩ ⟨by omega, by omega⟩)) ?_
            rintro _ _ ⟨y33, rfl, rfl, ry33⟩
            show pj_X _ _ G 66 [(0, .ref 6), (1, .ref 4), (2, .int p), (3, .int bk), (4, .int op), (5, .int fi), (6, .int tk), (7, .int v7), (8, .int v8), (9, .int v9)] [.int y33] _
            cases b34 : pj_c1 .eq y33 0 with
            | true =>
              have ub34 := pj_u0_eqT b34
              refine pj_X_of (fun r h => pj_R_ifT 131 rfl rfl b34 h) ?_
              refine pj_X_of (fun r h => pj_R_to (G, 134, [(9, .int (v9 + Int32.ofInt 1)), (0, .ref 6), (1, .ref 4), (2, .int p), (3, .int bk), (4, .int op), (5, .int fi), (6, .int tk), (7, .int v7), (8, .int v8)], [], 0, 0) 134 2 (fun _ => rfl) h) ?_
              obtain ⟨z35, hz35⟩ : ∃ z : Int32, z = v9 + Int32.ofInt 1 := ⟨_, rfl⟩
              rw [← hz35]
              have fz35_0 : z35.toInt = v9.toInt + (Int32.ofInt 1).toInt := by rw [hz35]; exact pj_addI (by have := pj_i32 v9; have := pj_i32 (Int32.ofInt 1); omega) (by have := pj_i32 v9; have := pj_i32 (Int32.ofInt 1); omega)
              refine pj_X_of (fun r h => pj_R_to (G, 39, [(9, .int z35), (0, .ref 6), (1, .ref 4), (2, .int p), (3, .int bk), (4, .int op), (5, .int fi), (6, .int tk), (7, .int v7), (8, .int v8)], [], 0, 0) 39 2 (fun _ => rfl) h) ?_
              exact pj_X_sub [(0, .ref 6), (1, .ref 4), (2, .int p), (3, .int bk), (4, .int op), (5, .int fi), (6, .int tk), (7, .int v7), (8, .int v8), (9, .int z35)] (show List.Nodup [0, 1, 2, 3, 4, 5, 6, 7, 8, 9] by decide) ⟨rfl, rfl, rfl, rfl, rfl, rfl, rfl, rfl, rfl, rfl, trivial⟩ (ih.2 G hI hK v7 v8 z35 (pj_i32 _) ⟨by omega, by omega⟩ ⟨by omega, by omega⟩ (by omega))
            | false =>
              have ub34 := pj_u0_eqF b34
              refine pj_X_of (fun r h => pj_R_ifF rfl b34 h) ?_
              refine pj_X_of (fun r h => pj_R_to (G, 70, [(0, .ref 6), (1, .ref 4), (2, .int p), (3, .int bk), (4, .int op), (5, .int fi), (6, .int tk), (7, .int v7), (8, .int v8), (9, .int v9)], [.ref 6], 0, 0) 70 2 (fun _ => rfl) h) ?_
              refine pj_X_gk hI rfl rfl q3 ?_
              refine pj_X_of (fun r h => pj_R_to (G, 74, [(0, .ref 6), (1, .ref 4), (2, .int p), (3, .int bk), (4, .int op), (5, .int fi), (6, .int tk), (7, .int v7), (8, .int v8), (9, .int v9)], [.ref 6, .ref 14], 0, 0) 74 2 (fun _ => rfl) h) ?_
              refine pj_X_of (fun r h => pj_T_gr hI rfl rfl rfl h) ?_
              refine pj_X_of (fun r h => pj_T_gr hI rfl rfl rfl h) ?_
              refine pj_X_of (fun r h => pj_R_to (G, 81, [(0, .ref 6), (1, .ref 4), (2, .int p), (3, .int bk), (4, .int op), (5, .int fi), (6, .int tk), (7, .int v7), (8, .int v8), (9, .int v9)], [.int p, .ref 26, .ref 14], 0, 0) 81 2 (fun _ => rfl) h) ?_
              refine pj_X_of (fun r h => pj_T_il hI rfl rfl (by omega) (by omega) h) ?_
              show pj_X _ _ G 82 [(0, .ref 6), (1, .ref 4), (2, .int p), (3, .int bk), (4, .int op), (5, .int fi), (6, .int tk), (7, .int v7), (8, .int v8), (9, .int v9)] [.int (pj_ai G 26 p.toInt.toNat), .ref 14] _
              obtain ⟨z36, hz36⟩ : ∃ z : Int32, z = pj_ai G 26 p.toInt.toNat := ⟨_, rfl⟩
              rw [← hz36]
              have ez36 : (pj_ai G 26 p.toInt.toNat).toInt = z36.toInt := by rw [hz36]
              have fz36_0 : (0 : Int) ≤ z36.toInt ∧ z36.toInt ≤ 7 ∧ (z36.toInt ≤ 0 ∨ 0 ≤ z36.toInt) := by rw [hz36]; exact hI.2.2.1 26 (6, 0, 7, 0, 0) rfl _ (by show _ < 6; omega)
              refine pj_X_of (fun r h => pj_R_to (G, 91, [(0, .ref 6), (1, .ref 4), (2, .int p), (3, .int bk), (4, .int op), (5, .int fi), (6, .int tk), (7, .int v7), (8, .int v8), (9, .int v9)], [.ref 6, .int v9, .int v8, .int v7, .ref 6, .int bk, .int z36, .ref 14], 0, 0) 91 7 (fun _ => rfl) h) ?_
              refine pj_X_of (fun r h => pj_T_gr hI rfl rfl rfl h) ?_
              refine pj_X_of (fun r h => pj_R_to (G, 95, [(0, .ref 6), (1, .ref 4), (2, .int p), (3, .int bk), (4, .int op), (5, .int fi), (6, .int tk), (7, .int v7), (8, .int v8), (9, .int v9)], [.int p, .ref 32, .int v9, .int v8, .int v7, .ref 6, .int bk, .int z36, .ref 14], 0, 0) 95 2 (fun _ => rfl) h) ?_
              refine pj_X_of (fun r h => pj_T_il hI rfl rfl (by omega) (by omega) h) ?_
              show pj_X _ _ G 96 [(0, .ref 6), (1, .ref 4), (2, .int p), (3, .int bk), (4, .int op), (5, .int fi), (6, .int tk), (7, .int v7), (8, .int v8), (9, .int v9)] [.int (pj_ai G 32 p.toInt.toNat), .int v9, .int v8, .int v7, .ref 6, .int bk, .int z36, .ref 14] _
              obtain ⟨z37, hz37⟩ : ∃ z : Int32, z = pj_ai G 32 p.toInt.toNat := ⟨_, rfl⟩
              rw [← hz37]
              have ez37 : (pj_ai G 32 p.toInt.toNat).toInt = z37.toInt := by rw [hz37]
              refine pj_X_ca (vs := [.ref 6, .int v7, .int v8, .int v9, .int z37]) rfl (fun _ => rfl) ⟨Nat.le_of_ble_eq_true rfl, Nat.le_of_ble_eq_true rfl, pj_T_rcv hI rfl⟩ ⟨rfl, rfl⟩ (pj_Y_up (by decide) (ct_111 G hI v7 v8 v9 z37 ⟨by omega, by omega⟩ ⟨by omega, by omega⟩)) ?_
              rintro _ _ ⟨y38, rfl, rfl, ry38⟩
              show pj_X _ _ G 99 [(0, .ref 6), (1, .ref 4), (2, .int p), (3, .int bk), (4, .int op), (5, .int fi), (6, .int tk), (7, .int v7), (8, .int v8), (9, .int v9)] [.int y38, .int bk, .int z36, .ref 14] _
              refine pj_X_ca (vs := [.ref 14, .int z36, .int bk, .int y38]) rfl (fun _ => rfl) ⟨Nat.le_of_ble_eq_true rfl, Nat.le_of_ble_eq_true rfl, pj_T_rcv hI rfl⟩ ⟨rfl, rfl⟩ (pj_Y_up (by decide) (ct_48_14 G hI z36 bk y38)) ?_
              rintro _ _ ⟨y39, rfl, rfl, ry39⟩
              show pj_X _ _ G 102 [(0, .ref 6), (1, .ref 4), (2, .int p), (3, .int bk), (4, .int op), (5, .int fi), (6, .int tk), (7, .int v7), (8, .int v8), (9, .int v9)] [.int y39] _
              cases b40 : pj_c1 .eq y39 0 with
              | true =>
                have ub40 := pj_u0_eqT b40
                refine pj_X_of (fun r h => pj_R_ifT 131 rfl rfl b40 h) ?_
                refine pj_X_of (fun r h => pj_R_to (G, 134, [(9, .int (v9 + Int32.ofInt 1)), (0, .ref 6), (1, .ref 4), (2, .int p), (3, .int bk), (4, .int op), (5, .int fi), (6, .int tk), (7, .int v7), (8, .int v8)], [], 0, 0) 134 2 (fun _ => rfl) h) ?_
                obtain ⟨z41, hz41⟩ : ∃ z : Int32, z = v9 + Int32.ofInt 1 := ⟨_, rfl⟩
                rw [← hz41]
                have fz41_0 : z41.toInt = v9.toInt + (Int32.ofInt 1).toInt := by rw [hz41]; exact pj_addI (by have := pj_i32 v9; have := pj_i32 (Int32.ofInt 1); omega) (by have := pj_i32 v9; have := pj_i32 (Int32.ofInt 1); omega)
                refine pj_X_of (fun r h => pj_R_to (G, 39, [(9, .int z41), (0, .ref 6), (1, .ref 4), (2, .int p), (3, .int bk), (4, .int op), (5, .int fi), (6, .int tk), (7, .int v7), (8, .int v8)], [], 0, 0) 39 2 (fun _ => rfl) h) ?_
                exact pj_X_sub [(0, .ref 6), (1, .ref 4), (2, .int p), (3, .int bk), (4, .int op), (5, .int fi), (6, .int tk), (7, .int v7), (8, .int v8), (9, .int z41)] (show List.Nodup [0, 1, 2, 3, 4, 5, 6, 7, 8, 9] by decide) ⟨rfl, rfl, rfl, rfl, rfl, rfl, rfl, rfl, rfl, rfl, trivial⟩ (ih.2 G hI hK v7 v8 z41 (pj_i32 _) ⟨by omega, by omega⟩ ⟨by omega, by omega⟩ (by omega))
              | false =>
                have ub40 := pj_u0_eqF b40
                refine pj_X_of (fun r h => pj_R_ifF rfl b40 h) ?_
                refine pj_X_of (fun r h => pj_R_to (G, 112, [(0, .ref 6), (1, .ref 4), (2, .int p), (3, .int bk), (4, .int op), (5, .int fi), (6, .int tk), (7, .int v7), (8, .int v8), (9, .int v9)], [.long tk.toInt64, .long fi.toInt64, .ref 4], 0, 0) 112 6 (fun _ => rfl) h) ?_
                have lc42 : (fi.toInt64).toInt = fi.toInt := Int32.toInt_toInt64 _
                have lc43 : (tk.toInt64).toInt = tk.toInt := Int32.toInt_toInt64 _
                refine pj_X_ca (vs := [.ref 4, .long fi.toInt64, .long tk.toInt64]) rfl (fun _ => rfl) ⟨Nat.le_of_ble_eq_true rfl, Nat.le_of_ble_eq_true rfl, pj_T_rcv hI rfl⟩ ⟨rfl, rfl⟩ (pj_Y_up (by decide) (ct_56x G hI fi.toInt64 tk.toInt64)) ?_
                rintro _ G45 ⟨rfl, iG45, jG45, fy44⟩
                have kG45 : pj_kpt kc_114 G0 G45 := pj_kpt_t hK (pj_kpt_s jG45 rfl)
                show pj_X _ _ G45 115 [(0, .ref 6), (1, .ref 4), (2, .int p), (3, .int bk), (4, .int op), (5, .int fi), (6, .int tk), (7, .int v7), (8, .int v8), (9, .int v9)] [] _
                refine pj_X_of (fun r h => pj_R_to (G45, 119, [(0, .ref 6), (1, .ref 4), (2, .int p), (3, .int bk), (4, .int op), (5, .int fi), (6, .int tk), (7, .int v7), (8, .int v8), (9, .int v9)], [.long v8.toInt64, .ref 4], 0, 0) 119 4 (fun _ => rfl) h) ?_
                have lc46 : (v8.toInt64).toInt = v8.toInt := Int32.toInt_toInt64 _
                refine pj_X_ca (vs := [.ref 4, .long v8.toInt64]) rfl (fun _ => rfl) ⟨Nat.le_of_ble_eq_true rfl, Nat.le_of_ble_eq_true rfl, pj_T_rcv iG45 rfl⟩ ⟨rfl, rfl⟩ (pj_Y_up (by decide) (ct_54x G45 iG45 v8.toInt64)) ?_
                rintro _ G48 ⟨rfl, iG48, jG48, fy47⟩
                have kG48 : pj_kpt kc_114 G0 G48 := pj_kpt_t kG45 (pj_kpt_s jG48 rfl)
                show pj_X _ _ G48 122 [(0, .ref 6), (1, .ref 4), (2, .int p), (3, .int bk), (4, .int op), (5, .int fi), (6, .int tk), (7, .int v7), (8, .int v8), (9, .int v9)] [] _
                refine pj_X_of (fun r h => pj_R_to (G48, 126, [(0, .ref 6), (1, .ref 4), (2, .int p), (3, .int bk), (4, .int op), (5, .int fi), (6, .int tk), (7, .int v7), (8, .int v8), (9, .int v9)], [.long v9.toInt64, .ref 4], 0, 0) 126 4 (fun _ => rfl) h) ?_
                have lc49 : (v9.toInt64).toInt = v9.toInt := Int32.toInt_toInt64 _
                refine pj_X_ca (vs := [.ref 4, .long v9.toInt64]) rfl (fun _ => rfl) ⟨Nat.le_of_ble_eq_true rfl, Nat.le_of_ble_eq_true rfl, pj_T_rcv iG48 rfl⟩ ⟨rfl, rfl⟩ (pj_Y_up (by decide) (ct_54x G48 iG48 v9.toInt64)) ?_
                rintro _ G51 ⟨rfl, iG51, jG51, fy50⟩
                have kG51 : pj_kpt kc_114 G0 G51 := pj_kpt_t kG48 (pj_kpt_s jG51 rfl)
                show pj_X _ _ G51 129 [(0, .ref 6), (1, .ref 4), (2, .int p), (3, .int bk), (4, .int op), (5, .int fi), (6, .int tk), (7, .int v7), (8, .int v8), (9, .int v9)] [] _
                refine pj_X_of (fun r h => pj_R_to (G51, 130, [(0, .ref 6), (1, .ref 4), (2, .int p), (3, .int bk), (4, .int op), (5, .int fi), (6, .int tk), (7, .int v7), (8, .int v8), (9, .int v9)], [.int (Int32.ofInt 1)], 0, 0) 130 2 (fun _ => rfl) h) ?_
                exact pj_X_rt rfl rfl ⟨_, rfl, iG51, kG51, ⟨by omega, by omega⟩⟩
theorem ct_114 (G0 : pj_G) (hI : pj_Inv G0) (p : Int32) (bk : Int32) (op : Int32) (fi : Int32) (tk : Int32) (rp : (0 : Int) ≤ p.toInt ∧ p.toInt ≤ 5) (rfi : (0 : Int) ≤ fi.toInt ∧ fi.toInt ≤ 5) (rtk : (0 : Int) ≤ tk.toInt ∧ tk.toInt ≤ 9) : pj_Y 5 114 [.ref 6, .ref 4, .int p, .int bk, .int op, .int fi, .int tk] G0 (fun v G' => ∃ y : Int32, v = some (.int y) ∧ pj_Inv G' ∧ pj_kpt kc_114 G0 G' ∧ ((0 : Int) ≤ y.toInt ∧ y.toInt ≤ 1)) := by
  have c0_ : (Int32.ofInt 0).toInt = 0 := by decide
  have c1_ : (Int32.ofInt 1).toInt = 1 := by decide
  refine pj_Y_X (M := pj_m114) rfl rfl (Nat.le_of_ble_eq_true rfl) ?_
  have hK : pj_kpt kc_114 G0 G0 := pj_kpt_r _ _
  show pj_X _ _ G0 0 [(0, .ref 6), (1, .ref 4), (2, .int p), (3, .int bk), (4, .int op), (5, .int fi), (6, .int tk)] [] _
  refine pj_X_of (fun r h => pj_R_to (G0, 8, [(0, .ref 6), (1, .ref 4), (2, .int p), (3, .int bk), (4, .int op), (5, .int fi), (6, .int tk)], [.ref 6, .int tk, .int fi, .int op, .ref 6], 0, 0) 8 6 (fun _ => rfl) h) ?_
  refine pj_X_of (fun r h => pj_T_gr hI rfl rfl rfl h) ?_
  refine pj_X_of (fun r h => pj_R_to (G0, 12, [(0, .ref 6), (1, .ref 4), (2, .int p), (3, .int bk), (4, .int op), (5, .int fi), (6, .int tk)], [.int p, .ref 32, .int tk, .int fi, .int op, .ref 6], 0, 0) 12 2 (fun _ => rfl) h) ?_
  refine pj_X_of (fun r h => pj_T_il hI rfl rfl (by omega) (by omega) h) ?_
  show pj_X _ _ G0 13 [(0, .ref 6), (1, .ref 4), (2, .int p), (3, .int bk), (4, .int op), (5, .int fi), (6, .int tk)] [.int (pj_ai G0 32 p.toInt.toNat), .int tk, .int fi, .int op, .ref 6] _
  obtain ⟨z52, hz52⟩ : ∃ z : Int32, z = pj_ai G0 32 p.toInt.toNat := ⟨_, rfl⟩
  rw [← hz52]
  have ez52 : (pj_ai G0 32 p.toInt.toNat).toInt = z52.toInt := by rw [hz52]
  refine pj_X_ca (vs := [.ref 6, .int op, .int fi, .int tk, .int z52]) rfl (fun _ => rfl) ⟨Nat.le_of_ble_eq_true rfl, Nat.le_of_ble_eq_true rfl, pj_T_rcv hI rfl⟩ ⟨rfl, rfl⟩ (pj_Y_up (by decide) (ct_111 G0 hI op fi tk z52 ⟨by omega, by omega⟩ ⟨by omega, by omega⟩)) ?_
  rintro _ _ ⟨y53, rfl, rfl, ry53⟩
  show pj_X _ _ G0 16 [(0, .ref 6), (1, .ref 4), (2, .int p), (3, .int bk), (4, .int op), (5, .int fi), (6, .int tk)] [.int y53] _
  refine pj_X_of (fun r h => pj_R_to (G0, 22, [(7, .int y53), (0, .ref 6), (1, .ref 4), (2, .int p), (3, .int bk), (4, .int op), (5, .int fi), (6, .int tk)], [.int (fi + (Int32.ofInt 1))], 0, 0) 22 5 (fun _ => rfl) h) ?_
  obtain ⟨z54, hz54⟩ : ∃ z : Int32, z = fi + (Int32.ofInt 1) := ⟨_, rfl⟩
  rw [← hz54]
  have fz54_0 : z54.toInt = fi.toInt + (Int32.ofInt 1).toInt := by rw [hz54]; exact pj_addI (by have := pj_i32 fi; have := pj_i32 (Int32.ofInt 1); omega) (by have := pj_i32 fi; have := pj_i32 (Int32.ofInt 1); omega)
  refine pj_X_of (fun r h => pj_R_to (G0, 24, [(8, .int z54), (7, .int y53), (0, .ref 6), (1, .ref 4), (2, .int p), (3, .int bk), (4, .int op), (5, .int fi), (6, .int tk)], [], 0, 0) 24 2 (fun _ => rfl) h) ?_
  exact pj_X_sub [(0, .ref 6), (1, .ref 4), (2, .int p), (3, .int bk), (4, .int op), (5, .int fi), (6, .int tk), (7, .int y53), (8, .int z54)] (show List.Nodup [0, 1, 2, 3, 4, 5, 6, 7, 8] by decide) ⟨rfl, rfl, rfl, rfl, rfl, rfl, rfl, rfl, rfl, trivial⟩ ((lp_ct_114 G0 hI p bk op fi tk rp rfi rtk 101).1 G0 hI hK y53 z54 (pj_i32 _) ⟨by omega, by omega⟩ (by omega))
def kc_113 : pj_KT := ([(4, 1)], [4, 5], [])
theorem lp_ct_113 (G0 : pj_G) (hI0 : pj_Inv G0) (p : Int32) (bk : Int32) (op : Int32) (rp : (0 : Int) ≤ p.toInt ∧ p.toInt ≤ 5) : ∀ mn : Nat, (∀ (G : pj_G) (hI : pj_Inv G) (hK : pj_kpt kc_113 G0 G) (v5 : Int32), ((0 : Int) ≤ v5.toInt ∧ v5.toInt ≤ 6) → 13 * (6 - v5.toInt) < (mn : Int) → pj_X 5 pj_m113 G 3 [(0, .ref 6), (1, .ref 4), (2, .int p), (3, .int bk), (4, .int op), (5, .int v5)] [] (fun v G' => ∃ y : Int32, v = some (.int y) ∧ pj_Inv G' ∧ pj_kpt kc_113 G0 G' ∧ ((0 : Int) ≤ y.toInt ∧ y.toInt ≤ 1))) ∧ (∀ (G : pj_G) (hI : pj_Inv G) (hK : pj_kpt kc_113 G0 G) (v5 : Int32) (v6 : Int32), ((0 : Int) ≤ v5.toInt ∧ v5.toInt ≤ 5) → ((0 : Int) ≤ v6.toInt ∧ v6.toInt ≤ 10) → 13 * (6 - v5.toInt) - 1 - v6.toInt < (mn : Int) → pj_X 5 pj_m113 G 18 [(0, .ref 6), (1, .ref 4), (2, .int p), (3, .int bk), (4, .int op), (5, .int v5), (6, .int v6)] [] (fun v G' => ∃ y : Int32, v = some (.int y) ∧ pj_Inv G' ∧ pj_kpt kc_113 G0 G' ∧ ((0 : Int) ≤ y.toInt ∧ y.toInt ≤ 1))) := by
  have c0_ : (Int32.ofInt 0).toInt = 0 := by decide
  have c1_ : (Int32.ofInt 1).toInt = 1 := by decide
  intro mn
  induction mn with
  | zero =>
    refine ⟨?_, ?_⟩
    · intro G hI hK v5 rv5 hm
      exfalso
      omega
    · intro G hI hK v5 v6 rv5 rv6 hm
      exfalso
      omega
  | succ mn ih =>
    refine ⟨?_, ?_⟩
    · intro G hI hK v5 rv5 hm
      refine pj_X_of (fun r h => pj_R_to (G, 6, [(0, .ref 6), (1, .ref 4), (2, .int p), (3, .int bk), (4, .int op), (5, .int v5)], [.ref 6, .int v5], 0, 0) 6 3 (fun _ => rfl) h) ?_
      refine pj_X_of (fun r h => pj_T_gr hI rfl rfl rfl h) ?_
      refine pj_X_of (fun r h => pj_T_gi hI rfl rfl h) ?_
      show pj_X _ _ G 12 [(0, .ref 6), (1, .ref 4), (2, .int p), (3, .int bk), (4, .int op), (5, .int v5)] [.int (pj_fi G 21 0), .int v5] _
      obtain ⟨y1, hy1⟩ : ∃ z : Int32, z = pj_fi G 21 0 := ⟨_, rfl⟩
      rw [← hy1]
      have ey1 : (pj_fi G 21 0).toInt = y1.toInt := by rw [hy1]
      have ry1 : (0 : Int) ≤ y1.toInt ∧ y1.toInt ≤ 6 := by rw [hy1]; exact hI.2.1 21 0 (0, 6) rfl
      cases b2 : pj_c1 .ge v5 y1 with
      | true =>
        have ub2 := pj_u_geT b2
        refine pj_X_of (fun r h => pj_R_icT 71 rfl rfl b2 h) ?_
        refine pj_X_of (fun r h => pj_R_to (G, 72, [(0, .ref 6), (1, .ref 4), (2, .int p), (3, .int bk), (4, .int op), (5, .int v5)], [.int (Int32.ofInt 0)], 0, 0) 72 2 (fun _ => rfl) h) ?_
        exact pj_X_rt rfl rfl ⟨_, rfl, hI, hK, ⟨by omega, by omega⟩⟩
      | false =>
        have ub2 := pj_u_geF b2
        refine pj_X_of (fun r h => pj_R_icF rfl b2 h) ?_
        refine pj_X_of (fun r h => pj_R_to (G, 18, [(6, .int (Int32.ofInt 0)), (0, .ref 6), (1, .ref 4), (2, .int p), (3, .int bk), (4, .int op), (5, .int v5)], [], 0, 0) 18 3 (fun _ => rfl) h) ?_
        exact pj_X_sub [(0, .ref 6), (1, .ref 4), (2, .int p), (3, .int bk), (4, .int op), (5, .int v5), (6, .int (Int32.ofInt 0))] (show List.Nodup [0, 1, 2, 3, 4, 5, 6] by decide) ⟨rfl, rfl, rfl, rfl, rfl, rfl, rfl, trivial⟩ (ih.2 G hI hK v5 (Int32.ofInt 0) ⟨by omega, by omega⟩ ⟨by omega, by omega⟩ (by omega))
    · intro G hI hK v5 v6 rv5 rv6 hm
      refine pj_X_of (fun r h => pj_R_to (G, 21, [(0, .ref 6), (1, .ref 4), (2, .int p), (3, .int bk), (4, .int op), (5, .int v5), (6, .int v6)], [.ref 6, .int v6], 0, 0) 21 3 (fun _ => rfl) h) ?_
      refine pj_X_gm hI rfl rfl (fun q3 => ?_) (fun q3 => ?_)
      · refine pj_X_of (fun r h => pj_T_gi hI rfl rfl h) ?_
        show pj_X _ _ G 27 [(0, .ref 6), (1, .ref 4), (2, .int p), (3, .int bk), (4, .int op), (5, .int v5), (6, .int v6)] [.int (pj_fi G 7 1), .int v6] _
        obtain ⟨y4, hy4⟩ : ∃ z : Int32, z = pj_fi G 7 1 := ⟨_, rfl⟩
        rw [← hy4]
        have ey4 : (pj_fi G 7 1).toInt = y4.toInt := by rw [hy4]
        have ry4 : (0 : Int) ≤ y4.toInt ∧ y4.toInt ≤ 10 := by rw [hy4]; exact hI.2.1 7 1 (0, 10) rfl
        cases b5 : pj_c1 .ge v6 y4 with
        | true =>
          have ub5 := pj_u_geT b5
          refine pj_X_of (fun r h => pj_R_icT 65 rfl rfl b5 h) ?_
          refine pj_X_of (fun r h => pj_R_to (G, 68, [(5, .int (v5 + Int32.ofInt 1)), (0, .ref 6), (1, .ref 4), (2, .int p), (3, .int bk), (4, .int op), (6, .int v6)], [], 0, 0) 68 2 (fun _ => rfl) h) ?_
          obtain ⟨z6, hz6⟩ : ∃ z : Int32, z = v5 + Int32.ofInt 1 := ⟨_, rfl⟩
          rw [← hz6]
          have fz6_0 : z6.toInt = v5.toInt + (Int32.ofInt 1).toInt := by rw [hz6]; exact pj_addI (by have := pj_i32 v5; have := pj_i32 (Int32.ofInt 1); omega) (by have := pj_i32 v5; have := pj_i32 (Int32.ofInt 1); omega)
          refine pj_X_of (fun r h => pj_R_to (G, 3, [(5, .int z6), (0, .ref 6), (1, .ref 4), (2, .int p), (3, .int bk), (4, .int op), (6, .int v6)], [], 0, 0) 3 2 (fun _ => rfl) h) ?_
          exact pj_X_sub [(0, .ref 6), (1, .ref 4), (2, .int p), (3, .int bk), (4, .int op), (5, .int z6)] (show List.Nodup [0, 1, 2, 3, 4, 5] by decide) ⟨rfl, rfl, rfl, rfl, rfl, rfl, trivial⟩ (ih.1 G hI hK z6 ⟨by omega, by omega⟩ (by omega))
        | false =>
          have ub5 := pj_u_geF b5
          refine pj_X_of (fun r h => pj_R_icF rfl b5 h) ?_
          refine pj_X_of (fun r h => pj_R_to (G, 35, [(0, .ref 6), (1, .ref 4), (2, .int p), (3, .int bk), (4, .int op), (5, .int v5), (6, .int v6)], [.int v6, .int v5, .ref 6], 0, 0) 35 4 (fun _ => rfl) h) ?_
          refine pj_X_ca (vs := [.ref 6, .int v5, .int v6]) rfl (fun _ => rfl) ⟨Nat.le_of_ble_eq_true rfl, Nat.le_of_ble_eq_true rfl, pj_T_rcv hI rfl⟩ ⟨rfl, rfl⟩ (pj_Y_up (by decide) (ct_110 G hI v5 v6 ⟨by omega, by omega⟩ ⟨by omega, by omega⟩)) ?_
          rintro _ _ ⟨y7, rfl, rfl, ry7⟩
          show pj_X _ _ G 38 [(0, .ref 6), (1, .ref 4), (2, .int p), (3, .int bk), (4, .int op), (5, .int v5), (6, .int v6)] [.int y7] _
          cases b8 : pj_c1 .eq y7 0 with
          | true =>
            have ub8 := pj_u0_eqT b8
            refine pj_X_of (fun r h => pj_R_ifT 59 rfl rfl b8 h) ?_
            refine pj_X_of (fun r h => pj_R_to (G, 62, [(6, .int (v6 + Int32.ofInt 1)), (0, .ref 6), (1, .ref 4), (2, .int p), (3, .int bk), (4, .int op), (5, .int v5)], [], 0, 0) 62 2 (fun _ => rfl) h) ?_
            obtain ⟨z9, hz9⟩ : ∃ z : Int32, z = v6 + Int32.ofInt 1 := ⟨_, rfl⟩
            rw [← hz9]
            have fz9_0 : z9.toInt = v6.toInt + (Int32.ofInt 1).toInt := by rw [hz9]; exact pj_addI (by have := pj_i32 v6; have := pj_i32 (Int32.ofInt 1); omega) (by have := pj_i32 v6; have := pj_i32 (Int32.ofInt 1); omega)
            refine pj_X_of (fun r h => pj_R_to (G, 18, [(6, .int z9), (0, .ref 6), (1, .ref 4), (2, .int p), (3, .int bk), (4, .int op), (5, .int v5)], [], 0, 0) 18 2 (fun _ => rfl) h) ?_
            exact pj_X_sub [(0, .ref 6), (1, .ref 4), (2, .int p), (3, .int bk), (4, .int op), (5, .int v5), (6, .int z9)] (show List.Nodup [0, 1, 2, 3, 4, 5, 6] by decide) ⟨rfl, rfl, rfl, rfl, rfl, rfl, rfl, trivial⟩ (ih.2 G hI hK v5 z9 ⟨by omega, by omega⟩ ⟨by omega, by omega⟩ (by omega))
          | false =>
            have ub8 := pj_u0_eqF b8
            refine pj_X_of (fun r h => pj_R_ifF rfl b8 h) ?_
            refine pj_X_of (fun r h => pj_R_to (G, 51, [(0, .ref 6), (1, .ref 4), (2, .int p), (3, .int bk), (4, .int op), (5, .int v5), (6, .int v6)], [.int v6, .int v5, .int op, .int bk, .int p, .ref 4, .ref 6], 0, 0) 51 8 (fun _ => rfl) h) ?_
            refine pj_X_ca (vs := [.ref 6, .ref 4, .int p, .int bk, .int op, .int v5, .int v6]) rfl (fun _ => rfl) ⟨Nat.le_of_ble_eq_true rfl, Nat.le_of_ble_eq_true rfl, pj_T_rcv hI rfl⟩ ⟨rfl, rfl⟩ (pj_Y_up (by decide) (ct_114 G hI p bk op v5 v6 ⟨by omega, by omega⟩ ⟨by omega, by omega⟩ ⟨by omega, by omega⟩)) ?_
            rintro _ G11 ⟨y10, rfl, iG11, jG11, ry10⟩
            have kG11 : pj_kpt kc_113 G0 G11 := pj_kpt_t hK (pj_kpt_s jG11 rfl)
            show pj_X _ _ G11 54 [(0, .ref 6), (1, .ref 4), (2, .int p), (3, .int bk), (4, .int op), (5, .int v5), (6, .int v6)] [.int y10] _
            cases b12 : pj_c1 .eq y10 0 with
            | true =>
              have ub12 := pj_u0_eqT b12
              refine pj_X_of (fun r h => pj_R_ifT 59 rfl rfl b12 h) ?_
              refine pj_X_of (fun r h => pj_R_to (G11, 62, [(6, .int (v6 + Int32.ofInt 1)), (0, .ref 6), (1, .ref 4), (2, .int p), (3, .int bk), (4, .int op), (5, .int v5)], [], 0, 0) 62 2 (fun _ => rfl) h) ?_
              obtain ⟨z13, hz13⟩ : ∃ z : Int32, z = v6 + Int32.ofInt 1 := ⟨_, rfl⟩
              rw [← hz13]
              have fz13_0 : z13.toInt = v6.toInt + (Int32.ofInt 1).toInt := by rw [hz13]; exact pj_addI (by have := pj_i32 v6; have := pj_i32 (Int32.ofInt 1); omega) (by have := pj_i32 v6; have := pj_i32 (Int32.ofInt 1); omega)
              refine pj_X_of (fun r h => pj_R_to (G11, 18, [(6, .int z13), (0, .ref 6), (1, .ref 4), (2, .int p), (3, .int bk), (4, .int op), (5, .int v5)], [], 0, 0) 18 2 (fun _ => rfl) h) ?_
              exact pj_X_sub [(0, .ref 6), (1, .ref 4), (2, .int p), (3, .int bk), (4, .int op), (5, .int v5), (6, .int z13)] (show List.Nodup [0, 1, 2, 3, 4, 5, 6] by decide) ⟨rfl, rfl, rfl, rfl, rfl, rfl, rfl, trivial⟩ (ih.2 G11 iG11 kG11 v5 z13 ⟨by omega, by omega⟩ ⟨by omega, by omega⟩ (by omega))
            | false =>
              have ub12 := pj_u0_eqF b12
              refine pj_X_of (fun r h => pj_R_ifF rfl b12 h) ?_
              refine pj_X_of (fun r h => pj_R_to (G11, 58, [(0, .ref 6), (1, .ref 4), (2, .int p), (3, .int bk), (4, .int op), (5, .int v5), (6, .int v6)], [.int (Int32.ofInt 1)], 0, 0) 58 2 (fun _ => rfl) h) ?_
              exact pj_X_rt rfl rfl ⟨_, rfl, iG11, kG11, ⟨by omega, by omega⟩⟩
      · refine pj_X_of (fun r h => pj_T_gi hI rfl rfl h) ?_
        show pj_X _ _ G 27 [(0, .ref 6), (1, .ref 4), (2, .int p), (3, .int bk), (4, .int op), (5, .int v5), (6, .int v6)] [.int (pj_fi G 14 1), .int v6] _
        obtain ⟨y14, hy14⟩ : ∃ z : Int32, z = pj_fi G 14 1 := ⟨_, rfl⟩
        rw [← hy14]
        have ey14 : (pj_fi G 14 1).toInt = y14.toInt := by rw [hy14]
        have ry14 : (0 : Int) ≤ y14.toInt ∧ y14.toInt ≤ 10 := by rw [hy14]; exact hI.2.1 14 1 (0, 10) rfl
        cases b15 : pj_c1 .ge v6 y14 with
        | true =>
          have ub15 := pj_u_geT b15
          refine pj_X_of (fun r h => pj_R_icT 65 rfl rfl b15 h) ?_
          refine pj_X_of (fun r h => pj_R_to (G, 68, [(5, .int (v5 + Int32.ofInt 1)), (0, .ref 6), (1, .ref 4), (2, .int p), (3, .int bk), (4, .int op), (6, .int v6)], [], 0, 0) 68 2 (fun _ => rfl) h) ?_
          obtain ⟨z16, hz16⟩ : ∃ z : Int32, z = v5 + Int32.ofInt 1 := ⟨_, rfl⟩
          rw [← hz16]
          have fz16_0 : z16.toInt = v5.toInt + (Int32.ofInt 1).toInt := by rw [hz16]; exact pj_addI (by have := pj_i32 v5; have := pj_i32 (Int32.ofInt 1); omega) (by have := pj_i32 v5; have := pj_i32 (Int32.ofInt 1); omega)
          refine pj_X_of (fun r h => pj_R_to (G, 3, [(5, .int z16), (0, .ref 6), (1, .ref 4), (2, .int p), (3, .int bk), (4, .int op), (6, .int v6)], [], 0, 0) 3 2 (fun _ => rfl) h) ?_
          exact pj_X_sub [(0, .ref 6), (1, .ref 4), (2, .int p), (3, .int bk), (4, .int op), (5, .int z16)] (show List.Nodup [0, 1, 2, 3, 4, 5] by decide) ⟨rfl, rfl, rfl, rfl, rfl, rfl, trivial⟩ (ih.1 G hI hK z16 ⟨by omega, by omega⟩ (by omega))
        | false =>
          have ub15 := pj_u_geF b15
          refine pj_X_of (fun r h => pj_R_icF rfl b15 h) ?_
          refine pj_X_of (fun r h => pj_R_to (G, 35, [(0, .ref 6), (1, .ref 4), (2, .int p), (3, .int bk), (4, .int op), (5, .int v5), (6, .int v6)], [.int v6, .int v5, .ref 6], 0, 0) 35 4 (fun _ => rfl) h) ?_
          refine pj_X_ca (vs := [.ref 6, .int v5, .int v6]) rfl (fun _ => rfl) ⟨Nat.le_of_ble_eq_true rfl, Nat.le_of_ble_eq_true rfl, pj_T_rcv hI rfl⟩ ⟨rfl, rfl⟩ (pj_Y_up (by decide) (ct_110 G hI v5 v6 ⟨by omega, by omega⟩ ⟨by omega, by omega⟩)) ?_
          rintro _ _ ⟨y17, rfl, rfl, ry17⟩
          show pj_X _ _ G 38 [(0, .ref 6), (1, .ref 4), (2, .int p), (3, .int bk), (4, .int op), (5, .int v5), (6, .int v6)] [.int y17] _
          cases b18 : pj_c1 .eq y17 0 with
          | true =>
            have ub18 := pj_u0_eqT b18
            refine pj_X_of (fun r h => pj_R_ifT 59 rfl rfl b18 h) ?_
            refine pj_X_of (fun r h => pj_R_to (G, 62, [(6, .int (v6 + Int32.ofInt 1)), (0, .ref 6), (1, .ref 4), (2, .int p), (3, .int bk), (4, .int op), (5, .int v5)], [], 0, 0) 62 2 (fun _ => rfl) h) ?_
            obtain ⟨z19, hz19⟩ : ∃ z : Int32, z = v6 + Int32.ofInt 1 := ⟨_, rfl⟩
            rw [← hz19]
            have fz19_0 : z19.toInt = v6.toInt + (Int32.ofInt 1).toInt := by rw [hz19]; exact pj_addI (by have := pj_i32 v6; have := pj_i32 (Int32.ofInt 1); omega) (by have := pj_i32 v6; have := pj_i32 (Int32.ofInt 1); omega)
            refine pj_X_of (fun r h => pj_R_to (G, 18, [(6, .int z19), (0, .ref 6), (1, .ref 4), (2, .int p), (3, .int bk), (4, .int op), (5, .int v5)], [], 0, 0) 18 2 (fun _ => rfl) h) ?_
            exact pj_X_sub [(0, .ref 6), (1, .ref 4), (2, .int p), (3, .int bk), (4, .int op), (5, .int v5), (6, .int z19)] (show List.Nodup [0, 1, 2, 3, 4, 5, 6] by decide) ⟨rfl, rfl, rfl, rfl, rfl, rfl, rfl, trivial⟩ (ih.2 G hI hK v5 z19 ⟨by omega, by omega⟩ ⟨by omega, by omega⟩ (by omega))
          | false =>
            have ub18 := pj_u0_eqF b18
            refine pj_X_of (fun r h => pj_R_ifF rfl b18 h) ?_
            refine pj_X_of (fun r h => pj_R_to (G, 51, [(0, .ref 6), (1, .ref 4), (2, .int p), (3, .int bk), (4, .int op), (5, .int v5), (6, .int v6)], [.int v6, .int v5, .int op, .int bk, .int p, .ref 4, .ref 6], 0, 0) 51 8 (fun _ => rfl) h) ?_
            refine pj_X_ca (vs := [.ref 6, .ref 4, .int p, .int bk, .int op, .int v5, .int v6]) rfl (fun _ => rfl) ⟨Nat.le_of_ble_eq_true rfl, Nat.le_of_ble_eq_true rfl, pj_T_rcv hI rfl⟩ ⟨rfl, rfl⟩ (pj_Y_up (by decide) (ct_114 G hI p bk op v5 v6 ⟨by omega, by omega⟩ ⟨by omega, by omega⟩ ⟨by omega, by omega⟩)) ?_
            rintro _ G21 ⟨y20, rfl, iG21, jG21, ry20⟩
            have kG21 : pj_kpt kc_113 G0 G21 := pj_kpt_t hK (pj_kpt_s jG21 rfl)
            show pj_X _ _ G21 54 [(0, .ref 6), (1, .ref 4), (2, .int p), (3, .int bk), (4, .int op), (5, .int v5), (6, .int v6)] [.int y20] _
            cases b22 : pj_c1 .eq y20 0 with
            | true =>
              have ub22 := pj_u0_eqT b22
              refine pj_X_of (fun r h => pj_R_ifT 59 rfl rfl b22 h) ?_
              refine pj_X_of (fun r h => pj_R_to (G21, 62, [(6, .int (v6 + Int32.ofInt 1)), (0, .ref 6), (1, .ref 4), (2, .int p), (3, .int bk), (4, .int op), (5, .int v5)], [], 0, 0) 62 2 (fun _ => rfl) h) ?_
              obtain ⟨z23, hz23⟩ : ∃ z : Int32, z = v6 + Int32.ofInt 1 := ⟨_, rfl⟩
              rw [← hz23]
              have fz23_0 : z23.toInt = v6.toInt + (Int32.ofInt 1).toInt := by rw [hz23]; exact pj_addI (by have := pj_i32 v6; have := pj_i32 (Int32.ofInt 1); omega) (by have := pj_i32 v6; have := pj_i32 (Int32.ofInt 1); omega)
              refine pj_X_of (fun r h => pj_R_to (G21, 18, [(6, .int z23), (0, .ref 6), (1, .ref 4), (2, .int p), (3, .int bk), (4, .int op), (5, .int v5)], [], 0, 0) 18 2 (fun _ => rfl) h) ?_
              exact pj_X_sub [(0, .ref 6), (1, .ref 4), (2, .int p), (3, .int bk), (4, .int op), (5, .int v5), (6, .int z23)] (show List.Nodup [0, 1, 2, 3, 4, 5, 6] by decide) ⟨rfl, rfl, rfl, rfl, rfl, rfl, rfl, trivial⟩ (ih.2 G21 iG21 kG21 v5 z23 ⟨by omega, by omega⟩ ⟨by omega, by omega⟩ (by omega))
            | false =>
              have ub22 := pj_u0_eqF b22
              refine pj_X_of (fun r h => pj_R_ifF rfl b22 h) ?_
              refine pj_X_of (fun r h => pj_R_to (G21, 58, [(0, .ref 6), (1, .ref 4), (2, .int p), (3, .int bk), (4, .int op), (5, .int v5), (6, .int v6)], [.int (Int32.ofInt 1)], 0, 0) 58 2 (fun _ => rfl) h) ?_
              exact pj_X_rt rfl rfl ⟨_, rfl, iG21, kG21, ⟨by omega, by omega⟩⟩
theorem ct_113 (G0 : pj_G) (hI : pj_Inv G0) (p : Int32) (bk : Int32) (op : Int32) (rp : (0 : Int) ≤ p.toInt ∧ p.toInt ≤ 5) : pj_Y 6 113 [.ref 6, .ref 4, .int p, .int bk, .int op] G0 (fun v G' => ∃ y : Int32, v = some (.int y) ∧ pj_Inv G' ∧ pj_kpt kc_113 G0 G' ∧ ((0 : Int) ≤ y.toInt ∧ y.toInt ≤ 1)) := by
  have c0_ : (Int32.ofInt 0).toInt = 0 := by decide
  have c1_ : (Int32.ofInt 1).toInt = 1 := by decide
  refine pj_Y_X (M := pj_m113) rfl rfl (Nat.le_of_ble_eq_true rfl) ?_
  have hK : pj_kpt kc_113 G0 G0 := pj_kpt_r _ _
  show pj_X _ _ G0 0 [(0, .ref 6), (1, .ref 4), (2, .int p), (3, .int bk), (4, .int op)] [] _
  refine pj_X_of (fun r h => pj_R_to (G0, 3, [(5, .int (Int32.ofInt 0)), (0, .ref 6), (1, .ref 4), (2, .int p), (3, .int bk), (4, .int op)], [], 0, 0) 3 3 (fun _ => rfl) h) ?_
  exact pj_X_sub [(0, .ref 6), (1, .ref 4), (2, .int p), (3, .int bk), (4, .int op), (5, .int (Int32.ofInt 0))] (show List.Nodup [0, 1, 2, 3, 4, 5] by decide) ⟨rfl, rfl, rfl, rfl, rfl, rfl, trivial⟩ ((lp_ct_113 G0 hI p bk op rp 101).1 G0 hI hK (Int32.ofInt 0) ⟨by omega, by omega⟩ (by omega))
