def kc_2 : pj_KT := ([(2, 3), (2, 4)], [2, 50, 51, 52], [50, 51, 52])
theorem ct_2 (G0 : pj_G) (hI : pj_Inv G0) (i : Int32) (ri : (0 : Int) ≤ i.toInt ∧ i.toInt ≤ 20) : pj_Y 17 2 [.ref 49, .ref 2, .int i] G0 (fun v G' => v = none ∧ pj_Inv G' ∧ pj_kpt kc_2 G0 G') := by
  have c0_ : ((Int8.ofInt 102).toInt32).toInt = 102 := by decide
  have c1_ : ((Int8.ofInt 45).toInt32).toInt = 45 := by decide
  have c2_ : ((Int8.ofInt 48).toInt32).toInt = 48 := by decide
  have c3_ : ((Int8.ofInt 57).toInt32).toInt = 57 := by decide
  have c4_ : ((Int8.ofInt 97).toInt32).toInt = 97 := by decide
  have c5_ : (Int32.ofInt (-1)).toInt = -1 := by decide
  have c6_ : (Int32.ofInt 2).toInt = 2 := by decide
  have c7_ : (Int32.ofInt 3).toInt = 3 := by decide
  refine pj_Y_X (M := pj_m2) rfl rfl (Nat.le_of_ble_eq_true rfl) ?_
  have hK : pj_kpt kc_2 G0 G0 := pj_kpt_r _ _
  show pj_X _ _ G0 0 [(0, .ref 49), (1, .ref 2), (2, .int i)] [] _
  refine pj_X_of (fun r h => pj_R_to (G0, 1, [(0, .ref 49), (1, .ref 2), (2, .int i)], [.ref 49], 0, 0) 1 2 (fun _ => rfl) h) ?_
  refine pj_X_of (fun r h => pj_T_gr hI rfl rfl rfl h) ?_
  refine pj_X_of (fun r h => pj_R_to (G0, 8, [(0, .ref 49), (1, .ref 2), (2, .int i)], [.retAddr 4, .ref 2, .int i, .ref 50], 0, 0) 8 4 (fun _ => rfl) h) ?_
  refine pj_X_ca (vs := [.ref 2, .retAddr 4]) rfl (fun _ => rfl) ⟨Nat.le_of_ble_eq_true rfl, Nat.le_of_ble_eq_true rfl, pj_T_rcv hI rfl⟩ ⟨rfl, rfl⟩ (pj_Y_up (by decide) (ct_84_s4 G0 hI)) ?_
  rintro _ G2 ⟨y1, rfl, iG2, jG2, ry1⟩
  have kG2 : pj_kpt kc_2 G0 G2 := pj_kpt_t hK (pj_kpt_s jG2 rfl)
  show pj_X _ _ G2 11 [(0, .ref 49), (1, .ref 2), (2, .int i)] [.int y1, .int i, .ref 50] _
  refine pj_X_of (fun r h => pj_T_is iG2 rfl rfl (by omega) (by omega) h) ?_
  show pj_X _ _ (pj_wa G2 50 i.toInt.toNat y1) 12 [(0, .ref 49), (1, .ref 2), (2, .int i)] [] _
  obtain ⟨G3, hG3⟩ : ∃ H, H = pj_wa G2 50 i.toInt.toNat y1 := ⟨_, rfl⟩
  have iG3 : pj_Inv G3 := by rw [hG3]; exact pj_Inv_wa iG2 rfl (fun q hq => by cases hq) (fun n hn => by cases hn)
  have kG3 : pj_kpt kc_2 G0 G3 := by rw [hG3]; exact pj_kpt_a kG2 rfl
  rw [← hG3]
  refine pj_X_of (fun r h => pj_R_to (G3, 13, [(0, .ref 49), (1, .ref 2), (2, .int i)], [.ref 49], 0, 0) 13 2 (fun _ => rfl) h) ?_
  refine pj_X_of (fun r h => pj_T_gr iG3 rfl rfl rfl h) ?_
  refine pj_X_of (fun r h => pj_R_to (G3, 17, [(0, .ref 49), (1, .ref 2), (2, .int i)], [.int i, .ref 50], 0, 0) 17 2 (fun _ => rfl) h) ?_
  refine pj_X_of (fun r h => pj_T_il iG3 rfl rfl (by omega) (by omega) h) ?_
  show pj_X _ _ G3 18 [(0, .ref 49), (1, .ref 2), (2, .int i)] [.int (pj_ai G3 50 i.toInt.toNat)] _
  obtain ⟨z4, hz4⟩ : ∃ z : Int32, z = pj_ai G3 50 i.toInt.toNat := ⟨_, rfl⟩
  rw [← hz4]
  have ez4 : (pj_ai G3 50 i.toInt.toNat).toInt = z4.toInt := by rw [hz4]
  by_cases t5 : z4.toInt = 99
  · refine pj_X_of (fun r h => pj_R_lw 132 rfl (n := 99) t5 rfl h) ?_
    refine pj_X_of (fun r h => pj_R_to (G3, 133, [(0, .ref 49), (1, .ref 2), (2, .int i)], [.ref 49], 0, 0) 133 2 (fun _ => rfl) h) ?_
    refine pj_X_of (fun r h => pj_T_gr iG3 rfl rfl rfl h) ?_
    refine pj_X_of (fun r h => pj_R_to (G3, 142, [(0, .ref 49), (1, .ref 2), (2, .int i)], [.int ((Int8.ofInt 102).toInt32), .int ((Int8.ofInt 97).toInt32), .ref 2, .int i, .ref 51], 0, 0) 142 5 (fun _ => rfl) h) ?_
    refine pj_X_ca (vs := [.ref 2, .int ((Int8.ofInt 97).toInt32), .int ((Int8.ofInt 102).toInt32)]) rfl (fun _ => rfl) ⟨Nat.le_of_ble_eq_true rfl, Nat.le_of_ble_eq_true rfl, pj_T_rcv iG3 rfl⟩ ⟨rfl, rfl⟩ (pj_Y_up (by decide) (ct_83 G3 iG3 ((Int8.ofInt 97).toInt32) ((Int8.ofInt 102).toInt32) ⟨by omega, by omega⟩ ⟨by omega, by omega⟩)) ?_
    rintro _ G7 ⟨y6, rfl, iG7, jG7, ry6, ey6⟩
    have kG7 : pj_kpt kc_2 G0 G7 := pj_kpt_t kG3 (pj_kpt_s jG7 rfl)
    show pj_X _ _ G7 145 [(0, .ref 49), (1, .ref 2), (2, .int i)] [.int y6, .int i, .ref 51] _
    refine pj_X_of (fun r h => pj_T_is iG7 rfl rfl (by omega) (by omega) h) ?_
    show pj_X _ _ (pj_wa G7 51 i.toInt.toNat y6) 146 [(0, .ref 49), (1, .ref 2), (2, .int i)] [] _
    obtain ⟨G8, hG8⟩ : ∃ H, H = pj_wa G7 51 i.toInt.toNat y6 := ⟨_, rfl⟩
    have iG8 : pj_Inv G8 := by rw [hG8]; exact pj_Inv_wa iG7 rfl (fun q hq => by cases hq; exact ⟨by show (0 : Int) ≤ _; omega, by show _ ≤ (999 : Int); omega, by show _ ≤ (0 : Int) ∨ (0 : Int) ≤ _; omega⟩) (fun n hn => by cases hn)
    have kG8 : pj_kpt kc_2 G0 G8 := by rw [hG8]; exact pj_kpt_a kG7 rfl
    rw [← hG8]
    refine pj_X_of (fun r h => pj_R_to (G8, 147, [(0, .ref 49), (1, .ref 2), (2, .int i)], [.ref 49], 0, 0) 147 2 (fun _ => rfl) h) ?_
    refine pj_X_of (fun r h => pj_T_gr iG8 rfl rfl rfl h) ?_
    refine pj_X_of (fun r h => pj_R_to (G8, 156, [(0, .ref 49), (1, .ref 2), (2, .int i)], [.int ((Int8.ofInt 57).toInt32), .int ((Int8.ofInt 48).toInt32), .ref 2, .int i, .ref 52], 0, 0) 156 5 (fun _ => rfl) h) ?_
    refine pj_X_ca (vs := [.ref 2, .int ((Int8.ofInt 48).toInt32), .int ((Int8.ofInt 57).toInt32)]) rfl (fun _ => rfl) ⟨Nat.le_of_ble_eq_true rfl, Nat.le_of_ble_eq_true rfl, pj_T_rcv iG8 rfl⟩ ⟨rfl, rfl⟩ (pj_Y_up (by decide) (ct_83 G8 iG8 ((Int8.ofInt 48).toInt32) ((Int8.ofInt 57).toInt32) ⟨by omega, by omega⟩ ⟨by omega, by omega⟩)) ?_
    rintro _ G10 ⟨y9, rfl, iG10, jG10, ry9, ey9⟩
    have kG10 : pj_kpt kc_2 G0 G10 := pj_kpt_t kG8 (pj_kpt_s jG10 rfl)
    show pj_X _ _ G10 159 [(0, .ref 49), (1, .ref 2), (2, .int i)] [.int y9, .int i, .ref 52] _
    refine pj_X_of (fun r h => pj_T_is iG10 rfl rfl (by omega) (by omega) h) ?_
    show pj_X _ _ (pj_wa G10 52 i.toInt.toNat y9) 160 [(0, .ref 49), (1, .ref 2), (2, .int i)] [] _
    obtain ⟨G11, hG11⟩ : ∃ H, H = pj_wa G10 52 i.toInt.toNat y9 := ⟨_, rfl⟩
    have iG11 : pj_Inv G11 := by rw [hG11]; exact pj_Inv_wa iG10 rfl (fun q hq => by cases hq) (fun n hn => by cases hn)
    have kG11 : pj_kpt kc_2 G0 G11 := by rw [hG11]; exact pj_kpt_a kG10 rfl
    rw [← hG11]
    refine pj_X_of (fun r h => pj_R_to (G11, 181, [(0, .ref 49), (1, .ref 2), (2, .int i)], [], 0, 0) 181 2 (fun _ => rfl) h) ?_
    exact pj_X_rt rfl rfl ⟨rfl, iG11, kG11⟩
  by_cases t12 : z4.toInt = 104
  · refine pj_X_of (fun r h => pj_R_lw 163 rfl (n := 104) t12 rfl h) ?_
    refine pj_X_of (fun r h => pj_R_to (G3, 164, [(0, .ref 49), (1, .ref 2), (2, .int i)], [.ref 49], 0, 0) 164 2 (fun _ => rfl) h) ?_
    refine pj_X_of (fun r h => pj_T_gr iG3 rfl rfl rfl h) ?_
    refine pj_X_of (fun r h => pj_R_to (G3, 170, [(0, .ref 49), (1, .ref 2), (2, .int i)], [.int (Int32.ofInt 2), .ref 2, .int i, .ref 51], 0, 0) 170 4 (fun _ => rfl) h) ?_
    refine pj_X_ca (vs := [.ref 2, .int (Int32.ofInt 2)]) rfl (fun _ => rfl) ⟨Nat.le_of_ble_eq_true rfl, Nat.le_of_ble_eq_true rfl, pj_T_rcv iG3 rfl⟩ ⟨rfl, rfl⟩ (pj_Y_up (by decide) (ct_86 G3 iG3 (Int32.ofInt 2) ⟨by omega, by omega⟩)) ?_
    rintro _ G14 ⟨y13, rfl, iG14, jG14, ry13⟩
    have kG14 : pj_kpt kc_2 G0 G14 := pj_kpt_t kG3 (pj_kpt_s jG14 rfl)
    show pj_X _ _ G14 173 [(0, .ref 49), (1, .ref 2), (2, .int i)] [.int y13, .int i, .ref 51] _
    refine pj_X_of (fun r h => pj_T_is iG14 rfl rfl (by omega) (by omega) h) ?_
    show pj_X _ _ (pj_wa G14 51 i.toInt.toNat y13) 174 [(0, .ref 49), (1, .ref 2), (2, .int i)] [] _
    obtain ⟨G15, hG15⟩ : ∃ H, H = pj_wa G14 51 i.toInt.toNat y13 := ⟨_, rfl⟩
    have iG15 : pj_Inv G15 := by rw [hG15]; exact pj_Inv_wa iG14 rfl (fun q hq => by cases hq; exact ⟨by show (0 : Int) ≤ _; omega, by show _ ≤ (999 : Int); omega, by show _ ≤ (0 : Int) ∨ (0 : Int) ≤ _; omega⟩) (fun n hn => by cases hn)
    have kG15 : pj_kpt kc_2 G0 G15 := by rw [hG15]; exact pj_kpt_a kG14 rfl
    rw [← hG15]
    refine pj_X_of (fun r h => pj_R_to (G15, 181, [(0, .ref 49), (1, .ref 2), (2, .int i)], [], 0, 0) 181 2 (fun _ => rfl) h) ?_
    exact pj_X_rt rfl rfl ⟨rfl, iG15, kG15⟩
  by_cases t16 : z4.toInt = 108
  · refine pj_X_of (fun r h => pj_R_lw 104 rfl (n := 108) t16 rfl h) ?_
    refine pj_X_of (fun r h => pj_R_to (G3, 105, [(0, .ref 49), (1, .ref 2), (2, .int i)], [.ref 49], 0, 0) 105 2 (fun _ => rfl) h) ?_
    refine pj_X_of (fun r h => pj_T_gr iG3 rfl rfl rfl h) ?_
    refine pj_X_of (fun r h => pj_R_to (G3, 114, [(0, .ref 49), (1, .ref 2), (2, .int i)], [.int ((Int8.ofInt 57).toInt32), .int ((Int8.ofInt 48).toInt32), .ref 2, .int i, .ref 51], 0, 0) 114 5 (fun _ => rfl) h) ?_
    refine pj_X_ca (vs := [.ref 2, .int ((Int8.ofInt 48).toInt32), .int ((Int8.ofInt 57).toInt32)]) rfl (fun _ => rfl) ⟨Nat.le_of_ble_eq_true rfl, Nat.le_of_ble_eq_true rfl, pj_T_rcv iG3 rfl⟩ ⟨rfl, rfl⟩ (pj_Y_up (by decide) (ct_83 G3 iG3 ((Int8.ofInt 48).toInt32) ((Int8.ofInt 57).toInt32) ⟨by omega, by omega⟩ ⟨by omega, by omega⟩)) ?_
    rintro _ G18 ⟨y17, rfl, iG18, jG18, ry17, ey17⟩
    have kG18 : pj_kpt kc_2 G0 G18 := pj_kpt_t kG3 (pj_kpt_s jG18 rfl)
    show pj_X _ _ G18 117 [(0, .ref 49), (1, .ref 2), (2, .int i)] [.int y17, .int i, .ref 51] _
    refine pj_X_of (fun r h => pj_T_is iG18 rfl rfl (by omega) (by omega) h) ?_
    show pj_X _ _ (pj_wa G18 51 i.toInt.toNat y17) 118 [(0, .ref 49), (1, .ref 2), (2, .int i)] [] _
    obtain ⟨G19, hG19⟩ : ∃ H, H = pj_wa G18 51 i.toInt.toNat y17 := ⟨_, rfl⟩
    have iG19 : pj_Inv G19 := by rw [hG19]; exact pj_Inv_wa iG18 rfl (fun q hq => by cases hq; exact ⟨by show (0 : Int) ≤ _; omega, by show _ ≤ (999 : Int); omega, by show _ ≤ (0 : Int) ∨ (0 : Int) ≤ _; omega⟩) (fun n hn => by cases hn)
    have kG19 : pj_kpt kc_2 G0 G19 := by rw [hG19]; exact pj_kpt_a kG18 rfl
    rw [← hG19]
    refine pj_X_of (fun r h => pj_R_to (G19, 119, [(0, .ref 49), (1, .ref 2), (2, .int i)], [.ref 49], 0, 0) 119 2 (fun _ => rfl) h) ?_
    refine pj_X_of (fun r h => pj_T_gr iG19 rfl rfl rfl h) ?_
    refine pj_X_of (fun r h => pj_R_to (G19, 125, [(0, .ref 49), (1, .ref 2), (2, .int i)], [.int (Int32.ofInt 3), .ref 2, .int i, .ref 52], 0, 0) 125 4 (fun _ => rfl) h) ?_
    refine pj_X_ca (vs := [.ref 2, .int (Int32.ofInt 3)]) rfl (fun _ => rfl) ⟨Nat.le_of_ble_eq_true rfl, Nat.le_of_ble_eq_true rfl, pj_T_rcv iG19 rfl⟩ ⟨rfl, rfl⟩ (pj_Y_up (by decide) (ct_86 G19 iG19 (Int32.ofInt 3) ⟨by omega, by omega⟩)) ?_
    rintro _ G21 ⟨y20, rfl, iG21, jG21, ry20⟩
    have kG21 : pj_kpt kc_2 G0 G21 := pj_kpt_t kG19 (pj_kpt_s jG21 rfl)
    show pj_X _ _ G21 128 [(0, .ref 49), (1, .ref 2), (2, .int i)] [.int y20, .int i, .ref 52] _
    refine pj_X_of (fun r h => pj_T_is iG21 rfl rfl (by omega) (by omega) h) ?_
    show pj_X _ _ (pj_wa G21 52 i.toInt.toNat y20) 129 [(0, .ref 49), (1, .ref 2), (2, .int i)] [] _
    obtain ⟨G22, hG22⟩ : ∃ H, H = pj_wa G21 52 i.toInt.toNat y20 := ⟨_, rfl⟩
    have iG22 : pj_Inv G22 := by rw [hG22]; exact pj_Inv_wa iG21 rfl (fun q hq => by cases hq) (fun n hn => by cases hn)
    have kG22 : pj_kpt kc_2 G0 G22 := by rw [hG22]; exact pj_kpt_a kG21 rfl
    rw [← hG22]
    refine pj_X_of (fun r h => pj_R_to (G22, 181, [(0, .ref 49), (1, .ref 2), (2, .int i)], [], 0, 0) 181 2 (fun _ => rfl) h) ?_
    exact pj_X_rt rfl rfl ⟨rfl, iG22, kG22⟩
  by_cases t23 : z4.toInt = 116
  · refine pj_X_of (fun r h => pj_R_lw 60 rfl (n := 116) t23 rfl h) ?_
    refine pj_X_of (fun r h => pj_R_to (G3, 61, [(0, .ref 49), (1, .ref 2), (2, .int i)], [.ref 49], 0, 0) 61 2 (fun _ => rfl) h) ?_
    refine pj_X_of (fun r h => pj_T_gr iG3 rfl rfl rfl h) ?_
    refine pj_X_of (fun r h => pj_R_to (G3, 70, [(0, .ref 49), (1, .ref 2), (2, .int i)], [.int ((Int8.ofInt 57).toInt32), .int ((Int8.ofInt 48).toInt32), .ref 2, .int i, .ref 51], 0, 0) 70 5 (fun _ => rfl) h) ?_
    refine pj_X_ca (vs := [.ref 2, .int ((Int8.ofInt 48).toInt32), .int ((Int8.ofInt 57).toInt32)]) rfl (fun _ => rfl) ⟨Nat.le_of_ble_eq_true rfl, Nat.le_of_ble_eq_true rfl, pj_T_rcv iG3 rfl⟩ ⟨rfl, rfl⟩ (pj_Y_up (by decide) (ct_83 G3 iG3 ((Int8.ofInt 48).toInt32) ((Int8.ofInt 57).toInt32) ⟨by omega, by omega⟩ ⟨by omega, by omega⟩)) ?_
    rintro _ G25 ⟨y24, rfl, iG25, jG25, ry24, ey24⟩
    have kG25 : pj_kpt kc_2 G0 G25 := pj_kpt_t kG3 (pj_kpt_s jG25 rfl)
    show pj_X _ _ G25 73 [(0, .ref 49), (1, .ref 2), (2, .int i)] [.int y24, .int i, .ref 51] _
    refine pj_X_of (fun r h => pj_T_is iG25 rfl rfl (by omega) (by omega) h) ?_
    show pj_X _ _ (pj_wa G25 51 i.toInt.toNat y24) 74 [(0, .ref 49), (1, .ref 2), (2, .int i)] [] _
    obtain ⟨G26, hG26⟩ : ∃ H, H = pj_wa G25 51 i.toInt.toNat y24 := ⟨_, rfl⟩
    have iG26 : pj_Inv G26 := by rw [hG26]; exact pj_Inv_wa iG25 rfl (fun q hq => by cases hq; exact ⟨by show (0 : Int) ≤ _; omega, by show _ ≤ (999 : Int); omega, by show _ ≤ (0 : Int) ∨ (0 : Int) ≤ _; omega⟩) (fun n hn => by cases hn)
    have kG26 : pj_kpt kc_2 G0 G26 := by rw [hG26]; exact pj_kpt_a kG25 rfl
    rw [← hG26]
    refine pj_X_of (fun r h => pj_R_to (G26, 75, [(0, .ref 49), (1, .ref 2), (2, .int i)], [.ref 49], 0, 0) 75 2 (fun _ => rfl) h) ?_
    refine pj_X_of (fun r h => pj_T_gr iG26 rfl rfl rfl h) ?_
    refine pj_X_of (fun r h => pj_R_to (G26, 82, [(0, .ref 49), (1, .ref 2), (2, .int i)], [.int ((Int8.ofInt 45).toInt32), .ref 2, .int i, .ref 52], 0, 0) 82 4 (fun _ => rfl) h) ?_
    refine pj_X_ca (vs := [.ref 2, .int ((Int8.ofInt 45).toInt32)]) rfl (fun _ => rfl) ⟨Nat.le_of_ble_eq_true rfl, Nat.le_of_ble_eq_true rfl, pj_T_rcv iG26 rfl⟩ ⟨rfl, rfl⟩ (pj_Y_up (by decide) (ct_82 G26 iG26 ((Int8.ofInt 45).toInt32) ⟨by omega, by omega⟩)) ?_
    rintro _ G28 ⟨y27, rfl, iG28, jG28, ry27⟩
    have kG28 : pj_kpt kc_2 G0 G28 := pj_kpt_t kG26 (pj_kpt_s jG28 rfl)
    show pj_X _ _ G28 85 [(0, .ref 49), (1, .ref 2), (2, .int i)] [.int y27, .int i, .ref 52] _
    cases b29 : pj_c1 .eq y27 0 with
    | true =>
      have ub29 := pj_u0_eqT b29
      refine pj_X_of (fun r h => pj_R_ifT 92 rfl rfl b29 h) ?_
      refine pj_X_of (fun r h => pj_R_to (G28, 97, [(0, .ref 49), (1, .ref 2), (2, .int i)], [.int ((Int8.ofInt 57).toInt32), .int ((Int8.ofInt 48).toInt32), .ref 2, .int i, .ref 52], 0, 0) 97 4 (fun _ => rfl) h) ?_
      refine pj_X_ca (vs := [.ref 2, .int ((Int8.ofInt 48).toInt32), .int ((Int8.ofInt 57).toInt32)]) rfl (fun _ => rfl) ⟨Nat.le_of_ble_eq_true rfl, Nat.le_of_ble_eq_true rfl, pj_T_rcv iG28 rfl⟩ ⟨rfl, rfl⟩ (pj_Y_up (by decide) (ct_83 G28 iG28 ((Int8.ofInt 48).toInt32) ((Int8.ofInt 57).toInt32) ⟨by omega, by omega⟩ ⟨by omega, by omega⟩)) ?_
      rintro _ G31 ⟨y30, rfl, iG31, jG31, ry30, ey30⟩
      have kG31 : pj_kpt kc_2 G0 G31 := pj_kpt_t kG28 (pj_kpt_s jG31 rfl)
      show pj_X _ _ G31 100 [(0, .ref 49), (1, .ref 2), (2, .int i)] [.int y30, .int i, .ref 52] _
      refine pj_X_of (fun r h => pj_T_is iG31 rfl rfl (by omega) (by omega) h) ?_
      show pj_X _ _ (pj_wa G31 52 i.toInt.toNat y30) 101 [(0, .ref 49), (1, .ref 2), (2, .int i)] [] _
      obtain ⟨G32, hG32⟩ : ∃ H, H = pj_wa G31 52 i.toInt.toNat y30 := ⟨_, rfl⟩
      have iG32 : pj_Inv G32 := by rw [hG32]; exact pj_Inv_wa iG31 rfl (fun q hq => by cases hq) (fun n hn => by cases hn)
      have kG32 : pj_kpt kc_2 G0 G32 := by rw [hG32]; exact pj_kpt_a kG31 rfl
      rw [← hG32]
      refine pj_X_of (fun r h => pj_R_to (G32, 181, [(0, .ref 49), (1, .ref 2), (2, .int i)], [], 0, 0) 181 2 (fun _ => rfl) h) ?_
      exact pj_X_rt rfl rfl ⟨rfl, iG32, kG32⟩
    | false =>
      have ub29 := pj_u0_eqF b29
      refine pj_X_of (fun r h => pj_R_ifF rfl b29 h) ?_
      refine pj_X_of (fun r h => pj_R_to (G28, 100, [(0, .ref 49), (1, .ref 2), (2, .int i)], [.int (Int32.ofInt (-1)), .int i, .ref 52], 0, 0) 100 3 (fun _ => rfl) h) ?_
      refine pj_X_of (fun r h => pj_T_is iG28 rfl rfl (by omega) (by omega) h) ?_
      show pj_X _ _ (pj_wa G28 52 i.toInt.toNat (Int32.ofInt (-1))) 101 [(0, .ref 49), (1, .ref 2), (2, .int i)] [] _
      obtain ⟨G33, hG33⟩ : ∃ H, H = pj_wa G28 52 i.toInt.toNat (Int32.ofInt (-1)) := ⟨_, rfl⟩
      have iG33 : pj_Inv G33 := by rw [hG33]; exact pj_Inv_wa iG28 rfl (fun q hq => by cases hq) (fun n hn => by cases hn)
      have kG33 : pj_kpt kc_2 G0 G33 := by rw [hG33]; exact pj_kpt_a kG28 rfl
      rw [← hG33]
      refine pj_X_of (fun r h => pj_R_to (G33, 181, [(0, .ref 49), (1, .ref 2), (2, .int i)], [], 0, 0) 181 2 (fun _ => rfl) h) ?_
      exact pj_X_rt rfl rfl ⟨rfl, iG33, kG33⟩
  refine pj_X_of (fun r h => pj_R_ld 177 rfl ⟨by show ¬ (99 : Int) = _; omega, by show ¬ (104 : Int) = _; omega, by show ¬ (108 : Int) = _; omega, by show ¬ (116 : Int) = _; omega, trivial⟩ rfl h) ?_
  refine pj_X_of (fun r h => pj_R_to (G3, 178, [(0, .ref 49), (1, .ref 2), (2, .int i)], [.ref 2], 0, 0) 178 2 (fun _ => rfl) h) ?_
  refine pj_X_ca (vs := [.ref 2]) rfl (fun _ => rfl) ⟨Nat.le_of_ble_eq_true rfl, Nat.le_of_ble_eq_true rfl, pj_T_rcv iG3 rfl⟩ ⟨rfl, rfl⟩ (pj_Y_up (by decide) (ct_81 G3 iG3)) ?_
  rintro _ G35 ⟨rfl, iG35, jG35, eG35⟩
  have kG35 : pj_kpt kc_2 G0 G35 := pj_kpt_t kG3 (pj_kpt_s jG35 rfl)
  show pj_X _ _ G35 181 [(0, .ref 49), (1, .ref 2), (2, .int i)] [] _
  exact pj_X_rt rfl rfl ⟨rfl, iG35, kG35⟩
def kc_1 : pj_KT := ([(2, 3), (2, 4), (49, 3)], [2, 49, 50, 51, 52], [50, 51, 52])
theorem lp_ct_1 (G0 : pj_G) (hI0 : pj_Inv G0) : ∀ mn : Nat, (∀ (G : pj_G) (hI : pj_Inv G) (hK : pj_kpt kc_1 G0 G) (v2 : Int32) (v3 : Int32), ((0 : Int) ≤ v2.toInt ∧ v2.toInt ≤ 1) → ((0 : Int) ≤ v3.toInt ∧ v3.toInt ≤ 21) → 21 - v3.toInt < (mn : Int) → pj_X 17 pj_m1 G 21 [(0, .ref 49), (1, .ref 2), (2, .int v2), (3, .int v3)] [] (fun v G' => v = none ∧ pj_Inv G' ∧ pj_kpt kc_1 G0 G')) := by
  have c0_ : ((Int8.ofInt 21).toInt32).toInt = 21 := by decide
  have c1_ : ((Int8.ofInt 59).toInt32).toInt = 59 := by decide
  have c2_ : (Int32.ofInt (-1)).toInt = -1 := by decide
  have c3_ : (Int32.ofInt 0).toInt = 0 := by decide
  have c4_ : (Int32.ofInt 1).toInt = 1 := by decide
  intro mn
  induction mn with
  | zero =>
    intro G hI hK v2 v3 rv2 rv3 hm
    exfalso
    omega
  | succ mn ih =>
    intro G hI hK v2 v3 rv2 rv3 hm
    refine pj_X_of (fun r h => pj_R_to (G, 24, [(0, .ref 49), (1, .ref 2), (2, .int v2), (3, .int v3)], [.int ((Int8.ofInt 21).toInt32), .int v3], 0, 0) 24 3 (fun _ => rfl) h) ?_
    cases b1 : pj_c1 .ge v3 ((Int8.ofInt 21).toInt32) with
    | true =>
      have ub1 := pj_u_geT b1
      refine pj_X_of (fun r h => pj_R_icT 57 rfl rfl b1 h) ?_
      exact pj_X_rt rfl rfl ⟨rfl, hI, hK⟩
    | false =>
      have ub1 := pj_u_geF b1
      refine pj_X_of (fun r h => pj_R_icF rfl b1 h) ?_
      refine pj_X_of (fun r h => pj_R_to (G, 28, [(0, .ref 49), (1, .ref 2), (2, .int v2), (3, .int v3)], [.int v2], 0, 0) 28 2 (fun _ => rfl) h) ?_
      cases b2 : pj_c1 .eq v2 0 with
      | true =>
        have ub2 := pj_u0_eqT b2
        refine pj_X_of (fun r h => pj_R_ifT 57 rfl rfl b2 h) ?_
        exact pj_X_rt rfl rfl ⟨rfl, hI, hK⟩
      | false =>
        have ub2 := pj_u0_eqF b2
        refine pj_X_of (fun r h => pj_R_ifF rfl b2 h) ?_
        refine pj_X_of (fun r h => pj_R_to (G, 34, [(0, .ref 49), (1, .ref 2), (2, .int v2), (3, .int v3)], [.int v3, .ref 2, .ref 49], 0, 0) 34 4 (fun _ => rfl) h) ?_
        refine pj_X_ca (vs := [.ref 49, .ref 2, .int v3]) rfl (fun _ => rfl) ⟨Nat.le_of_ble_eq_true rfl, Nat.le_of_ble_eq_true rfl, pj_T_rcv hI rfl⟩ ⟨rfl, rfl⟩ (pj_Y_up (by decide) (ct_2 G hI v3 ⟨by omega, by omega⟩)) ?_
        rintro _ G4 ⟨rfl, iG4, jG4⟩
        have kG4 : pj_kpt kc_1 G0 G4 := pj_kpt_t hK (pj_kpt_s jG4 rfl)
        show pj_X _ _ G4 37 [(0, .ref 49), (1, .ref 2), (2, .int v2), (3, .int v3)] [] _
        refine pj_X_of (fun r h => pj_R_to (G4, 41, [(0, .ref 49), (1, .ref 2), (2, .int v2), (3, .int v3)], [.int (v3 + (Int32.ofInt 1)), .ref 49], 0, 0) 41 5 (fun _ => rfl) h) ?_
        obtain ⟨z5, hz5⟩ : ∃ z : Int32, z = v3 + (Int32.ofInt 1) := ⟨_, rfl⟩
        rw [← hz5]
        have fz5_0 : z5.toInt = v3.toInt + (Int32.ofInt 1).toInt := by rw [hz5]; exact pj_addI (by have := pj_i32 v3; have := pj_i32 (Int32.ofInt 1); omega) (by have := pj_i32 v3; have := pj_i32 (Int32.ofInt 1); omega)
        refine pj_X_of (fun r h => pj_T_pf iG4 rfl rfl rfl h) ?_
        show pj_X _ _ (pj_wv G4 49 3 (.int z5)) 44 [(0, .ref 49), (1, .ref 2), (2, .int v2), (3, .int v3)] [] _
        obtain ⟨G6, hG6⟩ : ∃ H, H = pj_wv G4 49 3 (.int z5) := ⟨_, rfl⟩
        have iG6 : pj_Inv G6 := by rw [hG6]; exact pj_Inv_wi iG4 (ci := 0) rfl (fun q hq => by cases hq; exact ⟨by show (0 : Int) ≤ _; omega, by show _ ≤ (21 : Int); omega⟩)
        have kG6 : pj_kpt kc_1 G0 G6 := by rw [hG6]; exact pj_kpt_v kG4 rfl
        rw [← hG6]
        refine pj_X_of (fun r h => pj_R_to (G6, 47, [(0, .ref 49), (1, .ref 2), (2, .int v2), (3, .int v3)], [.int ((Int8.ofInt 59).toInt32), .ref 2], 0, 0) 47 3 (fun _ => rfl) h) ?_
        refine pj_X_ca (vs := [.ref 2, .int ((Int8.ofInt 59).toInt32)]) rfl (fun _ => rfl) ⟨Nat.le_of_ble_eq_true rfl, Nat.le_of_ble_eq_true rfl, pj_T_rcv iG6 rfl⟩ ⟨rfl, rfl⟩ (pj_Y_up (by decide) (ct_82 G6 iG6 ((Int8.ofInt 59).toInt32) ⟨by omega, by omega⟩)) ?_
        rintro _ G8 ⟨y7, rfl, iG8, jG8, ry7⟩
        have kG8 : pj_kpt kc_1 G0 G8 := pj_kpt_t kG6 (pj_kpt_s jG8 rfl)
        show pj_X _ _ G8 50 [(0, .ref 49), (1, .ref 2), (2, .int v2), (3, .int v3)] [.int y7] _
        refine pj_X_of (fun r h => pj_R_to (G8, 54, [(3, .int (v3 + Int32.ofInt 1)), (2, .int y7), (0, .ref 49), (1, .ref 2)], [], 0, 0) 54 3 (fun _ => rfl) h) ?_
        obtain ⟨z9, hz9⟩ : ∃ z : Int32, z = v3 + Int32.ofInt 1 := ⟨_, rfl⟩
        rw [← hz9]
        have fz9_0 : z9.toInt = v3.toInt + (Int32.ofInt 1).toInt := by rw [hz9]; exact pj_addI (by have := pj_i32 v3; have := pj_i32 (Int32.ofInt 1); omega) (by have := pj_i32 v3; have := pj_i32 (Int32.ofInt 1); omega)
        refine pj_X_of (fun r h => pj_R_to (G8, 21, [(3, .int z9), (2, .int y7), (0, .ref 49), (1, .ref 2)], [], 0, 0) 21 2 (fun _ => rfl) h) ?_
        exact pj_X_sub [(0, .ref 49), (1, .ref 2), (2, .int y7), (3, .int z9)] (show List.Nodup [0, 1, 2, 3] by decide) ⟨rfl, rfl, rfl, rfl, trivial⟩ (ih G8 iG8 kG8 y7 z9 ⟨by omega, by omega⟩ ⟨by omega, by omega⟩ (by omega))
theorem ct_1 (G0 : pj_G) (hI : pj_Inv G0) : pj_Y 18 1 [.ref 49, .ref 2] G0 (fun v G' => v = none ∧ pj_Inv G' ∧ pj_kpt kc_1 G0 G') := by
  have c0_ : ((Int8.ofInt 21).toInt32).toInt = 21 := by decide
  have c1_ : ((Int8.ofInt 59).toInt32).toInt = 59 := by decide
  have c2_ : (Int32.ofInt (-1)).toInt = -1 := by decide
  have c3_ : (Int32.ofInt 0).toInt = 0 := by decide
  have c4_ : (Int32.ofInt 1).toInt = 1 := by decide
  refine pj_Y_X (M := pj_m1) rfl rfl (Nat.le_of_ble_eq_true rfl) ?_
  have hK : pj_kpt kc_1 G0 G0 := pj_kpt_r _ _
  show pj_X _ _ G0 0 [(0, .ref 49), (1, .ref 2)] [] _
  refine pj_X_of (fun r h => pj_R_to (G0, 2, [(0, .ref 49), (1, .ref 2)], [.int (Int32.ofInt 0), .ref 49], 0, 0) 2 3 (fun _ => rfl) h) ?_
  refine pj_X_of (fun r h => pj_T_pf hI rfl rfl rfl h) ?_
  show pj_X _ _ (pj_wv G0 49 3 (.int (Int32.ofInt 0))) 5 [(0, .ref 49), (1, .ref 2)] [] _
  obtain ⟨G10, hG10⟩ : ∃ H, H = pj_wv G0 49 3 (.int (Int32.ofInt 0)) := ⟨_, rfl⟩
  have iG10 : pj_Inv G10 := by rw [hG10]; exact pj_Inv_wi hI (ci := 0) rfl (fun q hq => by cases hq; exact ⟨by show (0 : Int) ≤ _; omega, by show _ ≤ (21 : Int); omega⟩)
  have kG10 : pj_kpt kc_1 G0 G10 := by rw [hG10]; exact pj_kpt_v hK rfl
  rw [← hG10]
  refine pj_X_of (fun r h => pj_R_to (G10, 6, [(0, .ref 49), (1, .ref 2)], [.ref 2], 0, 0) 6 2 (fun _ => rfl) h) ?_
  refine pj_X_ca (vs := [.ref 2]) rfl (fun _ => rfl) ⟨Nat.le_of_ble_eq_true rfl, Nat.le_of_ble_eq_true rfl, pj_T_rcv iG10 rfl⟩ ⟨rfl, rfl⟩ (pj_Y_up (by decide) (ct_80 G10 iG10)) ?_
  rintro _ _ ⟨y11, rfl, rfl, ry11, ey11⟩
  show pj_X _ _ G10 9 [(0, .ref 49), (1, .ref 2)] [.int y11] _
  refine pj_X_of (fun r h => pj_R_to (G10, 10, [(0, .ref 49), (1, .ref 2)], [.int (Int32.ofInt (-1)), .int y11], 0, 0) 10 2 (fun _ => rfl) h) ?_
  cases b12 : pj_c1 .eq y11 (Int32.ofInt (-1)) with
  | true =>
    have ub12 := pj_u_eqT b12
    refine pj_X_of (fun r h => pj_R_icT 17 rfl rfl b12 h) ?_
    refine pj_X_of (fun r h => pj_R_to (G10, 21, [(3, .int (Int32.ofInt 0)), (2, .int (Int32.ofInt 0)), (0, .ref 49), (1, .ref 2)], [], 0, 0) 21 5 (fun _ => rfl) h) ?_
    exact pj_X_sub [(0, .ref 49), (1, .ref 2), (2, .int (Int32.ofInt 0)), (3, .int (Int32.ofInt 0))] (show List.Nodup [0, 1, 2, 3] by decide) ⟨rfl, rfl, rfl, rfl, trivial⟩ ((lp_ct_1 G0 hI   22) G10 iG10 kG10 (Int32.ofInt 0) (Int32.ofInt 0) ⟨by omega, by omega⟩ ⟨by omega, by omega⟩ (by omega))
  | false =>
    have ub12 := pj_u_eqF b12
    refine pj_X_of (fun r h => pj_R_icF rfl b12 h) ?_
    refine pj_X_of (fun r h => pj_R_to (G10, 21, [(3, .int (Int32.ofInt 0)), (2, .int (Int32.ofInt 1)), (0, .ref 49), (1, .ref 2)], [], 0, 0) 21 6 (fun _ => rfl) h) ?_
    exact pj_X_sub [(0, .ref 49), (1, .ref 2), (2, .int (Int32.ofInt 1)), (3, .int (Int32.ofInt 0))] (show List.Nodup [0, 1, 2, 3] by decide) ⟨rfl, rfl, rfl, rfl, trivial⟩ ((lp_ct_1 G0 hI   22) G10 iG10 kG10 (Int32.ofInt 1) (Int32.ofInt 0) ⟨by omega, by omega⟩ ⟨by omega, by omega⟩ (by omega))
def kc_4 : pj_KT := ([(6, 7), (6, 8), (21, 7), (21, 8)], [6, 21, 22, 23, 24, 25, 26, 30, 33], [22, 23, 24, 25, 26, 30, 33])
theorem ct_4 (G0 : pj_G) (hI : pj_Inv G0) (i : Int32) (ri : (0 : Int) ≤ i.toInt ∧ i.toInt ≤ 20) : pj_Y 7 4 [.ref 49, .ref 6, .int i] G0 (fun v G' => ∃ y : Int32, v = some (.int y) ∧ pj_Inv G' ∧ pj_kpt kc_4 G0 G' ∧ ((0 : Int) ≤ y.toInt ∧ y.toInt ≤ 1)) := by
  have c0_ : (Int32.ofInt (-1)).toInt = -1 := by decide
  have c1_ : (Int32.ofInt 0).toInt = 0 := by decide
  have c2_ : (Int32.ofInt 1).toInt = 1 := by decide
  refine pj_Y_X (M := pj_m4) rfl rfl (Nat.le_of_ble_eq_true rfl) ?_
  have hK : pj_kpt kc_4 G0 G0 := pj_kpt_r _ _
  show pj_X _ _ G0 0 [(0, .ref 49), (1, .ref 6), (2, .int i)] [] _
  refine pj_X_of (fun r h => pj_R_to (G0, 1, [(0, .ref 49), (1, .ref 6), (2, .int i)], [.ref 49], 0, 0) 1 2 (fun _ => rfl) h) ?_
  refine pj_X_of (fun r h => pj_T_gr hI rfl rfl rfl h) ?_
  refine pj_X_of (fun r h => pj_R_to (G0, 5, [(0, .ref 49), (1, .ref 6), (2, .int i)], [.int i, .ref 50], 0, 0) 5 2 (fun _ => rfl) h) ?_
  refine pj_X_of (fun r h => pj_T_il hI rfl rfl (by omega) (by omega) h) ?_
  show pj_X _ _ G0 6 [(0, .ref 49), (1, .ref 6), (2, .int i)] [.int (pj_ai G0 50 i.toInt.toNat)] _
  obtain ⟨z1, hz1⟩ : ∃ z : Int32, z = pj_ai G0 50 i.toInt.toNat := ⟨_, rfl⟩
  rw [← hz1]
  have ez1 : (pj_ai G0 50 i.toInt.toNat).toInt = z1.toInt := by rw [hz1]
  by_cases t2 : z1.toInt = 99
  · refine pj_X_of (fun r h => pj_R_lw 99 rfl (n := 99) t2 rfl h) ?_
    refine pj_X_of (fun r h => pj_R_to (G0, 101, [(0, .ref 49), (1, .ref 6), (2, .int i)], [.ref 49, .ref 6], 0, 0) 101 3 (fun _ => rfl) h) ?_
    refine pj_X_of (fun r h => pj_T_gr hI rfl rfl rfl h) ?_
    refine pj_X_of (fun r h => pj_R_to (G0, 105, [(0, .ref 49), (1, .ref 6), (2, .int i)], [.int i, .ref 51, .ref 6], 0, 0) 105 2 (fun _ => rfl) h) ?_
    refine pj_X_of (fun r h => pj_T_il hI rfl rfl (by omega) (by omega) h) ?_
    show pj_X _ _ G0 106 [(0, .ref 49), (1, .ref 6), (2, .int i)] [.int (pj_ai G0 51 i.toInt.toNat), .ref 6] _
    obtain ⟨z3, hz3⟩ : ∃ z : Int32, z = pj_ai G0 51 i.toInt.toNat := ⟨_, rfl⟩
    rw [← hz3]
    have ez3 : (pj_ai G0 51 i.toInt.toNat).toInt = z3.toInt := by rw [hz3]
    have fz3_0 : (0 : Int) ≤ z3.toInt ∧ z3.toInt ≤ 999 ∧ (z3.toInt ≤ 0 ∨ 0 ≤ z3.toInt) := by rw [hz3]; exact hI.2.2.1 51 (21, 0, 999, 0, 0) rfl _ (by show _ < 21; omega)
    refine pj_X_of (fun r h => pj_R_to (G0, 107, [(0, .ref 49), (1, .ref 6), (2, .int i)], [.ref 49, .int z3, .ref 6], 0, 0) 107 2 (fun _ => rfl) h) ?_
    refine pj_X_of (fun r h => pj_T_gr hI rfl rfl rfl h) ?_
    refine pj_X_of (fun r h => pj_R_to (G0, 111, [(0, .ref 49), (1, .ref 6), (2, .int i)], [.int i, .ref 52, .int z3, .ref 6], 0, 0) 111 2 (fun _ => rfl) h) ?_
    refine pj_X_of (fun r h => pj_T_il hI rfl rfl (by omega) (by omega) h) ?_
    show pj_X _ _ G0 112 [(0, .ref 49), (1, .ref 6), (2, .int i)] [.int (pj_ai G0 52 i.toInt.toNat), .int z3, .ref 6] _
    obtain ⟨z4, hz4⟩ : ∃ z : Int32, z = pj_ai G0 52 i.toInt.toNat := ⟨_, rfl⟩
    rw [← hz4]
    have ez4 : (pj_ai G0 52 i.toInt.toNat).toInt = z4.toInt := by rw [hz4]
    refine pj_X_ca (vs := [.ref 6, .int z3, .int z4]) rfl (fun _ => rfl) ⟨Nat.le_of_ble_eq_true rfl, Nat.le_of_ble_eq_true rfl, pj_T_rcv hI rfl⟩ ⟨rfl, rfl⟩ (pj_Y_up (by decide) (ct_104x G0 hI z3 z4)) ?_
    rintro _ G6 ⟨y5, rfl, iG6, jG6, ry5, fy5⟩
    have kG6 : pj_kpt kc_4 G0 G6 := pj_kpt_t hK (pj_kpt_s jG6 rfl)
    show pj_X _ _ G6 115 [(0, .ref 49), (1, .ref 6), (2, .int i)] [.int y5] _
    cases b7 : pj_c1 .lt y5 0 with
    | true =>
      have ub7 := pj_u0_ltT b7
      refine pj_X_of (fun r h => pj_R_ifT 122 rfl rfl b7 h) ?_
      refine pj_X_of (fun r h => pj_R_to (G6, 123, [(0, .ref 49), (1, .ref 6), (2, .int i)], [.int (Int32.ofInt 0)], 0, 0) 123 2 (fun _ => rfl) h) ?_
      exact pj_X_rt rfl rfl ⟨_, rfl, iG6, kG6, ⟨by omega, by omega⟩⟩
    | false =>
      have ub7 := pj_u0_ltF b7
      refine pj_X_of (fun r h => pj_R_ifF rfl b7 h) ?_
      refine pj_X_of (fun r h => pj_R_to (G6, 123, [(0, .ref 49), (1, .ref 6), (2, .int i)], [.int (Int32.ofInt 1)], 0, 0) 123 3 (fun _ => rfl) h) ?_
      exact pj_X_rt rfl rfl ⟨_, rfl, iG6, kG6, ⟨by omega, by omega⟩⟩
  by_cases t8 : z1.toInt = 108
  · refine pj_X_of (fun r h => pj_R_lw 65 rfl (n := 108) t8 rfl h) ?_
    refine pj_X_of (fun r h => pj_R_to (G0, 67, [(0, .ref 49), (1, .ref 6), (2, .int i)], [.ref 49, .ref 6], 0, 0) 67 3 (fun _ => rfl) h) ?_
    refine pj_X_of (fun r h => pj_T_gr hI rfl rfl rfl h) ?_
    refine pj_X_of (fun r h => pj_R_to (G0, 71, [(0, .ref 49), (1, .ref 6), (2, .int i)], [.int i, .ref 51, .ref 6], 0, 0) 71 2 (fun _ => rfl) h) ?_
    refine pj_X_of (fun r h => pj_T_il hI rfl rfl (by omega) (by omega) h) ?_
    show pj_X _ _ G0 72 [(0, .ref 49), (1, .ref 6), (2, .int i)] [.int (pj_ai G0 51 i.toInt.toNat), .ref 6] _
    obtain ⟨z9, hz9⟩ : ∃ z : Int32, z = pj_ai G0 51 i.toInt.toNat := ⟨_, rfl⟩
    rw [← hz9]
    have ez9 : (pj_ai G0 51 i.toInt.toNat).toInt = z9.toInt := by rw [hz9]
    have fz9_0 : (0 : Int) ≤ z9.toInt ∧ z9.toInt ≤ 999 ∧ (z9.toInt ≤ 0 ∨ 0 ≤ z9.toInt) := by rw [hz9]; exact hI.2.2.1 51 (21, 0, 999, 0, 0) rfl _ (by show _ < 21; omega)
    refine pj_X_of (fun r h => pj_R_to (G0, 73, [(0, .ref 49), (1, .ref 6), (2, .int i)], [.ref 6, .int z9, .ref 6], 0, 0) 73 2 (fun _ => rfl) h) ?_
    refine pj_X_of (fun r h => pj_T_gr hI rfl rfl rfl h) ?_
    refine pj_X_of (fun r h => pj_T_gi hI rfl rfl h) ?_
    show pj_X _ _ G0 79 [(0, .ref 49), (1, .ref 6), (2, .int i)] [.int (pj_fi G0 21 7), .int z9, .ref 6] _
    obtain ⟨y10, hy10⟩ : ∃ z : Int32, z = pj_fi G0 21 7 := ⟨_, rfl⟩
    rw [← hy10]
    have ey10 : (pj_fi G0 21 7).toInt = y10.toInt := by rw [hy10]
    refine pj_X_of (fun r h => pj_R_to (G0, 80, [(0, .ref 49), (1, .ref 6), (2, .int i)], [.ref 49, .int y10, .int z9, .ref 6], 0, 0) 80 2 (fun _ => rfl) h) ?_
    refine pj_X_of (fun r h => pj_T_gr hI rfl rfl rfl h) ?_
    refine pj_X_of (fun r h => pj_R_to (G0, 84, [(0, .ref 49), (1, .ref 6), (2, .int i)], [.int i, .ref 52, .int y10, .int z9, .ref 6], 0, 0) 84 2 (fun _ => rfl) h) ?_
    refine pj_X_of (fun r h => pj_T_il hI rfl rfl (by omega) (by omega) h) ?_
    show pj_X _ _ G0 85 [(0, .ref 49), (1, .ref 6), (2, .int i)] [.int (pj_ai G0 52 i.toInt.toNat), .int y10, .int z9, .ref 6] _
    obtain ⟨z11, hz11⟩ : ∃ z : Int32, z = pj_ai G0 52 i.toInt.toNat := ⟨_, rfl⟩
    rw [← hz11]
    have ez11 : (pj_ai G0 52 i.toInt.toNat).toInt = z11.toInt := by rw [hz11]
    refine pj_X_of (fun r h => pj_R_to (G0, 86, [(0, .ref 49), (1, .ref 6), (2, .int i)], [.int (y10 + z11), .int z9, .ref 6], 0, 0) 86 2 (fun _ => rfl) h) ?_
    obtain ⟨z12, hz12⟩ : ∃ z : Int32, z = y10 + z11 := ⟨_, rfl⟩
    rw [← hz12]
    refine pj_X_ca (vs := [.ref 6, .int z9, .int z12]) rfl (fun _ => rfl) ⟨Nat.le_of_ble_eq_true rfl, Nat.le_of_ble_eq_true rfl, pj_T_rcv hI rfl⟩ ⟨rfl, rfl⟩ (pj_Y_up (by decide) (ct_103x G0 hI z9 z12)) ?_
    rintro _ G14 ⟨y13, rfl, iG14, jG14, ry13, fy13⟩
    have kG14 : pj_kpt kc_4 G0 G14 := pj_kpt_t hK (pj_kpt_s jG14 rfl)
    show pj_X _ _ G14 89 [(0, .ref 49), (1, .ref 6), (2, .int i)] [.int y13] _
    refine pj_X_of (fun r h => pj_R_to (G14, 90, [(0, .ref 49), (1, .ref 6), (2, .int i)], [.int (Int32.ofInt (-1)), .int y13], 0, 0) 90 2 (fun _ => rfl) h) ?_
    cases b15 : pj_c1 .lt y13 (Int32.ofInt (-1)) with
    | true =>
      have ub15 := pj_u_ltT b15
      refine pj_X_of (fun r h => pj_R_icT 97 rfl rfl b15 h) ?_
      refine pj_X_of (fun r h => pj_R_to (G14, 98, [(0, .ref 49), (1, .ref 6), (2, .int i)], [.int (Int32.ofInt 0)], 0, 0) 98 2 (fun _ => rfl) h) ?_
      exact pj_X_rt rfl rfl ⟨_, rfl, iG14, kG14, ⟨by omega, by omega⟩⟩
    | false =>
      have ub15 := pj_u_ltF b15
      refine pj_X_of (fun r h => pj_R_icF rfl b15 h) ?_
      refine pj_X_of (fun r h => pj_R_to (G14, 98, [(0, .ref 49), (1, .ref 6), (2, .int i)], [.int (Int32.ofInt 1)], 0, 0) 98 3 (fun _ => rfl) h) ?_
      exact pj_X_rt rfl rfl ⟨_, rfl, iG14, kG14, ⟨by omega, by omega⟩⟩
  by_cases t16 : z1.toInt = 116
  · refine pj_X_of (fun r h => pj_R_lw 40 rfl (n := 116) t16 rfl h) ?_
    refine pj_X_of (fun r h => pj_R_to (G0, 42, [(0, .ref 49), (1, .ref 6), (2, .int i)], [.ref 49, .ref 6], 0, 0) 42 3 (fun _ => rfl) h) ?_
    refine pj_X_of (fun r h => pj_T_gr hI rfl rfl rfl h) ?_
    refine pj_X_of (fun r h => pj_R_to (G0, 46, [(0, .ref 49), (1, .ref 6), (2, .int i)], [.int i, .ref 51, .ref 6], 0, 0) 46 2 (fun _ => rfl) h) ?_
    refine pj_X_of (fun r h => pj_T_il hI rfl rfl (by omega) (by omega) h) ?_
    show pj_X _ _ G0 47 [(0, .ref 49), (1, .ref 6), (2, .int i)] [.int (pj_ai G0 51 i.toInt.toNat), .ref 6] _
    obtain ⟨z17, hz17⟩ : ∃ z : Int32, z = pj_ai G0 51 i.toInt.toNat := ⟨_, rfl⟩
    rw [← hz17]
    have ez17 : (pj_ai G0 51 i.toInt.toNat).toInt = z17.toInt := by rw [hz17]
    have fz17_0 : (0 : Int) ≤ z17.toInt ∧ z17.toInt ≤ 999 ∧ (z17.toInt ≤ 0 ∨ 0 ≤ z17.toInt) := by rw [hz17]; exact hI.2.2.1 51 (21, 0, 999, 0, 0) rfl _ (by show _ < 21; omega)
    refine pj_X_of (fun r h => pj_R_to (G0, 48, [(0, .ref 49), (1, .ref 6), (2, .int i)], [.ref 49, .int z17, .ref 6], 0, 0) 48 2 (fun _ => rfl) h) ?_
    refine pj_X_of (fun r h => pj_T_gr hI rfl rfl rfl h) ?_
    refine pj_X_of (fun r h => pj_R_to (G0, 52, [(0, .ref 49), (1, .ref 6), (2, .int i)], [.int i, .ref 52, .int z17, .ref 6], 0, 0) 52 2 (fun _ => rfl) h) ?_
    refine pj_X_of (fun r h => pj_T_il hI rfl rfl (by omega) (by omega) h) ?_
    show pj_X _ _ G0 53 [(0, .ref 49), (1, .ref 6), (2, .int i)] [.int (pj_ai G0 52 i.toInt.toNat), .int z17, .ref 6] _
    obtain ⟨z18, hz18⟩ : ∃ z : Int32, z = pj_ai G0 52 i.toInt.toNat := ⟨_, rfl⟩
    rw [← hz18]
    have ez18 : (pj_ai G0 52 i.toInt.toNat).toInt = z18.toInt := by rw [hz18]
    refine pj_X_ca (vs := [.ref 6, .int z17, .int z18]) rfl (fun _ => rfl) ⟨Nat.le_of_ble_eq_true rfl, Nat.le_of_ble_eq_true rfl, pj_T_rcv hI rfl⟩ ⟨rfl, rfl⟩ (pj_Y_up (by decide) (ct_102x G0 hI z17 z18)) ?_
    rintro _ G20 ⟨y19, rfl, iG20, jG20, ry19, fy19⟩
    have kG20 : pj_kpt kc_4 G0 G20 := pj_kpt_t hK (pj_kpt_s jG20 rfl)
    show pj_X _ _ G20 56 [(0, .ref 49), (1, .ref 6), (2, .int i)] [.int y19] _
    cases b21 : pj_c1 .lt y19 0 with
    | true =>
      have ub21 := pj_u0_ltT b21
      refine pj_X_of (fun r h => pj_R_ifT 63 rfl rfl b21 h) ?_
      refine pj_X_of (fun r h => pj_R_to (G20, 64, [(0, .ref 49), (1, .ref 6), (2, .int i)], [.int (Int32.ofInt 0)], 0, 0) 64 2 (fun _ => rfl) h) ?_
      exact pj_X_rt rfl rfl ⟨_, rfl, iG20, kG20, ⟨by omega, by omega⟩⟩
    | false =>
      have ub21 := pj_u0_ltF b21
      refine pj_X_of (fun r h => pj_R_ifF rfl b21 h) ?_
      refine pj_X_of (fun r h => pj_R_to (G20, 64, [(0, .ref 49), (1, .ref 6), (2, .int i)], [.int (Int32.ofInt 1)], 0, 0) 64 3 (fun _ => rfl) h) ?_
      exact pj_X_rt rfl rfl ⟨_, rfl, iG20, kG20, ⟨by omega, by omega⟩⟩
  refine pj_X_of (fun r h => pj_R_ld 124 rfl ⟨by show ¬ (99 : Int) = _; omega, by show ¬ (108 : Int) = _; omega, by show ¬ (116 : Int) = _; omega, trivial⟩ rfl h) ?_
  refine pj_X_of (fun r h => pj_R_to (G0, 126, [(0, .ref 49), (1, .ref 6), (2, .int i)], [.ref 49, .ref 6], 0, 0) 126 3 (fun _ => rfl) h) ?_
  refine pj_X_of (fun r h => pj_T_gr hI rfl rfl rfl h) ?_
  refine pj_X_of (fun r h => pj_R_to (G0, 130, [(0, .ref 49), (1, .ref 6), (2, .int i)], [.int i, .ref 51, .ref 6], 0, 0) 130 2 (fun _ => rfl) h) ?_
  refine pj_X_of (fun r h => pj_T_il hI rfl rfl (by omega) (by omega) h) ?_
  show pj_X _ _ G0 131 [(0, .ref 49), (1, .ref 6), (2, .int i)] [.int (pj_ai G0 51 i.toInt.toNat), .ref 6] _
  obtain ⟨z22, hz22⟩ : ∃ z : Int32, z = pj_ai G0 51 i.toInt.toNat := ⟨_, rfl⟩
  rw [← hz22]
  have ez22 : (pj_ai G0 51 i.toInt.toNat).toInt = z22.toInt := by rw [hz22]
  have fz22_0 : (0 : Int) ≤ z22.toInt ∧ z22.toInt ≤ 999 ∧ (z22.toInt ≤ 0 ∨ 0 ≤ z22.toInt) := by rw [hz22]; exact hI.2.2.1 51 (21, 0, 999, 0, 0) rfl _ (by show _ < 21; omega)
  refine pj_X_ca (vs := [.ref 6, .int z22]) rfl (fun _ => rfl) ⟨Nat.le_of_ble_eq_true rfl, Nat.le_of_ble_eq_true rfl, pj_T_rcv hI rfl⟩ ⟨rfl, rfl⟩ (pj_Y_up (by decide) (ct_105x G0 hI z22 ⟨by omega, by omega⟩)) ?_
  rintro _ G24 ⟨rfl, iG24, jG24, fy23⟩
  have kG24 : pj_kpt kc_4 G0 G24 := pj_kpt_t hK (pj_kpt_s jG24 rfl)
  show pj_X _ _ G24 134 [(0, .ref 49), (1, .ref 6), (2, .int i)] [] _
  refine pj_X_of (fun r h => pj_R_to (G24, 135, [(0, .ref 49), (1, .ref 6), (2, .int i)], [.int (Int32.ofInt 1)], 0, 0) 135 2 (fun _ => rfl) h) ?_
  exact pj_X_rt rfl rfl ⟨_, rfl, iG24, kG24, ⟨by omega, by omega⟩⟩
def kc_3 : pj_KT := ([(6, 7), (6, 8), (21, 7), (21, 8)], [6, 21, 22, 23, 24, 25, 26, 30, 33], [22, 23, 24, 25, 26, 30, 33])
theorem lp_ct_3 (G0 : pj_G) (hI0 : pj_Inv G0) : ∀ mn : Nat, (∀ (G : pj_G) (hI : pj_Inv G) (hK : pj_kpt kc_3 G0 G) (v2 : Int32) (v3 : Int32), ((0 : Int) ≤ v2.toInt ∧ v2.toInt ≤ 21) → ((0 : Int) ≤ v3.toInt ∧ v3.toInt ≤ 21) → (v2.toInt ≤ v3.toInt) → 21 - v3.toInt < (mn : Int) → pj_X 7 pj_m3 G 4 [(0, .ref 49), (1, .ref 6), (2, .int v2), (3, .int v3)] [] (fun v G' => ∃ y : Int32, v = some (.int y) ∧ pj_Inv G' ∧ pj_kpt kc_3 G0 G' ∧ ((0 : Int) ≤ y.toInt ∧ y.toInt ≤ 21))) := by
  have c0_ : (Int32.ofInt 0).toInt = 0 := by decide
  have c1_ : (Int32.ofInt 1).toInt = 1 := by decide
  intro mn
  induction mn with
  | zero =>
    intro G hI hK v2 v3 rv2 rv3 x0_ hm
    exfalso
    omega
  | succ mn ih =>
    intro G hI hK v2 v3 rv2 rv3 x0_ hm
    refine pj_X_of (fun r h => pj_R_to (G, 6, [(0, .ref 49), (1, .ref 6), (2, .int v2), (3, .int v3)], [.ref 49, .int v3], 0, 0) 6 3 (fun _ => rfl) h) ?_
    refine pj_X_of (fun r h => pj_T_gi hI rfl rfl h) ?_
    show pj_X _ _ G 9 [(0, .ref 49), (1, .ref 6), (2, .int v2), (3, .int v3)] [.int (pj_fi G 49 3), .int v3] _
    obtain ⟨y1, hy1⟩ : ∃ z : Int32, z = pj_fi G 49 3 := ⟨_, rfl⟩
    rw [← hy1]
    have ey1 : (pj_fi G 49 3).toInt = y1.toInt := by rw [hy1]
    have ry1 : (0 : Int) ≤ y1.toInt ∧ y1.toInt ≤ 21 := by rw [hy1]; exact hI.2.1 49 3 (0, 21) rfl
    cases b2 : pj_c1 .ge v3 y1 with
    | true =>
      have ub2 := pj_u_geT b2
      refine pj_X_of (fun r h => pj_R_icT 40 rfl rfl b2 h) ?_
      refine pj_X_of (fun r h => pj_R_to (G, 41, [(0, .ref 49), (1, .ref 6), (2, .int v2), (3, .int v3)], [.int v2], 0, 0) 41 2 (fun _ => rfl) h) ?_
      exact pj_X_rt rfl rfl ⟨_, rfl, hI, hK, ⟨by omega, by omega⟩⟩
    | false =>
      have ub2 := pj_u_geF b2
      refine pj_X_of (fun r h => pj_R_icF rfl b2 h) ?_
      refine pj_X_of (fun r h => pj_R_to (G, 14, [(0, .ref 49), (1, .ref 6), (2, .int v2), (3, .int v3)], [.int v3, .int v2], 0, 0) 14 3 (fun _ => rfl) h) ?_
      cases b3 : pj_c1 .ne v2 v3 with
      | true =>
        have ub3 := pj_u_neT b3
        refine pj_X_of (fun r h => pj_R_icT 40 rfl rfl b3 h) ?_
        refine pj_X_of (fun r h => pj_R_to (G, 41, [(0, .ref 49), (1, .ref 6), (2, .int v2), (3, .int v3)], [.int v2], 0, 0) 41 2 (fun _ => rfl) h) ?_
        exact pj_X_rt rfl rfl ⟨_, rfl, hI, hK, ⟨by omega, by omega⟩⟩
      | false =>
        have ub3 := pj_u_neF b3
        refine pj_X_of (fun r h => pj_R_icF rfl b3 h) ?_
        refine pj_X_of (fun r h => pj_R_to (G, 21, [(0, .ref 49), (1, .ref 6), (2, .int v2), (3, .int v3)], [.int v3, .ref 6, .ref 49, .int v2], 0, 0) 21 5 (fun _ => rfl) h) ?_
        refine pj_X_ca (vs := [.ref 49, .ref 6, .int v3]) rfl (fun _ => rfl) ⟨Nat.le_of_ble_eq_true rfl, Nat.le_of_ble_eq_true rfl, pj_T_rcv hI rfl⟩ ⟨rfl, rfl⟩ (pj_Y_up (by decide) (ct_4 G hI v3 ⟨by omega, by omega⟩)) ?_
        rintro _ G5 ⟨y4, rfl, iG5, jG5, ry4⟩
        have kG5 : pj_kpt kc_3 G0 G5 := pj_kpt_t hK (pj_kpt_s jG5 rfl)
        show pj_X _ _ G5 24 [(0, .ref 49), (1, .ref 6), (2, .int v2), (3, .int v3)] [.int y4, .int v2] _
        cases b6 : pj_c1 .eq y4 0 with
        | true =>
          have ub6 := pj_u0_eqT b6
          refine pj_X_of (fun r h => pj_R_ifT 31 rfl rfl b6 h) ?_
          refine pj_X_of (fun r h => pj_R_to (G5, 33, [(0, .ref 49), (1, .ref 6), (2, .int v2), (3, .int v3)], [.int (v2 + (Int32.ofInt 0))], 0, 0) 33 3 (fun _ => rfl) h) ?_
          obtain ⟨z7, hz7⟩ : ∃ z : Int32, z = v2 + (Int32.ofInt 0) := ⟨_, rfl⟩
          rw [← hz7]
          have fz7_0 : z7.toInt = v2.toInt + (Int32.ofInt 0).toInt := by rw [hz7]; exact pj_addI (by have := pj_i32 v2; have := pj_i32 (Int32.ofInt 0); omega) (by have := pj_i32 v2; have := pj_i32 (Int32.ofInt 0); omega)
          refine pj_X_of (fun r h => pj_R_to (G5, 37, [(3, .int (v3 + Int32.ofInt 1)), (2, .int z7), (0, .ref 49), (1, .ref 6)], [], 0, 0) 37 3 (fun _ => rfl) h) ?_
          obtain ⟨z8, hz8⟩ : ∃ z : Int32, z = v3 + Int32.ofInt 1 := ⟨_, rfl⟩
          rw [← hz8]
          have fz8_0 : z8.toInt = v3.toInt + (Int32.ofInt 1).toInt := by rw [hz8]; exact pj_addI (by have := pj_i32 v3; have := pj_i32 (Int32.ofInt 1); omega) (by have := pj_i32 v3; have := pj_i32 (Int32.ofInt 1); omega)
          refine pj_X_of (fun r h => pj_R_to (G5, 4, [(3, .int z8), (2, .int z7), (0, .ref 49), (1, .ref 6)], [], 0, 0) 4 2 (fun _ => rfl) h) ?_
          exact pj_X_sub [(0, .ref 49), (1, .ref 6), (2, .int z7), (3, .int z8)] (show List.Nodup [0, 1, 2, 3] by decide) ⟨rfl, rfl, rfl, rfl, trivial⟩ (ih G5 iG5 kG5 z7 z8 ⟨by omega, by omega⟩ ⟨by omega, by omega⟩ (by omega) (by omega))
        | false =>
          have ub6 := pj_u0_eqF b6
          refine pj_X_of (fun r h => pj_R_ifF rfl b6 h) ?_
          refine pj_X_of (fun r h => pj_R_to (G5, 33, [(0, .ref 49), (1, .ref 6), (2, .int v2), (3, .int v3)], [.int (v2 + (Int32.ofInt 1))], 0, 0) 33 4 (fun _ => rfl) h) ?_
          obtain ⟨z9, hz9⟩ : ∃ z : Int32, z = v2 + (Int32.ofInt 1) := ⟨_, rfl⟩
          rw [← hz9]
          have fz9_0 : z9.toInt = v2.toInt + (Int32.ofInt 1).toInt := by rw [hz9]; exact pj_addI (by have := pj_i32 v2; have := pj_i32 (Int32.ofInt 1); omega) (by have := pj_i32 v2; have := pj_i32 (Int32.ofInt 1); omega)
          refine pj_X_of (fun r h => pj_R_to (G5, 37, [(3, .int (v3 + Int32.ofInt 1)), (2, .int z9), (0, .ref 49), (1, .ref 6)], [], 0, 0) 37 3 (fun _ => rfl) h) ?_
          obtain ⟨z10, hz10⟩ : ∃ z : Int32, z = v3 + Int32.ofInt 1 := ⟨_, rfl⟩
          rw [← hz10]
          have fz10_0 : z10.toInt = v3.toInt + (Int32.ofInt 1).toInt := by rw [hz10]; exact pj_addI (by have := pj_i32 v3; have := pj_i32 (Int32.ofInt 1); omega) (by have := pj_i32 v3; have := pj_i32 (Int32.ofInt 1); omega)
          refine pj_X_of (fun r h => pj_R_to (G5, 4, [(3, .int z10), (2, .int z9), (0, .ref 49), (1, .ref 6)], [], 0, 0) 4 2 (fun _ => rfl) h) ?_
          exact pj_X_sub [(0, .ref 49), (1, .ref 6), (2, .int z9), (3, .int z10)] (show List.Nodup [0, 1, 2, 3] by decide) ⟨rfl, rfl, rfl, rfl, trivial⟩ (ih G5 iG5 kG5 z9 z10 ⟨by omega, by omega⟩ ⟨by omega, by omega⟩ (by omega) (by omega))
theorem ct_3 (G0 : pj_G) (hI : pj_Inv G0) : pj_Y 8 3 [.ref 49, .ref 6] G0 (fun v G' => ∃ y : Int32, v = some (.int y) ∧ pj_Inv G' ∧ pj_kpt kc_3 G0 G' ∧ ((0 : Int) ≤ y.toInt ∧ y.toInt ≤ 21)) := by
  have c0_ : (Int32.ofInt 0).toInt = 0 := by decide
  have c1_ : (Int32.ofInt 1).toInt = 1 := by decide
  refine pj_Y_X (M := pj_m3) rfl rfl (Nat.le_of_ble_eq_true rfl) ?_
  have hK : pj_kpt kc_3 G0 G0 := pj_kpt_r _ _
  show pj_X _ _ G0 0 [(0, .ref 49), (1, .ref 6)] [] _
  refine pj_X_of (fun r h => pj_R_to (G0, 4, [(3, .int (Int32.ofInt 0)), (2, .int (Int32.ofInt 0)), (0, .ref 49), (1, .ref 6)], [], 0, 0) 4 5 (fun _ => rfl) h) ?_
  exact pj_X_sub [(0, .ref 49), (1, .ref 6), (2, .int (Int32.ofInt 0)), (3, .int (Int32.ofInt 0))] (show List.Nodup [0, 1, 2, 3] by decide) ⟨rfl, rfl, rfl, rfl, trivial⟩ ((lp_ct_3 G0 hI   22) G0 hI hK (Int32.ofInt 0) (Int32.ofInt 0) ⟨by omega, by omega⟩ ⟨by omega, by omega⟩ (by omega) (by omega))
def kc_132 : pj_KT := ([(2, 1), (2, 2), (2, 3), (2, 4), (4, 1), (6, 7), (6, 8), (21, 7), (21, 8), (49, 3), (53, 1), (53, 2), (57, 0), (57, 5), (57, 7), (57, 8), (63, 0), (63, 5), (63, 7), (63, 8), (69, 0), (69, 5), (69, 7), (69, 8), (75, 0), (75, 5), (75, 7), (75, 8), (81, 0), (81, 5), (81, 7), (81, 8), (87, 0), (87, 5), (87, 7), (87, 8), (93, 0), (93, 5), (93, 7), (93, 8), (99, 0), (99, 5), (99, 7), (99, 8), (105, 0), (105, 5), (105, 7), (105, 8), (111, 0), (111, 5), (111, 7), (111, 8), (117, 0), (117, 5), (117, 7), (117, 8), (123, 0), (123, 5), (123, 7), (123, 8), (129, 0), (129, 5), (129, 7), (129, 8), (135, 0), (135, 5), (135, 7), (135, 8), (141, 0), (141, 5), (141, 7), (141, 8), (147, 0), (147, 5), (147, 7), (147, 8)], [2, 4, 5, 6, 21, 22, 23, 24, 25, 26, 30, 33, 49, 50, 51, 52, 53, 57, 58, 59, 60, 61, 62, 63, 64, 65, 66, 67, 68, 69, 70, 71, 72, 73, 74, 75, 76, 77, 78, 79, 80, 81, 82, 83, 84, 85, 86, 87, 88, 89, 90, 91, 92, 93, 94, 95, 96, 97, 98, 99, 100, 101, 102, 103, 104, 105, 106, 107, 108, 109, 110, 111, 112, 113, 114, 115, 116, 117, 118, 119, 120, 121, 122, 123, 124, 125, 126, 127, 128, 129, 130, 131, 132, 133, 134, 135, 136, 137, 138, 139, 140, 141, 142, 143, 144, 145, 146, 147, 148, 149, 150, 151, 152], [22, 23, 24, 25, 26, 30, 33, 50, 51, 52, 58, 59, 60, 61, 62, 64, 65, 66, 67, 68, 70, 71, 72, 73, 74, 76, 77, 78, 79, 80, 82, 83, 84, 85, 86, 88, 89, 90, 91, 92, 94, 95, 96, 97, 98, 100, 101, 102, 103, 104, 106, 107, 108, 109, 110, 112, 113, 114, 115, 116, 118, 119, 120, 121, 122, 124, 125, 126, 127, 128, 130, 131, 132, 133, 134, 136, 137, 138, 139, 140, 142, 143, 144, 145, 146, 148, 149, 150, 151, 152])
theorem ct_132 (G0 : pj_G) (hI : pj_Inv G0) : pj_Y 20 132 [.ref 1] G0 (fun v G' => ∃ y : Int32, v = some (.int y) ∧ pj_Inv G' ∧ pj_kpt kc_132 G0 G' ∧ ((-2147483648 : Int) ≤ y.toInt ∧ y.toInt ≤ 2147483647)) := by
  have c0_ : ((Int8.ofInt 60).toInt32).toInt = 60 := by decide
  have c1_ : (Int32.ofInt (-1)).toInt = -1 := by decide
  have c2_ : (Int32.ofInt 0).toInt = 0 := by decide
  have c3_ : (Int32.ofInt 1).toInt = 1 := by decide
  refine pj_Y_X (M := pj_m132) rfl rfl (Nat.le_of_ble_eq_true rfl) ?_
  have hK : pj_kpt kc_132 G0 G0 := pj_kpt_r _ _
  show pj_X _ _ G0 0 [(0, .ref 1)] [] _
  refine pj_X_of (fun r h => pj_R_to (G0, 1, [(0, .ref 1)], [.ref 1], 0, 0) 1 2 (fun _ => rfl) h) ?_
  refine pj_X_of (fun r h => pj_T_gr hI rfl rfl rfl h) ?_
  refine pj_X_of (fun r h => pj_R_to (G0, 6, [(0, .ref 1)], [.int ((Int8.ofInt 60).toInt32), .ref 2], 0, 0) 6 2 (fun _ => rfl) h) ?_
  refine pj_X_ca (vs := [.ref 2, .int ((Int8.ofInt 60).toInt32)]) rfl (fun _ => rfl) ⟨Nat.le_of_ble_eq_true rfl, Nat.le_of_ble_eq_true rfl, pj_T_rcv hI rfl⟩ ⟨rfl, rfl⟩ (pj_Y_up (by decide) (ct_79 G0 hI ((Int8.ofInt 60).toInt32) ⟨by omega, by omega⟩)) ?_
  rintro _ G2 ⟨rfl, iG2, jG2⟩
  have kG2 : pj_kpt kc_132 G0 G2 := pj_kpt_t hK (pj_kpt_s jG2 rfl)
  show pj_X _ _ G2 9 [(0, .ref 1)] [] _
  refine pj_X_of (fun r h => pj_R_to (G2, 10, [(0, .ref 1)], [.ref 1], 0, 0) 10 2 (fun _ => rfl) h) ?_
  refine pj_X_of (fun r h => pj_T_gr iG2 rfl rfl rfl h) ?_
  refine pj_X_of (fun r h => pj_R_to (G2, 14, [(0, .ref 1)], [.ref 1, .ref 49], 0, 0) 14 2 (fun _ => rfl) h) ?_
  refine pj_X_of (fun r h => pj_T_gr iG2 rfl rfl rfl h) ?_
  refine pj_X_ca (vs := [.ref 49, .ref 2]) rfl (fun _ => rfl) ⟨Nat.le_of_ble_eq_true rfl, Nat.le_of_ble_eq_true rfl, pj_T_rcv iG2 rfl⟩ ⟨rfl, rfl⟩ (pj_Y_up (by decide) (ct_1 G2 iG2)) ?_
  rintro _ G4 ⟨rfl, iG4, jG4⟩
  have kG4 : pj_kpt kc_132 G0 G4 := pj_kpt_t kG2 (pj_kpt_s jG4 rfl)
  show pj_X _ _ G4 20 [(0, .ref 1)] [] _
  refine pj_X_of (fun r h => pj_R_to (G4, 21, [(0, .ref 1)], [.ref 1], 0, 0) 21 2 (fun _ => rfl) h) ?_
  refine pj_X_of (fun r h => pj_T_gr iG4 rfl rfl rfl h) ?_
  refine pj_X_ca (vs := [.ref 2]) rfl (fun _ => rfl) ⟨Nat.le_of_ble_eq_true rfl, Nat.le_of_ble_eq_true rfl, pj_T_rcv iG4 rfl⟩ ⟨rfl, rfl⟩ (pj_Y_up (by decide) (ct_88 G4 iG4)) ?_
  rintro _ G6 ⟨y5, rfl, iG6, jG6, ry5, ey5⟩
  have kG6 : pj_kpt kc_132 G0 G6 := pj_kpt_t kG4 (pj_kpt_s jG6 rfl)
  show pj_X _ _ G6 27 [(0, .ref 1)] [.int y5] _
  refine pj_X_of (fun r h => pj_R_to (G6, 30, [(1, .int y5), (0, .ref 1)], [.int (Int32.ofInt (-1)), .int y5], 0, 0) 30 4 (fun _ => rfl) h) ?_
  cases b7 : pj_c1 .eq y5 (Int32.ofInt (-1)) with
  | true =>
    have ub7 := pj_u_eqT b7
    refine pj_X_of (fun r h => pj_R_icT 38 rfl rfl b7 h) ?_
    refine pj_X_of (fun r h => pj_R_to (G6, 39, [(1, .int y5), (0, .ref 1)], [.ref 1], 0, 0) 39 2 (fun _ => rfl) h) ?_
    refine pj_X_of (fun r h => pj_T_gr iG6 rfl rfl rfl h) ?_
    refine pj_X_of (fun r h => pj_R_to (G6, 43, [(1, .int y5), (0, .ref 1)], [.ref 1, .ref 53], 0, 0) 43 2 (fun _ => rfl) h) ?_
    refine pj_X_of (fun r h => pj_T_gr iG6 rfl rfl rfl h) ?_
    refine pj_X_of (fun r h => pj_T_gr iG6 rfl rfl rfl h) ?_
    refine pj_X_ca (vs := [.ref 53, .ref 21]) rfl (fun _ => rfl) ⟨Nat.le_of_ble_eq_true rfl, Nat.le_of_ble_eq_true rfl, pj_T_rcv iG6 rfl⟩ ⟨rfl, rfl⟩ (pj_Y_up (by decide) (ct_33 G6 iG6)) ?_
    rintro _ G9 ⟨rfl, iG9, jG9⟩
    have kG9 : pj_kpt kc_132 G0 G9 := pj_kpt_t kG6 (pj_kpt_s jG9 rfl)
    show pj_X _ _ G9 52 [(1, .int y5), (0, .ref 1)] [] _
    refine pj_X_of (fun r h => pj_R_to (G9, 53, [(1, .int y5), (0, .ref 1)], [.ref 1], 0, 0) 53 2 (fun _ => rfl) h) ?_
    refine pj_X_of (fun r h => pj_T_gr iG9 rfl rfl rfl h) ?_
    refine pj_X_of (fun r h => pj_T_gr iG9 rfl rfl rfl h) ?_
    refine pj_X_of (fun r h => pj_T_gi iG9 rfl rfl h) ?_
    show pj_X _ _ G9 62 [(1, .int y5), (0, .ref 1)] [.int (pj_fi G9 21 8)] _
    obtain ⟨y10, hy10⟩ : ∃ z : Int32, z = pj_fi G9 21 8 := ⟨_, rfl⟩
    rw [← hy10]
    have ey10 : (pj_fi G9 21 8).toInt = y10.toInt := by rw [hy10]
    refine pj_X_of (fun r h => pj_R_to (G9, 64, [(2, .int y10), (1, .int y5), (0, .ref 1)], [.ref 1], 0, 0) 64 3 (fun _ => rfl) h) ?_
    refine pj_X_of (fun r h => pj_T_gr iG9 rfl rfl rfl h) ?_
    refine pj_X_of (fun r h => pj_R_to (G9, 68, [(2, .int y10), (1, .int y5), (0, .ref 1)], [.ref 1, .ref 49], 0, 0) 68 2 (fun _ => rfl) h) ?_
    refine pj_X_of (fun r h => pj_T_gr iG9 rfl rfl rfl h) ?_
    refine pj_X_ca (vs := [.ref 49, .ref 6]) rfl (fun _ => rfl) ⟨Nat.le_of_ble_eq_true rfl, Nat.le_of_ble_eq_true rfl, pj_T_rcv iG9 rfl⟩ ⟨rfl, rfl⟩ (pj_Y_up (by decide) (ct_3 G9 iG9)) ?_
    rintro _ G12 ⟨y11, rfl, iG12, jG12, ry11⟩
    have kG12 : pj_kpt kc_132 G0 G12 := pj_kpt_t kG9 (pj_kpt_s jG12 rfl)
    show pj_X _ _ G12 74 [(2, .int y10), (1, .int y5), (0, .ref 1)] [.int y11] _
    refine pj_X_of (fun r h => pj_R_to (G12, 76, [(3, .int y11), (2, .int y10), (1, .int y5), (0, .ref 1)], [.ref 1], 0, 0) 76 3 (fun _ => rfl) h) ?_
    refine pj_X_of (fun r h => pj_T_gr iG12 rfl rfl rfl h) ?_
    refine pj_X_of (fun r h => pj_R_to (G12, 80, [(3, .int y11), (2, .int y10), (1, .int y5), (0, .ref 1)], [.int y11, .ref 53], 0, 0) 80 2 (fun _ => rfl) h) ?_
    cases b13 : pj_c1 .le y11 0 with
    | true =>
      have ub13 := pj_u0_leT b13
      refine pj_X_of (fun r h => pj_R_ifT 87 rfl rfl b13 h) ?_
      refine pj_X_of (fun r h => pj_R_to (G12, 88, [(3, .int y11), (2, .int y10), (1, .int y5), (0, .ref 1)], [.int (Int32.ofInt 0), .ref 53], 0, 0) 88 2 (fun _ => rfl) h) ?_
      refine pj_X_ca (vs := [.ref 53, .int (Int32.ofInt 0)]) rfl (fun _ => rfl) ⟨Nat.le_of_ble_eq_true rfl, Nat.le_of_ble_eq_true rfl, pj_T_rcv iG12 rfl⟩ ⟨rfl, rfl⟩ (pj_Y_up (by decide) (ct_34 G12 iG12 (Int32.ofInt 0) ⟨by omega, by omega⟩)) ?_
      rintro _ G15 ⟨rfl, iG15, jG15⟩
      have kG15 : pj_kpt kc_132 G0 G15 := pj_kpt_t kG12 (pj_kpt_s jG15 rfl)
      show pj_X _ _ G15 91 [(3, .int y11), (2, .int y10), (1, .int y5), (0, .ref 1)] [] _
      refine pj_X_of (fun r h => pj_R_to (G15, 92, [(3, .int y11), (2, .int y10), (1, .int y5), (0, .ref 1)], [.ref 1], 0, 0) 92 2 (fun _ => rfl) h) ?_
      refine pj_X_of (fun r h => pj_T_gr iG15 rfl rfl rfl h) ?_
      refine pj_X_of (fun r h => pj_R_to (G15, 97, [(3, .int y11), (2, .int y10), (1, .int y5), (0, .ref 1)], [.ref 1, .int y11, .ref 4], 0, 0) 97 3 (fun _ => rfl) h) ?_
      refine pj_X_of (fun r h => pj_T_gr iG15 rfl rfl rfl h) ?_
      refine pj_X_of (fun r h => pj_T_gi iG15 rfl rfl h) ?_
      show pj_X _ _ G15 103 [(3, .int y11), (2, .int y10), (1, .int y5), (0, .ref 1)] [.int (pj_fi G15 49 3), .int y11, .ref 4] _
      obtain ⟨y16, hy16⟩ : ∃ z : Int32, z = pj_fi G15 49 3 := ⟨_, rfl⟩
      rw [← hy16]
      have ey16 : (pj_fi G15 49 3).toInt = y16.toInt := by rw [hy16]
      have ry16 : (0 : Int) ≤ y16.toInt ∧ y16.toInt ≤ 21 := by rw [hy16]; exact iG15.2.1 49 3 (0, 21) rfl
      cases b17 : pj_c1 .ge y11 y16 with
      | true =>
        have ub17 := pj_u_geT b17
        refine pj_X_of (fun r h => pj_R_icT 110 rfl rfl b17 h) ?_
        refine pj_X_of (fun r h => pj_R_to (G15, 112, [(3, .int y11), (2, .int y10), (1, .int y5), (0, .ref 1)], [.ref 1, .long (Int64.ofNat 0), .ref 4], 0, 0) 112 3 (fun _ => rfl) h) ?_
        refine pj_X_of (fun r h => pj_T_gr iG15 rfl rfl rfl h) ?_
        refine pj_X_of (fun r h => pj_T_gr iG15 rfl rfl rfl h) ?_
        refine pj_X_of (fun r h => pj_T_gi iG15 rfl rfl h) ?_
        show pj_X _ _ G15 121 [(3, .int y11), (2, .int y10), (1, .int y5), (0, .ref 1)] [.int (pj_fi G15 21 8), .long (Int64.ofNat 0), .ref 4] _
        obtain ⟨y18, hy18⟩ : ∃ z : Int32, z = pj_fi G15 21 8 := ⟨_, rfl⟩
        rw [← hy18]
        have ey18 : (pj_fi G15 21 8).toInt = y18.toInt := by rw [hy18]
        refine pj_X_of (fun r h => pj_R_to (G15, 123, [(3, .int y11), (2, .int y10), (1, .int y5), (0, .ref 1)], [.int (y18 - y10), .long (Int64.ofNat 0), .ref 4], 0, 0) 123 3 (fun _ => rfl) h) ?_
        obtain ⟨z19, hz19⟩ : ∃ z : Int32, z = y18 - y10 := ⟨_, rfl⟩
        rw [← hz19]
        refine pj_X_of (fun r h => pj_R_to (G15, 124, [(3, .int y11), (2, .int y10), (1, .int y5), (0, .ref 1)], [.long z19.toInt64, .long (Int64.ofNat 0), .ref 4], 0, 0) 124 2 (fun _ => rfl) h) ?_
        have lc20 : (Int64.ofNat 0).toInt = 0 := by decide
        have lc21 : (z19.toInt64).toInt = z19.toInt := Int32.toInt_toInt64 _
        refine pj_X_ca (vs := [.ref 4, .long (Int64.ofNat 0), .long z19.toInt64]) rfl (fun _ => rfl) ⟨Nat.le_of_ble_eq_true rfl, Nat.le_of_ble_eq_true rfl, pj_T_rcv iG15 rfl⟩ ⟨rfl, rfl⟩ (pj_Y_up (by decide) (ct_56x G15 iG15 (Int64.ofNat 0) z19.toInt64)) ?_
        rintro _ G23 ⟨rfl, iG23, jG23, fy22⟩
        have kG23 : pj_kpt kc_132 G0 G23 := pj_kpt_t kG15 (pj_kpt_s jG23 rfl)
        show pj_X _ _ G23 127 [(3, .int y11), (2, .int y10), (1, .int y5), (0, .ref 1)] [] _
        refine pj_X_of (fun r h => pj_R_to (G23, 128, [(3, .int y11), (2, .int y10), (1, .int y5), (0, .ref 1)], [.int y11], 0, 0) 128 2 (fun _ => rfl) h) ?_
        exact pj_X_rt rfl rfl ⟨_, rfl, iG23, kG23, pj_i32 _⟩
      | false =>
        have ub17 := pj_u_geF b17
        refine pj_X_of (fun r h => pj_R_icF rfl b17 h) ?_
        refine pj_X_of (fun r h => pj_R_to (G15, 112, [(3, .int y11), (2, .int y10), (1, .int y5), (0, .ref 1)], [.ref 1, .long (Int64.ofNat 1), .ref 4], 0, 0) 112 4 (fun _ => rfl) h) ?_
        refine pj_X_of (fun r h => pj_T_gr iG15 rfl rfl rfl h) ?_
        refine pj_X_of (fun r h => pj_T_gr iG15 rfl rfl rfl h) ?_
        refine pj_X_of (fun r h => pj_T_gi iG15 rfl rfl h) ?_
        show pj_X _ _ G15 121 [(3, .int y11), (2, .int y10), (1, .int y5), (0, .ref 1)] [.int (pj_fi G15 21 8), .long (Int64.ofNat 1), .ref 4] _
        obtain ⟨y24, hy24⟩ : ∃ z : Int32, z = pj_fi G15 21 8 := ⟨_, rfl⟩
        rw [← hy24]
        have ey24 : (pj_fi G15 21 8).toInt = y24.toInt := by rw [hy24]
        refine pj_X_of (fun r h => pj_R_to (G15, 123, [(3, .int y11), (2, .int y10), (1, .int y5), (0, .ref 1)], [.int (y24 - y10), .long (Int64.ofNat 1), .ref 4], 0, 0) 123 3 (fun _ => rfl) h) ?_
        obtain ⟨z25, hz25⟩ : ∃ z : Int32, z = y24 - y10 := ⟨_, rfl⟩
        rw [← hz25]
        refine pj_X_of (fun r h => pj_R_to (G15, 124, [(3, .int y11), (2, .int y10), (1, .int y5), (0, .ref 1)], [.long z25.toInt64, .long (Int64.ofNat 1), .ref 4], 0, 0) 124 2 (fun _ => rfl) h) ?_
        have lc26 : (Int64.ofNat 1).toInt = 1 := by decide
        have lc27 : (z25.toInt64).toInt = z25.toInt := Int32.toInt_toInt64 _
        refine pj_X_ca (vs := [.ref 4, .long (Int64.ofNat 1), .long z25.toInt64]) rfl (fun _ => rfl) ⟨Nat.le_of_ble_eq_true rfl, Nat.le_of_ble_eq_true rfl, pj_T_rcv iG15 rfl⟩ ⟨rfl, rfl⟩ (pj_Y_up (by decide) (ct_56x G15 iG15 (Int64.ofNat 1) z25.toInt64)) ?_
        rintro _ G29 ⟨rfl, iG29, jG29, fy28⟩
        have kG29 : pj_kpt kc_132 G0 G29 := pj_kpt_t kG15 (pj_kpt_s jG29 rfl)
        show pj_X _ _ G29 127 [(3, .int y11), (2, .int y10), (1, .int y5), (0, .ref 1)] [] _
        refine pj_X_of (fun r h => pj_R_to (G29, 128, [(3, .int y11), (2, .int y10), (1, .int y5), (0, .ref 1)], [.int y11], 0, 0) 128 2 (fun _ => rfl) h) ?_
        exact pj_X_rt rfl rfl ⟨_, rfl, iG29, kG29, pj_i32 _⟩
    | false =>
      have ub13 := pj_u0_leF b13
      refine pj_X_of (fun r h => pj_R_ifF rfl b13 h) ?_
      refine pj_X_of (fun r h => pj_R_to (G12, 88, [(3, .int y11), (2, .int y10), (1, .int y5), (0, .ref 1)], [.int (Int32.ofInt 1), .ref 53], 0, 0) 88 3 (fun _ => rfl) h) ?_
      refine pj_X_ca (vs := [.ref 53, .int (Int32.ofInt 1)]) rfl (fun _ => rfl) ⟨Nat.le_of_ble_eq_true rfl, Nat.le_of_ble_eq_true rfl, pj_T_rcv iG12 rfl⟩ ⟨rfl, rfl⟩ (pj_Y_up (by decide) (ct_34 G12 iG12 (Int32.ofInt 1) ⟨by omega, by omega⟩)) ?_
      rintro _ G31 ⟨rfl, iG31, jG31⟩
      have kG31 : pj_kpt kc_132 G0 G31 := pj_kpt_t kG12 (pj_kpt_s jG31 rfl)
      show pj_X _ _ G31 91 [(3, .int y11), (2, .int y10), (1, .int y5), (0, .ref 1)] [] _
      refine pj_X_of (fun r h => pj_R_to (G31, 92, [(3, .int y11), (2, .int y10), (1, .int y5), (0, .ref 1)], [.ref 1], 0, 0) 92 2 (fun _ => rfl) h) ?_
      refine pj_X_of (fun r h => pj_T_gr iG31 rfl rfl rfl h) ?_
      refine pj_X_of (fun r h => pj_R_to (G31, 97, [(3, .int y11), (2, .int y10), (1, .int y5), (0, .ref 1)], [.ref 1, .int y11, .ref 4], 0, 0) 97 3 (fun _ => rfl) h) ?_
      refine pj_X_of (fun r h => pj_T_gr iG31 rfl rfl rfl h) ?_
      refine pj_X_of (fun r h => pj_T_gi iG31 rfl rfl h) ?_
      show pj_X _ _ G31 103 [(3, .int y11), (2, .int y10), (1, .int y5), (0, .ref 1)] [.int (pj_fi G31 49 3), .int y11, .ref 4] _
      obtain ⟨y32, hy32⟩ : ∃ z : Int32, z = pj_fi G31 49 3 := ⟨_, rfl⟩
      rw [← hy32]
      have ey32 : (pj_fi G31 49 3).toInt = y32.toInt := by rw [hy32]
      have ry32 : (0 : Int) ≤ y32.toInt ∧ y32.toInt ≤ 21 := by rw [hy32]; exact iG31.2.1 49 3 (0, 21) rfl
      cases b33 : pj_c1 .ge y11 y32 with
      | true =>
        have ub33 := pj_u_geT b33
        refine pj_X_of (fun r h => pj_R_icT 110 rfl rfl b33 h) ?_
        refine pj_X_of (fun r h => pj_R_to (G31, 112, [(3, .int y11), (2, .int y10), (1, .int y5), (0, .ref 1)], [.ref 1, .long (Int64.ofNat 0), .ref 4], 0, 0) 112 3 (fun _ => rfl) h) ?_
        refine pj_X_of (fun r h => pj_T_gr iG31 rfl rfl rfl h) ?_
        refine pj_X_of (fun r h => pj_T_gr iG31 rfl rfl rfl h) ?_
        refine pj_X_of (fun r h => pj_T_gi iG31 rfl rfl h) ?_
        show pj_X _ _ G31 121 [(3, .int y11), (2, .int y10), (1, .int y5), (0, .ref 1)] [.int (pj_fi G31 21 8), .long (Int64.ofNat 0), .ref 4] _
        obtain ⟨y34, hy34⟩ : ∃ z : Int32, z = pj_fi G31 21 8 := ⟨_, rfl⟩
        rw [← hy34]
        have ey34 : (pj_fi G31 21 8).toInt = y34.toInt := by rw [hy34]
        refine pj_X_of (fun r h => pj_R_to (G31, 123, [(3, .int y11), (2, .int y10), (1, .int y5), (0, .ref 1)], [.int (y34 - y10), .long (Int64.ofNat 0), .ref 4], 0, 0) 123 3 (fun _ => rfl) h) ?_
        obtain ⟨z35, hz35⟩ : ∃ z : Int32, z = y34 - y10 := ⟨_, rfl⟩
        rw [← hz35]
        refine pj_X_of (fun r h => pj_R_to (G31, 124, [(3, .int y11), (2, .int y10), (1, .int y5), (0, .ref 1)], [.long z35.toInt64, .long (Int64.ofNat 0), .ref 4], 0, 0) 124 2 (fun _ => rfl) h) ?_
        have lc36 : (Int64.ofNat 0).toInt = 0 := by decide
        have lc37 : (z35.toInt64).toInt = z35.toInt := Int32.toInt_toInt64 _
        refine pj_X_ca (vs := [.ref 4, .long (Int64.ofNat 0), .long z35.toInt64]) rfl (fun _ => rfl) ⟨Nat.le_of_ble_eq_true rfl, Nat.le_of_ble_eq_true rfl, pj_T_rcv iG31 rfl⟩ ⟨rfl, rfl⟩ (pj_Y_up (by decide) (ct_56x G31 iG31 (Int64.ofNat 0) z35.toInt64)) ?_
        rintro _ G39 ⟨rfl, iG39, jG39, fy38⟩
        have kG39 : pj_kpt kc_132 G0 G39 := pj_kpt_t kG31 (pj_kpt_s jG39 rfl)
        show pj_X _ _ G39 127 [(3, .int y11), (2, .int y10), (1, .int y5), (0, .ref 1)] [] _
        refine pj_X_of (fun r h => pj_R_to (G39, 128, [(3, .int y11), (2, .int y10), (1, .int y5), (0, .ref 1)], [.int y11], 0, 0) 128 2 (fun _ => rfl) h) ?_
        exact pj_X_rt rfl rfl ⟨_, rfl, iG39, kG39, pj_i32 _⟩
      | false =>
        have ub33 := pj_u_geF b33
        refine pj_X_of (fun r h => pj_R_icF rfl b33 h) ?_
        refine pj_X_of (fun r h => pj_R_to (G31, 112, [(3, .int y11), (2, .int y10), (1, .int y5), (0, .ref 1)], [.ref 1, .long (Int64.ofNat 1), .ref 4], 0, 0) 112 4 (fun _ => rfl) h) ?_
        refine pj_X_of (fun r h => pj_T_gr iG31 rfl rfl rfl h) ?_
        refine pj_X_of (fun r h => pj_T_gr iG31 rfl rfl rfl h) ?_
        refine pj_X_of (fun r h => pj_T_gi iG31 rfl rfl h) ?_
        show pj_X _ _ G31 121 [(3, .int y11), (2, .int y10), (1, .int y5), (0, .ref 1)] [.int (pj_fi G31 21 8), .long (Int64.ofNat 1), .ref 4] _
        obtain ⟨y40, hy40⟩ : ∃ z : Int32, z = pj_fi G31 21 8 := ⟨_, rfl⟩
        rw [← hy40]
        have ey40 : (pj_fi G31 21 8).toInt = y40.toInt := by rw [hy40]
        refine pj_X_of (fun r h => pj_R_to (G31, 123, [(3, .int y11), (2, .int y10), (1, .int y5), (0, .ref 1)], [.int (y40 - y10), .long (Int64.ofNat 1), .ref 4], 0, 0) 123 3 (fun _ => rfl) h) ?_
        obtain ⟨z41, hz41⟩ : ∃ z : Int32, z = y40 - y10 := ⟨_, rfl⟩
        rw [← hz41]
        refine pj_X_of (fun r h => pj_R_to (G31, 124, [(3, .int y11), (2, .int y10), (1, .int y5), (0, .ref 1)], [.long z41.toInt64, .long (Int64.ofNat 1), .ref 4], 0, 0) 124 2 (fun _ => rfl) h) ?_
        have lc42 : (Int64.ofNat 1).toInt = 1 := by decide
        have lc43 : (z41.toInt64).toInt = z41.toInt := Int32.toInt_toInt64 _
        refine pj_X_ca (vs := [.ref 4, .long (Int64.ofNat 1), .long z41.toInt64]) rfl (fun _ => rfl) ⟨Nat.le_of_ble_eq_true rfl, Nat.le_of_ble_eq_true rfl, pj_T_rcv iG31 rfl⟩ ⟨rfl, rfl⟩ (pj_Y_up (by decide) (ct_56x G31 iG31 (Int64.ofNat 1) z41.toInt64)) ?_
        rintro _ G45 ⟨rfl, iG45, jG45, fy44⟩
        have kG45 : pj_kpt kc_132 G0 G45 := pj_kpt_t kG31 (pj_kpt_s jG45 rfl)
        show pj_X _ _ G45 127 [(3, .int y11), (2, .int y10), (1, .int y5), (0, .ref 1)] [] _
        refine pj_X_of (fun r h => pj_R_to (G45, 128, [(3, .int y11), (2, .int y10), (1, .int y5), (0, .ref 1)], [.int y11], 0, 0) 128 2 (fun _ => rfl) h) ?_
        exact pj_X_rt rfl rfl ⟨_, rfl, iG45, kG45, pj_i32 _⟩
  | false =>
    have ub7 := pj_u_eqF b7
    refine pj_X_of (fun r h => pj_R_icF rfl b7 h) ?_
    refine pj_X_of (fun r h => pj_R_to (G6, 34, [(1, .int y5), (0, .ref 1)], [.int y5], 0, 0) 34 2 (fun _ => rfl) h) ?_
    refine pj_X_ca (vs := [.int y5]) rfl (fun _ => rfl) ⟨Nat.le_of_ble_eq_true rfl, Nat.le_of_ble_eq_true rfl, rfl⟩ ⟨rfl, rfl⟩ (pj_Y_up (by decide) (ct_162 G6 iG6 y5)) ?_
    rintro _ _ ⟨y46, rfl, rfl, ry46⟩
    show pj_X _ _ G6 37 [(1, .int y5), (0, .ref 1)] [.int y46] _
    exact pj_X_rt rfl rfl ⟨_, rfl, iG6, kG6, pj_i32 _⟩
